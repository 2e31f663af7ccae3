set_option maxRecDepth 20000 in
theorem ggX6_init_X5_init : GoodIn wsX6_init wsX5_init := goodIn_r _ [28, 29, 2, 3, 30, 31, 32, 33, 34, 35, 36, 37, 38, 39, 40, 41, 42, 43, 44, 45, 46, 47, 48, 49, 50, 51, 52, 53, 54, 55, 56, 57, 58, 59, 60, 61, 62, 63, 64, 65, 66, 67, 68, 69, 70, 71, 72, 73, 74, 124, 125, 126, 127, 128, 129, 130, 131, 97, 98, 99, 100, 101, 102, 103, 104, 105, 106, 107, 132] rfl (by decide +kernel)
set_option maxRecDepth 20000 in
theorem gX6_init_X5_init : GoodIn wsX6_init (wsX5_init) := ggX6_init_X5_init
set_option maxRecDepth 20000 in
theorem ggX6_init_X0_init : GoodIn wsX6_init wsX0_init := goodIn_r _ [77, 78, 2, 3, 79, 80, 81, 5, 6, 82, 27, 28, 29, 30, 31, 32, 33, 34, 35, 36, 37, 38, 39, 40, 41, 42, 43, 44, 45, 46, 47, 48, 49, 50, 51, 52, 53, 54, 55, 56, 57, 58, 59, 60, 61, 62, 63, 64, 65, 66, 67, 68, 69, 70, 71, 72, 73, 74, 118, 119, 97, 98, 99, 100, 101, 102, 103, 104, 105, 106, 107, 124, 125, 126, 127, 128, 129, 130, 131, 132] rfl (by decide +kernel)
set_option maxRecDepth 20000 in
theorem gX6_init_X0_init : GoodIn wsX6_init (wsX0_init) := ggX6_init_X0_init
set_option maxRecDepth 20000 in
theorem ggX6_init_X3_init : GoodIn wsX6_init wsX3_init := goodIn_r _ [84, 85, 2, 3, 86, 35, 36, 87, 88, 89, 64, 65, 66, 67, 48, 49, 50, 68, 69, 132, 120, 121] rfl (by decide +kernel)
set_option maxRecDepth 20000 in
theorem gX6_init_X3_init_n35 : GoodIn wsX6_init (wsX3_init) := ggX6_init_X3_init
set_option maxRecDepth 20000 in
theorem ggX6_init_X1_init : GoodIn wsX6_init wsX1_init := goodIn_r _ [91, 92, 2, 3, 93, 35, 36, 94, 95, 96, 64, 65, 66, 67, 48, 49, 50, 68, 69, 132, 122, 123] rfl (by decide +kernel)
set_option maxRecDepth 20000 in
theorem gX6_init_X1_init_n42 : GoodIn wsX6_init (wsX1_init) := ggX6_init_X1_init
theorem dX6_init_0 : decode cX6_init 0 = .ok (.aload_n 0, 1) := by decide +kernel
theorem dX6_init_1 : decode cX6_init 1 = .ok (.invokespecial 1, 3) := by decide +kernel
theorem dX6_init_4 : decode cX6_init 4 = .ok (.aload_n 0, 1) := by decide +kernel
theorem dX6_init_5 : decode cX6_init 5 = .ok (.new 7, 3) := by decide +kernel
theorem dX6_init_8 : decode cX6_init 8 = .ok (.dup, 1) := by decide +kernel
theorem dX6_init_9 : decode cX6_init 9 = .ok (.invokespecial 9, 3) := by decide +kernel
theorem dX6_init_12 : decode cX6_init 12 = .ok (.putfield 10, 3) := by decide +kernel
theorem dX6_init_15 : decode cX6_init 15 = .ok (.aload_n 0, 1) := by decide +kernel
theorem dX6_init_16 : decode cX6_init 16 = .ok (.new 7, 3) := by decide +kernel
theorem dX6_init_19 : decode cX6_init 19 = .ok (.dup, 1) := by decide +kernel
theorem dX6_init_20 : decode cX6_init 20 = .ok (.invokespecial 9, 3) := by decide +kernel
theorem dX6_init_23 : decode cX6_init 23 = .ok (.putfield 16, 3) := by decide +kernel
theorem dX6_init_26 : decode cX6_init 26 = .ok (.aload_n 0, 1) := by decide +kernel
theorem dX6_init_27 : decode cX6_init 27 = .ok (.new 7, 3) := by decide +kernel
theorem dX6_init_30 : decode cX6_init 30 = .ok (.dup, 1) := by decide +kernel
theorem dX6_init_31 : decode cX6_init 31 = .ok (.invokespecial 9, 3) := by decide +kernel
theorem dX6_init_34 : decode cX6_init 34 = .ok (.putfield 19, 3) := by decide +kernel
theorem dX6_init_37 : decode cX6_init 37 = .ok (.aload_n 0, 1) := by decide +kernel
theorem dX6_init_38 : decode cX6_init 38 = .ok (.iconst 0, 1) := by decide +kernel
theorem dX6_init_39 : decode cX6_init 39 = .ok (.putfield 22, 3) := by decide +kernel
theorem dX6_init_42 : decode cX6_init 42 = .ok (.aload_n 0, 1) := by decide +kernel
theorem dX6_init_43 : decode cX6_init 43 = .ok (.new 26, 3) := by decide +kernel
theorem dX6_init_46 : decode cX6_init 46 = .ok (.dup, 1) := by decide +kernel
theorem dX6_init_47 : decode cX6_init 47 = .ok (.invokespecial 28, 3) := by decide +kernel
theorem dX6_init_50 : decode cX6_init 50 = .ok (.putfield 29, 3) := by decide +kernel
theorem dX6_init_53 : decode cX6_init 53 = .ok (.aload_n 0, 1) := by decide +kernel
theorem dX6_init_54 : decode cX6_init 54 = .ok (.new 33, 3) := by decide +kernel
theorem dX6_init_57 : decode cX6_init 57 = .ok (.dup, 1) := by decide +kernel
theorem dX6_init_58 : decode cX6_init 58 = .ok (.invokespecial 35, 3) := by decide +kernel
theorem dX6_init_61 : decode cX6_init 61 = .ok (.putfield 36, 3) := by decide +kernel
theorem dX6_init_64 : decode cX6_init 64 = .ok (.aload_n 0, 1) := by decide +kernel
theorem dX6_init_65 : decode cX6_init 65 = .ok (.new 40, 3) := by decide +kernel
theorem dX6_init_68 : decode cX6_init 68 = .ok (.dup, 1) := by decide +kernel
theorem dX6_init_69 : decode cX6_init 69 = .ok (.invokespecial 42, 3) := by decide +kernel
theorem dX6_init_72 : decode cX6_init 72 = .ok (.putfield 43, 3) := by decide +kernel
theorem dX6_init_75 : decode cX6_init 75 = .ok (.aload_n 0, 1) := by decide +kernel
theorem dX6_init_76 : decode cX6_init 76 = .ok (.iconst 0, 1) := by decide +kernel
theorem dX6_init_77 : decode cX6_init 77 = .ok (.putfield 47, 3) := by decide +kernel
theorem dX6_init_80 : decode cX6_init 80 = .ok (.aload_n 0, 1) := by decide +kernel
theorem dX6_init_81 : decode cX6_init 81 = .ok (.iconst 0, 1) := by decide +kernel
theorem dX6_init_82 : decode cX6_init 82 = .ok (.putfield 51, 3) := by decide +kernel
theorem dX6_init_85 : decode cX6_init 85 = .ok (.aload_n 0, 1) := by decide +kernel
theorem dX6_init_86 : decode cX6_init 86 = .ok (.iconst 0, 1) := by decide +kernel
theorem dX6_init_87 : decode cX6_init 87 = .ok (.putfield 54, 3) := by decide +kernel
theorem dX6_init_90 : decode cX6_init 90 = .ok (.return_, 1) := by decide +kernel
set_option maxRecDepth 20000 in
theorem ggX6_shoot_X6_isWithin : GoodIn wsX6_shoot wsX6_isWithin := goodIn_r _ [6] rfl (by decide +kernel)
set_option maxRecDepth 20000 in
theorem gX6_shoot_X6_isWithin : GoodIn wsX6_shoot (va_wsS RX6 57 yX6_isWithin wsX6_isWithin) := goodIn_app (goodIn_of _ (by decide +kernel)) ggX6_shoot_X6_isWithin
set_option maxRecDepth 20000 in
theorem ggX6_shoot_X0_record : GoodIn wsX6_shoot wsX0_record := goodIn_r _ [11, 12, 13, 14, 15, 16, 10, 17, 18, 19, 20, 21, 22, 23, 24, 25, 26, 27, 28, 29, 30, 31, 32, 33, 34, 35, 36, 37, 38, 39, 40, 41, 42, 43, 44, 45, 46, 47, 48, 49, 50, 51, 52, 53, 54, 55, 56, 57, 58, 59, 60, 61, 62, 63, 64, 65, 139, 140, 141, 142, 143, 144, 145, 146, 147, 148, 149, 150, 151, 152, 153, 154, 155, 156, 157, 158, 159, 160] rfl (by decide +kernel)
set_option maxRecDepth 20000 in
theorem gX6_shoot_X0_record : GoodIn wsX6_shoot (wsV RX6 61 RX0 yX0_record wsX0_record) := goodIn_app (goodIn_of _ (by decide +kernel)) ggX6_shoot_X0_record
set_option maxRecDepth 20000 in
theorem ggX6_shoot_X5_shootBall : GoodIn wsX6_shoot wsX5_shootBall := goodIn_r _ [69, 32, 37, 35, 36, 27, 70, 34, 71, 72, 73, 41, 74, 75, 5, 76, 77, 78, 79, 80, 46, 81, 82, 83, 84, 44, 85, 86, 87, 54, 88, 56, 89, 90, 91, 92, 43, 48, 93, 94, 95, 96, 47, 49, 45, 50, 97, 98, 99, 100, 101, 102, 103, 104, 105, 106, 107, 108, 4, 6, 109, 110, 111, 112, 113, 114, 115, 58, 59, 60, 116, 117, 118, 119, 120, 121, 25, 122, 30, 33, 29, 28, 123, 124, 125, 126, 127, 31, 128, 141, 142, 143, 144, 145, 146, 147, 148, 149, 150, 151, 152, 153, 154, 155, 156, 157, 158, 159, 160] rfl (by decide +kernel)
set_option maxRecDepth 20000 in
theorem gX6_shoot_X5_shootBall : GoodIn wsX6_shoot (wsV RX6 65 RX5 yX5_shootBall wsX5_shootBall) := goodIn_app (goodIn_of _ (by decide +kernel)) ggX6_shoot_X5_shootBall
theorem dX6_shoot_0 : decode cX6_shoot 0 = .ok (.iload_n 1, 1) := by decide +kernel
theorem dX6_shoot_1 : decode cX6_shoot 1 = .ok (.iconst 0, 1) := by decide +kernel
theorem dX6_shoot_2 : decode cX6_shoot 2 = .ok (.bipush 6, 2) := by decide +kernel
theorem dX6_shoot_4 : decode cX6_shoot 4 = .ok (.invokestatic 57, 3) := by decide +kernel
theorem dX6_shoot_7 : decode cX6_shoot 7 = .ok (.ifCond .ne 5, 3) := by decide +kernel
theorem dX6_shoot_10 : decode cX6_shoot 10 = .ok (.iconst (-1), 1) := by decide +kernel
theorem dX6_shoot_11 : decode cX6_shoot 11 = .ok (.ireturn, 1) := by decide +kernel
theorem dX6_shoot_12 : decode cX6_shoot 12 = .ok (.aload_n 0, 1) := by decide +kernel
theorem dX6_shoot_13 : decode cX6_shoot 13 = .ok (.getfield 29, 3) := by decide +kernel
theorem dX6_shoot_16 : decode cX6_shoot 16 = .ok (.aload_n 0, 1) := by decide +kernel
theorem dX6_shoot_17 : decode cX6_shoot 17 = .ok (.getfield 10, 3) := by decide +kernel
theorem dX6_shoot_20 : decode cX6_shoot 20 = .ok (.invokevirtual 61, 3) := by decide +kernel
theorem dX6_shoot_23 : decode cX6_shoot 23 = .ok (.aload_n 0, 1) := by decide +kernel
theorem dX6_shoot_24 : decode cX6_shoot 24 = .ok (.getfield 10, 3) := by decide +kernel
theorem dX6_shoot_27 : decode cX6_shoot 27 = .ok (.iload_n 1, 1) := by decide +kernel
theorem dX6_shoot_28 : decode cX6_shoot 28 = .ok (.iload_n 2, 1) := by decide +kernel
theorem dX6_shoot_29 : decode cX6_shoot 29 = .ok (.invokevirtual 65, 3) := by decide +kernel
theorem dX6_shoot_32 : decode cX6_shoot 32 = .ok (.ireturn, 1) := by decide +kernel
set_option maxRecDepth 20000 in
theorem ggX6_bend_X6_isWithin : GoodIn wsX6_bend wsX6_isWithin := goodIn_r _ [6] rfl (by decide +kernel)
set_option maxRecDepth 20000 in
theorem gX6_bend_X6_isWithin : GoodIn wsX6_bend (va_wsS RX6 57 yX6_isWithin wsX6_isWithin) := goodIn_app (goodIn_of _ (by decide +kernel)) ggX6_bend_X6_isWithin
set_option maxRecDepth 20000 in
theorem ggX6_bend_X0_record : GoodIn wsX6_bend wsX0_record := goodIn_r _ [11, 12, 13, 14, 15, 16, 10, 17, 18, 19, 20, 21, 22, 23, 24, 25, 26, 27, 28, 29, 30, 31, 32, 33, 34, 35, 36, 37, 38, 39, 40, 41, 42, 43, 44, 45, 46, 47, 48, 49, 50, 51, 52, 53, 54, 55, 56, 57, 58, 59, 60, 61, 62, 63, 64, 65, 102, 103, 104, 105, 106, 107, 108, 109, 110, 111, 112, 113, 114, 115, 116, 117, 118, 119, 120, 121, 122, 123] rfl (by decide +kernel)
set_option maxRecDepth 20000 in
theorem gX6_bend_X0_record : GoodIn wsX6_bend (wsV RX6 61 RX0 yX0_record wsX0_record) := goodIn_app (goodIn_of _ (by decide +kernel)) ggX6_bend_X0_record
set_option maxRecDepth 20000 in
theorem ggX6_bend_X5_bendByHand : GoodIn wsX6_bend wsX5_bendByHand := goodIn_r _ [69, 27, 37, 70, 71, 72, 73, 41, 74, 44, 75, 76, 77, 54, 78, 56, 79, 80, 81, 82, 43, 4, 5, 6, 83, 84, 85, 86, 87, 88, 89, 90, 91, 104, 105, 106, 107, 108, 109, 110, 111, 112, 113, 114, 115, 116, 117, 118, 119, 120, 121, 122, 123] rfl (by decide +kernel)
set_option maxRecDepth 20000 in
theorem gX6_bend_X5_bendByHand : GoodIn wsX6_bend (wsV RX6 69 RX5 yX5_bendByHand wsX5_bendByHand) := goodIn_app (goodIn_of _ (by decide +kernel)) ggX6_bend_X5_bendByHand
theorem dX6_bend_0 : decode cX6_bend 0 = .ok (.iload_n 1, 1) := by decide +kernel
theorem dX6_bend_1 : decode cX6_bend 1 = .ok (.iconst 0, 1) := by decide +kernel
theorem dX6_bend_2 : decode cX6_bend 2 = .ok (.bipush 34, 2) := by decide +kernel
theorem dX6_bend_4 : decode cX6_bend 4 = .ok (.invokestatic 57, 3) := by decide +kernel
theorem dX6_bend_7 : decode cX6_bend 7 = .ok (.ifCond .ne 5, 3) := by decide +kernel
theorem dX6_bend_10 : decode cX6_bend 10 = .ok (.iconst (-1), 1) := by decide +kernel
theorem dX6_bend_11 : decode cX6_bend 11 = .ok (.ireturn, 1) := by decide +kernel
theorem dX6_bend_12 : decode cX6_bend 12 = .ok (.aload_n 0, 1) := by decide +kernel
theorem dX6_bend_13 : decode cX6_bend 13 = .ok (.getfield 29, 3) := by decide +kernel
theorem dX6_bend_16 : decode cX6_bend 16 = .ok (.aload_n 0, 1) := by decide +kernel
theorem dX6_bend_17 : decode cX6_bend 17 = .ok (.getfield 10, 3) := by decide +kernel
theorem dX6_bend_20 : decode cX6_bend 20 = .ok (.invokevirtual 61, 3) := by decide +kernel
theorem dX6_bend_23 : decode cX6_bend 23 = .ok (.aload_n 0, 1) := by decide +kernel
theorem dX6_bend_24 : decode cX6_bend 24 = .ok (.getfield 10, 3) := by decide +kernel
theorem dX6_bend_27 : decode cX6_bend 27 = .ok (.iload_n 1, 1) := by decide +kernel
theorem dX6_bend_28 : decode cX6_bend 28 = .ok (.iload_n 2, 1) := by decide +kernel
theorem dX6_bend_29 : decode cX6_bend 29 = .ok (.ifCond .eq 7, 3) := by decide +kernel
theorem dX6_bend_32 : decode cX6_bend 32 = .ok (.iconst 1, 1) := by decide +kernel
theorem dX6_bend_33 : decode cX6_bend 33 = .ok (.goto 4, 3) := by decide +kernel
theorem dX6_bend_36 : decode cX6_bend 36 = .ok (.iconst (-1), 1) := by decide +kernel
theorem dX6_bend_37 : decode cX6_bend 37 = .ok (.invokevirtual 69, 3) := by decide +kernel
theorem dX6_bend_40 : decode cX6_bend 40 = .ok (.ireturn, 1) := by decide +kernel
set_option maxRecDepth 20000 in
theorem ggX6_pull_X6_isWithin : GoodIn wsX6_pull wsX6_isWithin := goodIn_r _ [7] rfl (by decide +kernel)
set_option maxRecDepth 20000 in
theorem gX6_pull_X6_isWithin : GoodIn wsX6_pull (va_wsS RX6 57 yX6_isWithin wsX6_isWithin) := goodIn_app (goodIn_of _ (by decide +kernel)) ggX6_pull_X6_isWithin
set_option maxRecDepth 20000 in
theorem ggX6_pull_X0_record : GoodIn wsX6_pull wsX0_record := goodIn_r _ [12, 13, 14, 15, 16, 17, 11, 18, 19, 20, 21, 22, 23, 24, 25, 26, 27, 28, 29, 30, 31, 32, 33, 34, 35, 36, 37, 38, 39, 40, 41, 42, 43, 44, 45, 46, 47, 48, 49, 50, 51, 52, 53, 54, 55, 56, 57, 58, 59, 60, 61, 62, 63, 64, 65, 66, 108, 109, 97, 98, 99, 100, 101, 102, 103, 104, 105, 106, 107, 110, 111, 112, 113, 114, 115, 116, 117, 118] rfl (by decide +kernel)
set_option maxRecDepth 20000 in
theorem gX6_pull_X0_record : GoodIn wsX6_pull (wsV RX6 61 RX0 yX0_record wsX0_record) := goodIn_app (goodIn_of _ (by decide +kernel)) ggX6_pull_X0_record
set_option maxRecDepth 20000 in
theorem ggX6_pull_X2_pullOrSet : GoodIn wsX6_pull wsX2_pullOrSet := goodIn_r _ [70, 45, 44, 47, 71, 72, 73, 55, 74, 57, 75, 76, 77, 78, 110, 111, 112, 113, 114, 115, 116, 117, 118] rfl (by decide +kernel)
set_option maxRecDepth 20000 in
theorem gX6_pull_X2_pullOrSet : GoodIn wsX6_pull (wsV RX6 77 RX2 yX2_pullOrSet wsX2_pullOrSet) := goodIn_app (goodIn_of _ (by decide +kernel)) ggX6_pull_X2_pullOrSet
set_option maxRecDepth 20000 in
theorem ggX6_pull_X2_pulledOut : GoodIn wsX6_pull wsX2_pulledOut := goodIn_r _ [82, 45, 83, 84, 85, 55, 86, 57, 110, 111, 112, 113, 114, 115, 116, 117, 118] rfl (by decide +kernel)
set_option maxRecDepth 20000 in
theorem gX6_pull_X2_pulledOut : GoodIn wsX6_pull (wsV RX6 83 RX2 yX2_pulledOut wsX2_pulledOut) := goodIn_app (goodIn_of _ (by decide +kernel)) ggX6_pull_X2_pulledOut
theorem dX6_pull_0 : decode cX6_pull 0 = .ok (.iload_n 1, 1) := by decide +kernel
theorem dX6_pull_1 : decode cX6_pull 1 = .ok (.iconst 0, 1) := by decide +kernel
theorem dX6_pull_2 : decode cX6_pull 2 = .ok (.bipush 34, 2) := by decide +kernel
theorem dX6_pull_4 : decode cX6_pull 4 = .ok (.invokestatic 57, 3) := by decide +kernel
theorem dX6_pull_7 : decode cX6_pull 7 = .ok (.ifCond .ne 5, 3) := by decide +kernel
theorem dX6_pull_10 : decode cX6_pull 10 = .ok (.iconst (-1), 1) := by decide +kernel
theorem dX6_pull_11 : decode cX6_pull 11 = .ok (.ireturn, 1) := by decide +kernel
theorem dX6_pull_12 : decode cX6_pull 12 = .ok (.aload_n 0, 1) := by decide +kernel
theorem dX6_pull_13 : decode cX6_pull 13 = .ok (.getfield 29, 3) := by decide +kernel
theorem dX6_pull_16 : decode cX6_pull 16 = .ok (.aload_n 0, 1) := by decide +kernel
theorem dX6_pull_17 : decode cX6_pull 17 = .ok (.getfield 10, 3) := by decide +kernel
theorem dX6_pull_20 : decode cX6_pull 20 = .ok (.invokevirtual 61, 3) := by decide +kernel
theorem dX6_pull_23 : decode cX6_pull 23 = .ok (.aload_n 0, 1) := by decide +kernel
theorem dX6_pull_24 : decode cX6_pull 24 = .ok (.getfield 10, 3) := by decide +kernel
theorem dX6_pull_27 : decode cX6_pull 27 = .ok (.getfield 73, 3) := by decide +kernel
theorem dX6_pull_30 : decode cX6_pull 30 = .ok (.iload_n 1, 1) := by decide +kernel
theorem dX6_pull_31 : decode cX6_pull 31 = .ok (.invokevirtual 77, 3) := by decide +kernel
theorem dX6_pull_34 : decode cX6_pull 34 = .ok (.aload_n 0, 1) := by decide +kernel
theorem dX6_pull_35 : decode cX6_pull 35 = .ok (.getfield 10, 3) := by decide +kernel
theorem dX6_pull_38 : decode cX6_pull 38 = .ok (.getfield 73, 3) := by decide +kernel
theorem dX6_pull_41 : decode cX6_pull 41 = .ok (.invokevirtual 83, 3) := by decide +kernel
theorem dX6_pull_44 : decode cX6_pull 44 = .ok (.ireturn, 1) := by decide +kernel
set_option maxRecDepth 20000 in
theorem ggX6_bell_X6_isWithin : GoodIn wsX6_bell wsX6_isWithin := goodIn_r _ [7] rfl (by decide +kernel)
set_option maxRecDepth 20000 in
theorem gX6_bell_X6_isWithin : GoodIn wsX6_bell (va_wsS RX6 57 yX6_isWithin wsX6_isWithin) := goodIn_app (goodIn_of _ (by decide +kernel)) ggX6_bell_X6_isWithin
set_option maxRecDepth 20000 in
theorem ggX6_bell_X0_record : GoodIn wsX6_bell wsX0_record := goodIn_r _ [12, 13, 14, 15, 16, 17, 11, 18, 19, 20, 21, 22, 23, 24, 25, 26, 27, 28, 29, 30, 31, 32, 33, 34, 35, 36, 37, 38, 39, 40, 41, 42, 43, 44, 45, 46, 47, 48, 49, 50, 51, 52, 53, 54, 55, 56, 57, 58, 59, 60, 61, 62, 63, 64, 65, 66, 108, 109, 97, 98, 99, 100, 101, 102, 103, 104, 105, 106, 107, 110, 111, 112, 113, 114, 115, 116, 117, 118] rfl (by decide +kernel)
set_option maxRecDepth 20000 in
theorem gX6_bell_X0_record : GoodIn wsX6_bell (wsV RX6 61 RX0 yX0_record wsX0_record) := goodIn_app (goodIn_of _ (by decide +kernel)) ggX6_bell_X0_record
set_option maxRecDepth 20000 in
theorem ggX6_bell_X2_hangOrTakeBell : GoodIn wsX6_bell wsX2_hangOrTakeBell := goodIn_r _ [70, 46, 71, 72, 73, 55, 74, 57, 75, 76, 77, 78, 110, 111, 112, 113, 114, 115, 116, 117, 118] rfl (by decide +kernel)
set_option maxRecDepth 20000 in
theorem gX6_bell_X2_hangOrTakeBell : GoodIn wsX6_bell (wsV RX6 87 RX2 yX2_hangOrTakeBell wsX2_hangOrTakeBell) := goodIn_app (goodIn_of _ (by decide +kernel)) ggX6_bell_X2_hangOrTakeBell
set_option maxRecDepth 20000 in
theorem ggX6_bell_X2_allBells : GoodIn wsX6_bell wsX2_allBells := goodIn_r _ [82, 46, 83, 84, 85, 55, 86, 57, 110, 111, 112, 113, 114, 115, 116, 117, 118] rfl (by decide +kernel)
set_option maxRecDepth 20000 in
theorem gX6_bell_X2_allBells : GoodIn wsX6_bell (wsV RX6 90 RX2 yX2_allBells wsX2_allBells) := goodIn_app (goodIn_of _ (by decide +kernel)) ggX6_bell_X2_allBells
theorem dX6_bell_0 : decode cX6_bell 0 = .ok (.iload_n 1, 1) := by decide +kernel
theorem dX6_bell_1 : decode cX6_bell 1 = .ok (.iconst 0, 1) := by decide +kernel
theorem dX6_bell_2 : decode cX6_bell 2 = .ok (.bipush 34, 2) := by decide +kernel
theorem dX6_bell_4 : decode cX6_bell 4 = .ok (.invokestatic 57, 3) := by decide +kernel
theorem dX6_bell_7 : decode cX6_bell 7 = .ok (.ifCond .ne 5, 3) := by decide +kernel
theorem dX6_bell_10 : decode cX6_bell 10 = .ok (.iconst (-1), 1) := by decide +kernel
theorem dX6_bell_11 : decode cX6_bell 11 = .ok (.ireturn, 1) := by decide +kernel
theorem dX6_bell_12 : decode cX6_bell 12 = .ok (.aload_n 0, 1) := by decide +kernel
theorem dX6_bell_13 : decode cX6_bell 13 = .ok (.getfield 29, 3) := by decide +kernel
theorem dX6_bell_16 : decode cX6_bell 16 = .ok (.aload_n 0, 1) := by decide +kernel
theorem dX6_bell_17 : decode cX6_bell 17 = .ok (.getfield 10, 3) := by decide +kernel
theorem dX6_bell_20 : decode cX6_bell 20 = .ok (.invokevirtual 61, 3) := by decide +kernel
theorem dX6_bell_23 : decode cX6_bell 23 = .ok (.aload_n 0, 1) := by decide +kernel
theorem dX6_bell_24 : decode cX6_bell 24 = .ok (.getfield 10, 3) := by decide +kernel
theorem dX6_bell_27 : decode cX6_bell 27 = .ok (.getfield 73, 3) := by decide +kernel
theorem dX6_bell_30 : decode cX6_bell 30 = .ok (.iload_n 1, 1) := by decide +kernel
theorem dX6_bell_31 : decode cX6_bell 31 = .ok (.invokevirtual 87, 3) := by decide +kernel
theorem dX6_bell_34 : decode cX6_bell 34 = .ok (.aload_n 0, 1) := by decide +kernel
theorem dX6_bell_35 : decode cX6_bell 35 = .ok (.getfield 10, 3) := by decide +kernel
theorem dX6_bell_38 : decode cX6_bell 38 = .ok (.getfield 73, 3) := by decide +kernel
theorem dX6_bell_41 : decode cX6_bell 41 = .ok (.invokevirtual 90, 3) := by decide +kernel
theorem dX6_bell_44 : decode cX6_bell 44 = .ok (.ireturn, 1) := by decide +kernel
set_option maxRecDepth 20000 in
theorem ggX6_worth_X6_isWithin : GoodIn wsX6_worth wsX6_isWithin := goodIn_r _ [7] rfl (by decide +kernel)
set_option maxRecDepth 20000 in
theorem gX6_worth_X6_isWithin : GoodIn wsX6_worth (va_wsS RX6 57 yX6_isWithin wsX6_isWithin) := goodIn_app (goodIn_of _ (by decide +kernel)) ggX6_worth_X6_isWithin
set_option maxRecDepth 20000 in
theorem ggX6_worth_X0_record : GoodIn wsX6_worth wsX0_record := goodIn_r _ [12, 13, 14, 15, 16, 17, 11, 18, 19, 20, 21, 22, 23, 24, 25, 26, 27, 28, 29, 30, 31, 32, 33, 34, 35, 36, 37, 38, 39, 40, 41, 42, 43, 44, 45, 46, 47, 48, 49, 50, 51, 52, 53, 54, 55, 56, 57, 58, 59, 60, 61, 62, 63, 64, 65, 66, 96, 97, 85, 86, 87, 88, 89, 90, 91, 92, 93, 94, 95, 98, 99, 100, 101, 102, 103, 104, 105, 106] rfl (by decide +kernel)
set_option maxRecDepth 20000 in
theorem gX6_worth_X0_record : GoodIn wsX6_worth (wsV RX6 61 RX0 yX0_record wsX0_record) := goodIn_app (goodIn_of _ (by decide +kernel)) ggX6_worth_X0_record
set_option maxRecDepth 20000 in
theorem ggX6_worth_X4_at : GoodIn wsX6_worth wsX4_at := goodIn_r _ [70, 57, 106] rfl (by decide +kernel)
set_option maxRecDepth 20000 in
theorem gX6_worth_X4_at : GoodIn wsX6_worth (wsV RX6 97 RX4 yX4_at wsX4_at) := goodIn_app (goodIn_of _ (by decide +kernel)) ggX6_worth_X4_at
set_option maxRecDepth 20000 in
theorem ggX6_worth_X4_put : GoodIn wsX6_worth wsX4_put := goodIn_r _ [74, 57, 106] rfl (by decide +kernel)
set_option maxRecDepth 20000 in
theorem gX6_worth_X4_put : GoodIn wsX6_worth (wsV RX6 103 RX4 yX4_put wsX4_put) := goodIn_app (goodIn_of _ (by decide +kernel)) ggX6_worth_X4_put
theorem dX6_worth_0 : decode cX6_worth 0 = .ok (.iload_n 1, 1) := by decide +kernel
theorem dX6_worth_1 : decode cX6_worth 1 = .ok (.iconst 0, 1) := by decide +kernel
theorem dX6_worth_2 : decode cX6_worth 2 = .ok (.bipush 6, 2) := by decide +kernel
theorem dX6_worth_4 : decode cX6_worth 4 = .ok (.invokestatic 57, 3) := by decide +kernel
theorem dX6_worth_7 : decode cX6_worth 7 = .ok (.ifCond .eq 13, 3) := by decide +kernel
theorem dX6_worth_10 : decode cX6_worth 10 = .ok (.iload_n 2, 1) := by decide +kernel
theorem dX6_worth_11 : decode cX6_worth 11 = .ok (.iconst 0, 1) := by decide +kernel
theorem dX6_worth_12 : decode cX6_worth 12 = .ok (.bipush 9, 2) := by decide +kernel
theorem dX6_worth_14 : decode cX6_worth 14 = .ok (.invokestatic 57, 3) := by decide +kernel
theorem dX6_worth_17 : decode cX6_worth 17 = .ok (.ifCond .ne 5, 3) := by decide +kernel
theorem dX6_worth_20 : decode cX6_worth 20 = .ok (.iconst (-1), 1) := by decide +kernel
theorem dX6_worth_21 : decode cX6_worth 21 = .ok (.ireturn, 1) := by decide +kernel
theorem dX6_worth_22 : decode cX6_worth 22 = .ok (.aload_n 0, 1) := by decide +kernel
theorem dX6_worth_23 : decode cX6_worth 23 = .ok (.getfield 29, 3) := by decide +kernel
theorem dX6_worth_26 : decode cX6_worth 26 = .ok (.aload_n 0, 1) := by decide +kernel
theorem dX6_worth_27 : decode cX6_worth 27 = .ok (.getfield 10, 3) := by decide +kernel
theorem dX6_worth_30 : decode cX6_worth 30 = .ok (.invokevirtual 61, 3) := by decide +kernel
theorem dX6_worth_33 : decode cX6_worth 33 = .ok (.aload_n 0, 1) := by decide +kernel
theorem dX6_worth_34 : decode cX6_worth 34 = .ok (.getfield 10, 3) := by decide +kernel
theorem dX6_worth_37 : decode cX6_worth 37 = .ok (.getfield 93, 3) := by decide +kernel
theorem dX6_worth_40 : decode cX6_worth 40 = .ok (.iload_n 1, 1) := by decide +kernel
theorem dX6_worth_41 : decode cX6_worth 41 = .ok (.invokevirtual 97, 3) := by decide +kernel
theorem dX6_worth_44 : decode cX6_worth 44 = .ok (.istore_n 3, 1) := by decide +kernel
theorem dX6_worth_45 : decode cX6_worth 45 = .ok (.aload_n 0, 1) := by decide +kernel
theorem dX6_worth_46 : decode cX6_worth 46 = .ok (.getfield 10, 3) := by decide +kernel
theorem dX6_worth_49 : decode cX6_worth 49 = .ok (.getfield 93, 3) := by decide +kernel
theorem dX6_worth_52 : decode cX6_worth 52 = .ok (.iload_n 1, 1) := by decide +kernel
theorem dX6_worth_53 : decode cX6_worth 53 = .ok (.iload_n 2, 1) := by decide +kernel
theorem dX6_worth_54 : decode cX6_worth 54 = .ok (.invokevirtual 103, 3) := by decide +kernel
theorem dX6_worth_57 : decode cX6_worth 57 = .ok (.iload_n 3, 1) := by decide +kernel
theorem dX6_worth_58 : decode cX6_worth 58 = .ok (.ireturn, 1) := by decide +kernel
set_option maxRecDepth 20000 in
theorem ggX6_set_X6_isWithin : GoodIn wsX6_set wsX6_isWithin := goodIn_r _ [9] rfl (by decide +kernel)
set_option maxRecDepth 20000 in
theorem gX6_set_X6_isWithin : GoodIn wsX6_set (va_wsS RX6 57 yX6_isWithin wsX6_isWithin) := goodIn_app (goodIn_of _ (by decide +kernel)) ggX6_set_X6_isWithin
set_option maxRecDepth 20000 in
theorem ggX6_set_X0_record : GoodIn wsX6_set wsX0_record := goodIn_r _ [14, 15, 16, 17, 18, 19, 13, 20, 21, 22, 23, 24, 25, 26, 27, 28, 29, 30, 31, 32, 33, 34, 35, 36, 37, 38, 39, 40, 41, 42, 43, 44, 45, 46, 47, 48, 49, 50, 51, 52, 53, 54, 55, 56, 57, 58, 59, 60, 61, 62, 63, 64, 65, 66, 67, 68, 98, 99, 79, 80, 81, 82, 83, 84, 85, 86, 87, 88, 89, 90, 91, 92, 93, 94, 95, 96, 97, 100] rfl (by decide +kernel)
set_option maxRecDepth 20000 in
theorem gX6_set_X0_record : GoodIn wsX6_set (wsV RX6 61 RX0 yX0_record wsX0_record) := goodIn_app (goodIn_of _ (by decide +kernel)) ggX6_set_X0_record
theorem dX6_set_0 : decode cX6_set 0 = .ok (.iload_n 1, 1) := by decide +kernel
theorem dX6_set_1 : decode cX6_set 1 = .ok (.ifCond .ne 47, 3) := by decide +kernel
theorem dX6_set_4 : decode cX6_set 4 = .ok (.iload_n 2, 1) := by decide +kernel
theorem dX6_set_5 : decode cX6_set 5 = .ok (.iconst 0, 1) := by decide +kernel
theorem dX6_set_6 : decode cX6_set 6 = .ok (.iconst 2, 1) := by decide +kernel
theorem dX6_set_7 : decode cX6_set 7 = .ok (.invokestatic 57, 3) := by decide +kernel
theorem dX6_set_10 : decode cX6_set 10 = .ok (.ifCond .eq 38, 3) := by decide +kernel
theorem dX6_set_13 : decode cX6_set 13 = .ok (.aload_n 0, 1) := by decide +kernel
theorem dX6_set_14 : decode cX6_set 14 = .ok (.getfield 29, 3) := by decide +kernel
theorem dX6_set_17 : decode cX6_set 17 = .ok (.aload_n 0, 1) := by decide +kernel
theorem dX6_set_18 : decode cX6_set 18 = .ok (.getfield 10, 3) := by decide +kernel
theorem dX6_set_21 : decode cX6_set 21 = .ok (.invokevirtual 61, 3) := by decide +kernel
theorem dX6_set_24 : decode cX6_set 24 = .ok (.aload_n 0, 1) := by decide +kernel
theorem dX6_set_25 : decode cX6_set 25 = .ok (.getfield 10, 3) := by decide +kernel
theorem dX6_set_28 : decode cX6_set 28 = .ok (.getfield 73, 3) := by decide +kernel
theorem dX6_set_31 : decode cX6_set 31 = .ok (.getfield 107, 3) := by decide +kernel
theorem dX6_set_34 : decode cX6_set 34 = .ok (.istore_n 3, 1) := by decide +kernel
theorem dX6_set_35 : decode cX6_set 35 = .ok (.aload_n 0, 1) := by decide +kernel
theorem dX6_set_36 : decode cX6_set 36 = .ok (.getfield 10, 3) := by decide +kernel
theorem dX6_set_39 : decode cX6_set 39 = .ok (.getfield 73, 3) := by decide +kernel
theorem dX6_set_42 : decode cX6_set 42 = .ok (.iload_n 2, 1) := by decide +kernel
theorem dX6_set_43 : decode cX6_set 43 = .ok (.putfield 107, 3) := by decide +kernel
theorem dX6_set_46 : decode cX6_set 46 = .ok (.iload_n 3, 1) := by decide +kernel
theorem dX6_set_47 : decode cX6_set 47 = .ok (.ireturn, 1) := by decide +kernel
theorem dX6_set_48 : decode cX6_set 48 = .ok (.iload_n 1, 1) := by decide +kernel
theorem dX6_set_49 : decode cX6_set 49 = .ok (.iconst 1, 1) := by decide +kernel
theorem dX6_set_50 : decode cX6_set 50 = .ok (.if_icmp .ne 42, 3) := by decide +kernel
theorem dX6_set_53 : decode cX6_set 53 = .ok (.iload_n 2, 1) := by decide +kernel
theorem dX6_set_54 : decode cX6_set 54 = .ok (.iconst 1, 1) := by decide +kernel
theorem dX6_set_55 : decode cX6_set 55 = .ok (.bipush 9, 2) := by decide +kernel
theorem dX6_set_57 : decode cX6_set 57 = .ok (.invokestatic 57, 3) := by decide +kernel
theorem dX6_set_60 : decode cX6_set 60 = .ok (.ifCond .eq 32, 3) := by decide +kernel
theorem dX6_set_63 : decode cX6_set 63 = .ok (.aload_n 0, 1) := by decide +kernel
theorem dX6_set_64 : decode cX6_set 64 = .ok (.getfield 29, 3) := by decide +kernel
theorem dX6_set_67 : decode cX6_set 67 = .ok (.aload_n 0, 1) := by decide +kernel
theorem dX6_set_68 : decode cX6_set 68 = .ok (.getfield 10, 3) := by decide +kernel
theorem dX6_set_71 : decode cX6_set 71 = .ok (.invokevirtual 61, 3) := by decide +kernel
theorem dX6_set_74 : decode cX6_set 74 = .ok (.aload_n 0, 1) := by decide +kernel
theorem dX6_set_75 : decode cX6_set 75 = .ok (.getfield 10, 3) := by decide +kernel
theorem dX6_set_78 : decode cX6_set 78 = .ok (.getfield 110, 3) := by decide +kernel
theorem dX6_set_81 : decode cX6_set 81 = .ok (.istore_n 3, 1) := by decide +kernel
theorem dX6_set_82 : decode cX6_set 82 = .ok (.aload_n 0, 1) := by decide +kernel
theorem dX6_set_83 : decode cX6_set 83 = .ok (.getfield 10, 3) := by decide +kernel
theorem dX6_set_86 : decode cX6_set 86 = .ok (.iload_n 2, 1) := by decide +kernel
theorem dX6_set_87 : decode cX6_set 87 = .ok (.putfield 110, 3) := by decide +kernel
theorem dX6_set_90 : decode cX6_set 90 = .ok (.iload_n 3, 1) := by decide +kernel
theorem dX6_set_91 : decode cX6_set 91 = .ok (.ireturn, 1) := by decide +kernel
theorem dX6_set_92 : decode cX6_set 92 = .ok (.iconst (-1), 1) := by decide +kernel
theorem dX6_set_93 : decode cX6_set 93 = .ok (.ireturn, 1) := by decide +kernel
set_option maxRecDepth 20000 in
theorem ggX6_empty_X0_record : GoodIn wsX6_empty wsX0_record := goodIn_r _ [8, 9, 10, 11, 12, 13, 7, 14, 15, 16, 17, 18, 19, 20, 21, 22, 23, 24, 25, 26, 27, 28, 29, 30, 31, 32, 33, 34, 35, 36, 37, 38, 39, 40, 41, 42, 43, 44, 45, 46, 47, 48, 49, 50, 51, 52, 53, 54, 55, 56, 57, 58, 59, 60, 61, 62, 100, 101, 89, 90, 91, 92, 93, 94, 95, 96, 97, 98, 99, 102, 103, 104, 105, 106, 107, 108, 109, 110] rfl (by decide +kernel)
set_option maxRecDepth 20000 in
theorem gX6_empty_X0_record : GoodIn wsX6_empty (wsV RX6 61 RX0 yX0_record wsX0_record) := goodIn_app (goodIn_of _ (by decide +kernel)) ggX6_empty_X0_record
set_option maxRecDepth 20000 in
theorem ggX6_empty_X5_emptyPockets : GoodIn wsX6_empty wsX5_emptyPockets := goodIn_r _ [66, 29, 26, 30, 67, 68, 69, 51, 70, 53, 71, 72, 73, 74, 75, 76, 77, 78, 89, 90, 91, 92, 93, 94, 95, 96, 97, 98, 99, 110] rfl (by decide +kernel)
set_option maxRecDepth 20000 in
theorem gX6_empty_X5_emptyPockets : GoodIn wsX6_empty (wsV RX6 113 RX5 yX5_emptyPockets wsX5_emptyPockets) := goodIn_app (goodIn_of _ (by decide +kernel)) ggX6_empty_X5_emptyPockets
theorem dX6_empty_0 : decode cX6_empty 0 = .ok (.aload_n 0, 1) := by decide +kernel
theorem dX6_empty_1 : decode cX6_empty 1 = .ok (.getfield 29, 3) := by decide +kernel
theorem dX6_empty_4 : decode cX6_empty 4 = .ok (.aload_n 0, 1) := by decide +kernel
theorem dX6_empty_5 : decode cX6_empty 5 = .ok (.getfield 10, 3) := by decide +kernel
theorem dX6_empty_8 : decode cX6_empty 8 = .ok (.invokevirtual 61, 3) := by decide +kernel
theorem dX6_empty_11 : decode cX6_empty 11 = .ok (.aload_n 0, 1) := by decide +kernel
theorem dX6_empty_12 : decode cX6_empty 12 = .ok (.getfield 10, 3) := by decide +kernel
theorem dX6_empty_15 : decode cX6_empty 15 = .ok (.invokevirtual 113, 3) := by decide +kernel
theorem dX6_empty_18 : decode cX6_empty 18 = .ok (.aload_n 0, 1) := by decide +kernel
theorem dX6_empty_19 : decode cX6_empty 19 = .ok (.getfield 10, 3) := by decide +kernel
theorem dX6_empty_22 : decode cX6_empty 22 = .ok (.getfield 116, 3) := by decide +kernel
theorem dX6_empty_25 : decode cX6_empty 25 = .ok (.ireturn, 1) := by decide +kernel
set_option maxRecDepth 20000 in
theorem ggX6_append_X6_isWithin : GoodIn wsX6_append wsX6_isWithin := goodIn_r _ [6] rfl (by decide +kernel)
set_option maxRecDepth 20000 in
theorem gX6_append_X6_isWithin : GoodIn wsX6_append (va_wsS RX6 57 yX6_isWithin wsX6_isWithin) := goodIn_app (goodIn_of _ (by decide +kernel)) ggX6_append_X6_isWithin
set_option maxRecDepth 20000 in
theorem ggX6_append_X1_write : GoodIn wsX6_append wsX1_write := goodIn_r _ [11, 12, 13, 14, 15, 16, 17, 18, 19, 30, 31, 32] rfl (by decide +kernel)
set_option maxRecDepth 20000 in
theorem gX6_append_X1_write : GoodIn wsX6_append (wsV RX6 122 RX1 yX1_write wsX1_write) := goodIn_app (goodIn_of _ (by decide +kernel)) ggX6_append_X1_write
theorem dX6_append_0 : decode cX6_append 0 = .ok (.iload_n 1, 1) := by decide +kernel
theorem dX6_append_1 : decode cX6_append 1 = .ok (.bipush 33, 2) := by decide +kernel
theorem dX6_append_3 : decode cX6_append 3 = .ok (.bipush 126, 2) := by decide +kernel
theorem dX6_append_5 : decode cX6_append 5 = .ok (.invokestatic 57, 3) := by decide +kernel
theorem dX6_append_8 : decode cX6_append 8 = .ok (.ifCond .ne 5, 3) := by decide +kernel
theorem dX6_append_11 : decode cX6_append 11 = .ok (.iconst (-1), 1) := by decide +kernel
theorem dX6_append_12 : decode cX6_append 12 = .ok (.ireturn, 1) := by decide +kernel
theorem dX6_append_13 : decode cX6_append 13 = .ok (.aload_n 0, 1) := by decide +kernel
theorem dX6_append_14 : decode cX6_append 14 = .ok (.getfield 43, 3) := by decide +kernel
theorem dX6_append_17 : decode cX6_append 17 = .ok (.getfield 119, 3) := by decide +kernel
theorem dX6_append_20 : decode cX6_append 20 = .ok (.bipush 60, 2) := by decide +kernel
theorem dX6_append_22 : decode cX6_append 22 = .ok (.if_icmp .lt 6, 3) := by decide +kernel
theorem dX6_append_25 : decode cX6_append 25 = .ok (.bipush (-3), 2) := by decide +kernel
theorem dX6_append_27 : decode cX6_append 27 = .ok (.ireturn, 1) := by decide +kernel
theorem dX6_append_28 : decode cX6_append 28 = .ok (.aload_n 0, 1) := by decide +kernel
theorem dX6_append_29 : decode cX6_append 29 = .ok (.getfield 43, 3) := by decide +kernel
theorem dX6_append_32 : decode cX6_append 32 = .ok (.iload_n 1, 1) := by decide +kernel
theorem dX6_append_33 : decode cX6_append 33 = .ok (.invokevirtual 122, 3) := by decide +kernel
theorem dX6_append_36 : decode cX6_append 36 = .ok (.aload_n 0, 1) := by decide +kernel
theorem dX6_append_37 : decode cX6_append 37 = .ok (.getfield 43, 3) := by decide +kernel
theorem dX6_append_40 : decode cX6_append 40 = .ok (.getfield 119, 3) := by decide +kernel
theorem dX6_append_43 : decode cX6_append 43 = .ok (.ireturn, 1) := by decide +kernel
set_option maxRecDepth 20000 in
theorem ggX6_clear_X1_wipe : GoodIn wsX6_clear wsX1_wipe := goodIn_r _ [7, 8, 19, 20] rfl (by decide +kernel)
set_option maxRecDepth 20000 in
theorem gX6_clear_X1_wipe : GoodIn wsX6_clear (wsV RX6 125 RX1 yX1_wipe wsX1_wipe) := goodIn_app (goodIn_of _ (by decide +kernel)) ggX6_clear_X1_wipe
theorem dX6_clear_0 : decode cX6_clear 0 = .ok (.aload_n 0, 1) := by decide +kernel
theorem dX6_clear_1 : decode cX6_clear 1 = .ok (.getfield 43, 3) := by decide +kernel
theorem dX6_clear_4 : decode cX6_clear 4 = .ok (.getfield 119, 3) := by decide +kernel
theorem dX6_clear_7 : decode cX6_clear 7 = .ok (.istore_n 1, 1) := by decide +kernel
theorem dX6_clear_8 : decode cX6_clear 8 = .ok (.aload_n 0, 1) := by decide +kernel
theorem dX6_clear_9 : decode cX6_clear 9 = .ok (.getfield 43, 3) := by decide +kernel
theorem dX6_clear_12 : decode cX6_clear 12 = .ok (.invokevirtual 125, 3) := by decide +kernel
theorem dX6_clear_15 : decode cX6_clear 15 = .ok (.iload_n 1, 1) := by decide +kernel
theorem dX6_clear_16 : decode cX6_clear 16 = .ok (.ireturn, 1) := by decide +kernel
set_option maxRecDepth 20000 in
theorem ggX6_fault_X1_faultAsBoard : GoodIn wsX6_fault wsX1_faultAsBoard := goodIn_r _ [6, 7, 8, 9, 10, 5, 11, 12, 13, 14, 15, 16, 17, 18, 19, 20, 21, 45, 46, 47] rfl (by decide +kernel)
set_option maxRecDepth 20000 in
theorem gX6_fault_X1_faultAsBoard : GoodIn wsX6_fault (wsV RX6 128 RX1 yX1_faultAsBoard wsX1_faultAsBoard) := goodIn_app (goodIn_of _ (by decide +kernel)) ggX6_fault_X1_faultAsBoard
set_option maxRecDepth 20000 in
theorem ggX6_fault_X1_faultAsShots : GoodIn wsX6_fault wsX1_faultAsShots := goodIn_r _ [25, 7, 8, 9, 10, 5, 11, 12, 13, 14, 15, 16, 17, 18, 26, 27, 28, 29, 30, 31, 32, 33, 34, 45, 46, 47] rfl (by decide +kernel)
set_option maxRecDepth 20000 in
theorem gX6_fault_X1_faultAsShots : GoodIn wsX6_fault (wsV RX6 131 RX1 yX1_faultAsShots wsX1_faultAsShots) := goodIn_app (goodIn_of _ (by decide +kernel)) ggX6_fault_X1_faultAsShots
theorem dX6_fault_0 : decode cX6_fault 0 = .ok (.iload_n 1, 1) := by decide +kernel
theorem dX6_fault_1 : decode cX6_fault 1 = .ok (.lookupswitch 43 #[(0, 27), (1, 35)], 27) := by decide +kernel
theorem dX6_fault_28 : decode cX6_fault 28 = .ok (.aload_n 0, 1) := by decide +kernel
theorem dX6_fault_29 : decode cX6_fault 29 = .ok (.getfield 43, 3) := by decide +kernel
theorem dX6_fault_32 : decode cX6_fault 32 = .ok (.invokevirtual 128, 3) := by decide +kernel
theorem dX6_fault_35 : decode cX6_fault 35 = .ok (.ireturn, 1) := by decide +kernel
theorem dX6_fault_36 : decode cX6_fault 36 = .ok (.aload_n 0, 1) := by decide +kernel
theorem dX6_fault_37 : decode cX6_fault 37 = .ok (.getfield 43, 3) := by decide +kernel
theorem dX6_fault_40 : decode cX6_fault 40 = .ok (.invokevirtual 131, 3) := by decide +kernel
theorem dX6_fault_43 : decode cX6_fault 43 = .ok (.ireturn, 1) := by decide +kernel
theorem dX6_fault_44 : decode cX6_fault 44 = .ok (.iconst (-1), 1) := by decide +kernel
theorem dX6_fault_45 : decode cX6_fault 45 = .ok (.ireturn, 1) := by decide +kernel
set_option maxRecDepth 20000 in
theorem ggX6_board_X1_faultAsBoard : GoodIn wsX6_board wsX1_faultAsBoard := goodIn_r _ [9, 10, 11, 12, 13, 8, 14, 15, 16, 17, 18, 19, 20, 21, 22, 23, 24, 128, 129, 130] rfl (by decide +kernel)
set_option maxRecDepth 20000 in
theorem gX6_board_X1_faultAsBoard : GoodIn wsX6_board (wsV RX6 128 RX1 yX1_faultAsBoard wsX1_faultAsBoard) := goodIn_app (goodIn_of _ (by decide +kernel)) ggX6_board_X1_faultAsBoard
set_option maxRecDepth 20000 in
theorem ggX6_board_X0_record : GoodIn wsX6_board wsX0_record := goodIn_r _ [29, 30, 31, 32, 33, 34, 28, 35, 36, 37, 38, 39, 40, 41, 42, 43, 44, 45, 46, 47, 48, 49, 50, 51, 52, 53, 54, 55, 56, 57, 58, 59, 60, 61, 62, 63, 64, 65, 66, 67, 68, 69, 70, 71, 19, 72, 21, 73, 74, 75, 76, 77, 78, 79, 80, 81, 131, 132, 117, 118, 119, 120, 121, 122, 123, 124, 125, 126, 127, 133, 134, 135, 136, 137, 138, 139, 140, 130] rfl (by decide +kernel)
set_option maxRecDepth 20000 in
theorem gX6_board_X0_record : GoodIn wsX6_board (wsV RX6 61 RX0 yX0_record wsX0_record) := goodIn_app (goodIn_of _ (by decide +kernel)) ggX6_board_X0_record
set_option maxRecDepth 20000 in
theorem ggX6_board_X1_codeAt : GoodIn wsX6_board wsX1_codeAt := goodIn_r _ [14, 10, 15, 16, 17, 18, 19, 20, 21, 128, 129, 130] rfl (by decide +kernel)
set_option maxRecDepth 20000 in
theorem gX6_board_X1_codeAt : GoodIn wsX6_board (wsV RX6 134 RX1 yX1_codeAt wsX1_codeAt) := goodIn_app (goodIn_of _ (by decide +kernel)) ggX6_board_X1_codeAt
set_option maxRecDepth 20000 in
theorem ggX6_board_X2_readSign : GoodIn wsX6_board wsX2_readSign := goodIn_r _ [86, 61, 62, 63, 64, 87, 88, 89, 19, 90, 21, 133, 134, 135, 136, 137, 138, 139, 140, 130] rfl (by decide +kernel)
set_option maxRecDepth 20000 in
theorem gX6_board_X2_readSign : GoodIn wsX6_board (wsV RX6 137 RX2 yX2_readSign wsX2_readSign) := goodIn_app (goodIn_of _ (by decide +kernel)) ggX6_board_X2_readSign
set_option maxRecDepth 20000 in
theorem ggX6_board_X1_wipe : GoodIn wsX6_board wsX1_wipe := goodIn_r _ [94, 10, 128, 129] rfl (by decide +kernel)
set_option maxRecDepth 20000 in
theorem gX6_board_X1_wipe : GoodIn wsX6_board (wsV RX6 125 RX1 yX1_wipe wsX1_wipe) := goodIn_app (goodIn_of _ (by decide +kernel)) ggX6_board_X1_wipe
set_option maxRecDepth 20000 in
theorem ggX6_board_X2_allPins : GoodIn wsX6_board wsX2_allPins := goodIn_r _ [98, 99, 100, 101, 59, 102, 62, 103, 104, 105, 19, 106, 21, 133, 134, 135, 136, 137, 138, 139, 140, 130] rfl (by decide +kernel)
set_option maxRecDepth 20000 in
theorem gX6_board_X2_allPins : GoodIn wsX6_board (wsV RX6 140 RX2 yX2_allPins wsX2_allPins) := goodIn_app (goodIn_of _ (by decide +kernel)) ggX6_board_X2_allPins
theorem dX6_board_0 : decode cX6_board 0 = .ok (.aload_n 0, 1) := by decide +kernel
theorem dX6_board_1 : decode cX6_board 1 = .ok (.getfield 43, 3) := by decide +kernel
theorem dX6_board_4 : decode cX6_board 4 = .ok (.invokevirtual 128, 3) := by decide +kernel
theorem dX6_board_7 : decode cX6_board 7 = .ok (.bipush (-4), 2) := by decide +kernel
theorem dX6_board_9 : decode cX6_board 9 = .ok (.if_icmp .eq 6, 3) := by decide +kernel
theorem dX6_board_12 : decode cX6_board 12 = .ok (.bipush (-2), 2) := by decide +kernel
theorem dX6_board_14 : decode cX6_board 14 = .ok (.ireturn, 1) := by decide +kernel
theorem dX6_board_15 : decode cX6_board 15 = .ok (.aload_n 0, 1) := by decide +kernel
theorem dX6_board_16 : decode cX6_board 16 = .ok (.getfield 29, 3) := by decide +kernel
theorem dX6_board_19 : decode cX6_board 19 = .ok (.aload_n 0, 1) := by decide +kernel
theorem dX6_board_20 : decode cX6_board 20 = .ok (.getfield 10, 3) := by decide +kernel
theorem dX6_board_23 : decode cX6_board 23 = .ok (.invokevirtual 61, 3) := by decide +kernel
theorem dX6_board_26 : decode cX6_board 26 = .ok (.iconst 0, 1) := by decide +kernel
theorem dX6_board_27 : decode cX6_board 27 = .ok (.istore_n 1, 1) := by decide +kernel
theorem dX6_board_28 : decode cX6_board 28 = .ok (.iload_n 1, 1) := by decide +kernel
theorem dX6_board_29 : decode cX6_board 29 = .ok (.bipush 35, 2) := by decide +kernel
theorem dX6_board_31 : decode cX6_board 31 = .ok (.if_icmp .ge 28, 3) := by decide +kernel
theorem dX6_board_34 : decode cX6_board 34 = .ok (.aload_n 0, 1) := by decide +kernel
theorem dX6_board_35 : decode cX6_board 35 = .ok (.getfield 10, 3) := by decide +kernel
theorem dX6_board_38 : decode cX6_board 38 = .ok (.getfield 73, 3) := by decide +kernel
theorem dX6_board_41 : decode cX6_board 41 = .ok (.iload_n 1, 1) := by decide +kernel
theorem dX6_board_42 : decode cX6_board 42 = .ok (.aload_n 0, 1) := by decide +kernel
theorem dX6_board_43 : decode cX6_board 43 = .ok (.getfield 43, 3) := by decide +kernel
theorem dX6_board_46 : decode cX6_board 46 = .ok (.iload_n 1, 1) := by decide +kernel
theorem dX6_board_47 : decode cX6_board 47 = .ok (.invokevirtual 134, 3) := by decide +kernel
theorem dX6_board_50 : decode cX6_board 50 = .ok (.invokevirtual 137, 3) := by decide +kernel
theorem dX6_board_53 : decode cX6_board 53 = .ok (.iinc 1 1, 3) := by decide +kernel
theorem dX6_board_56 : decode cX6_board 56 = .ok (.goto (-28), 3) := by decide +kernel
theorem dX6_board_59 : decode cX6_board 59 = .ok (.aload_n 0, 1) := by decide +kernel
theorem dX6_board_60 : decode cX6_board 60 = .ok (.getfield 43, 3) := by decide +kernel
theorem dX6_board_63 : decode cX6_board 63 = .ok (.invokevirtual 125, 3) := by decide +kernel
theorem dX6_board_66 : decode cX6_board 66 = .ok (.aload_n 0, 1) := by decide +kernel
theorem dX6_board_67 : decode cX6_board 67 = .ok (.getfield 10, 3) := by decide +kernel
theorem dX6_board_70 : decode cX6_board 70 = .ok (.getfield 73, 3) := by decide +kernel
theorem dX6_board_73 : decode cX6_board 73 = .ok (.invokevirtual 140, 3) := by decide +kernel
theorem dX6_board_76 : decode cX6_board 76 = .ok (.ireturn, 1) := by decide +kernel
set_option maxRecDepth 20000 in
theorem ggX6_shots_X1_faultAsShots : GoodIn wsX6_shots wsX1_faultAsShots := goodIn_r _ [9, 10, 11, 12, 13, 8, 14, 15, 16, 17, 18, 19, 20, 21, 22, 23, 24, 25, 26, 27, 28, 29, 30, 203, 204, 205] rfl (by decide +kernel)
set_option maxRecDepth 20000 in
theorem gX6_shots_X1_faultAsShots : GoodIn wsX6_shots (wsV RX6 131 RX1 yX1_faultAsShots wsX1_faultAsShots) := goodIn_app (goodIn_of _ (by decide +kernel)) ggX6_shots_X1_faultAsShots
set_option maxRecDepth 20000 in
theorem ggX6_shots_X0_record : GoodIn wsX6_shots wsX0_record := goodIn_r _ [35, 36, 37, 38, 39, 40, 34, 41, 42, 43, 44, 45, 46, 47, 48, 49, 50, 51, 52, 53, 54, 55, 56, 57, 58, 59, 60, 61, 62, 63, 64, 65, 66, 67, 68, 69, 70, 71, 72, 73, 74, 75, 76, 77, 19, 78, 21, 79, 80, 81, 82, 83, 84, 85, 86, 87, 206, 207, 192, 193, 194, 195, 196, 197, 198, 199, 200, 201, 202, 208, 209, 210, 211, 212, 213, 214, 215, 205] rfl (by decide +kernel)
set_option maxRecDepth 20000 in
theorem gX6_shots_X0_record : GoodIn wsX6_shots (wsV RX6 61 RX0 yX0_record wsX0_record) := goodIn_app (goodIn_of _ (by decide +kernel)) ggX6_shots_X0_record
set_option maxRecDepth 20000 in
theorem ggX6_shots_X6_shootAsThePadTells : GoodIn wsX6_shots wsX6_shootAsThePadTells := goodIn_r _ [91, 92, 1, 93, 3, 94, 12, 13, 8, 14, 10, 15, 16, 17, 18, 19, 20, 21, 95, 96, 97, 49, 98, 56, 53, 57, 99, 100, 101, 102, 103, 104, 105, 106, 107, 108, 109, 110, 111, 26, 27, 28, 29, 30, 112, 113, 114, 115, 61, 59, 60, 51, 116, 58, 117, 118, 119, 65, 120, 121, 122, 123, 124, 125, 126, 70, 127, 128, 129, 130, 68, 131, 132, 133, 134, 135, 67, 72, 136, 137, 138, 139, 71, 73, 69, 74, 140, 141, 142, 143, 144, 145, 146, 147, 148, 149, 150, 151, 152, 153, 154, 155, 156, 157, 158, 80, 81, 82, 159, 160, 161, 162, 163, 164, 165, 54, 52, 166, 167, 168, 169, 170, 55, 171, 172, 173, 174, 175, 176, 177, 182, 183, 184, 185, 186, 187, 188, 189, 190, 191, 203, 204, 205, 192, 193, 194, 195, 196, 197, 198, 199, 200, 201, 202, 208, 209, 210, 211, 212, 213, 214, 215] rfl (by decide +kernel)
set_option maxRecDepth 20000 in
theorem gX6_shots_X6_shootAsThePadTells : GoodIn wsX6_shots (wsV RX6 146 RX6 yX6_shootAsThePadTells wsX6_shootAsThePadTells) := goodIn_app (goodIn_of _ (by decide +kernel)) ggX6_shots_X6_shootAsThePadTells
set_option maxRecDepth 20000 in
theorem ggX6_shots_X1_wipe : GoodIn wsX6_shots wsX1_wipe := goodIn_r _ [181, 10, 203, 204] rfl (by decide +kernel)
set_option maxRecDepth 20000 in
theorem gX6_shots_X1_wipe : GoodIn wsX6_shots (wsV RX6 125 RX1 yX1_wipe wsX1_wipe) := goodIn_app (goodIn_of _ (by decide +kernel)) ggX6_shots_X1_wipe
theorem dX6_shots_0 : decode cX6_shots 0 = .ok (.aload_n 0, 1) := by decide +kernel
theorem dX6_shots_1 : decode cX6_shots 1 = .ok (.getfield 43, 3) := by decide +kernel
theorem dX6_shots_4 : decode cX6_shots 4 = .ok (.invokevirtual 131, 3) := by decide +kernel
theorem dX6_shots_7 : decode cX6_shots 7 = .ok (.bipush (-4), 2) := by decide +kernel
theorem dX6_shots_9 : decode cX6_shots 9 = .ok (.if_icmp .eq 6, 3) := by decide +kernel
theorem dX6_shots_12 : decode cX6_shots 12 = .ok (.bipush (-2), 2) := by decide +kernel
theorem dX6_shots_14 : decode cX6_shots 14 = .ok (.ireturn, 1) := by decide +kernel
theorem dX6_shots_15 : decode cX6_shots 15 = .ok (.aload_n 0, 1) := by decide +kernel
theorem dX6_shots_16 : decode cX6_shots 16 = .ok (.getfield 29, 3) := by decide +kernel
theorem dX6_shots_19 : decode cX6_shots 19 = .ok (.aload_n 0, 1) := by decide +kernel
theorem dX6_shots_20 : decode cX6_shots 20 = .ok (.getfield 10, 3) := by decide +kernel
theorem dX6_shots_23 : decode cX6_shots 23 = .ok (.invokevirtual 61, 3) := by decide +kernel
theorem dX6_shots_26 : decode cX6_shots 26 = .ok (.aload_n 0, 1) := by decide +kernel
theorem dX6_shots_27 : decode cX6_shots 27 = .ok (.getfield 10, 3) := by decide +kernel
theorem dX6_shots_30 : decode cX6_shots 30 = .ok (.getfield 143, 3) := by decide +kernel
theorem dX6_shots_33 : decode cX6_shots 33 = .ok (.istore_n 1, 1) := by decide +kernel
theorem dX6_shots_34 : decode cX6_shots 34 = .ok (.aload_n 0, 1) := by decide +kernel
theorem dX6_shots_35 : decode cX6_shots 35 = .ok (.invokevirtual 146, 3) := by decide +kernel
theorem dX6_shots_38 : decode cX6_shots 38 = .ok (.aload_n 0, 1) := by decide +kernel
theorem dX6_shots_39 : decode cX6_shots 39 = .ok (.getfield 43, 3) := by decide +kernel
theorem dX6_shots_42 : decode cX6_shots 42 = .ok (.invokevirtual 125, 3) := by decide +kernel
theorem dX6_shots_45 : decode cX6_shots 45 = .ok (.aload_n 0, 1) := by decide +kernel
theorem dX6_shots_46 : decode cX6_shots 46 = .ok (.getfield 10, 3) := by decide +kernel
theorem dX6_shots_49 : decode cX6_shots 49 = .ok (.getfield 143, 3) := by decide +kernel
theorem dX6_shots_52 : decode cX6_shots 52 = .ok (.iload_n 1, 1) := by decide +kernel
theorem dX6_shots_53 : decode cX6_shots 53 = .ok (.isub, 1) := by decide +kernel
theorem dX6_shots_54 : decode cX6_shots 54 = .ok (.ireturn, 1) := by decide +kernel
set_option maxRecDepth 20000 in
theorem ggX6_why_X6_isWithin : GoodIn wsX6_why wsX6_isWithin := goodIn_r _ [7] rfl (by decide +kernel)
set_option maxRecDepth 20000 in
theorem gX6_why_X6_isWithin : GoodIn wsX6_why (va_wsS RX6 57 yX6_isWithin wsX6_isWithin) := goodIn_app (goodIn_of _ (by decide +kernel)) ggX6_why_X6_isWithin
theorem dX6_why_0 : decode cX6_why 0 = .ok (.iload_n 1, 1) := by decide +kernel
theorem dX6_why_1 : decode cX6_why 1 = .ok (.iconst 0, 1) := by decide +kernel
theorem dX6_why_2 : decode cX6_why 2 = .ok (.iconst 2, 1) := by decide +kernel
theorem dX6_why_3 : decode cX6_why 3 = .ok (.invokestatic 57, 3) := by decide +kernel
theorem dX6_why_6 : decode cX6_why 6 = .ok (.ifCond .ne 5, 3) := by decide +kernel
theorem dX6_why_9 : decode cX6_why 9 = .ok (.iconst (-1), 1) := by decide +kernel
theorem dX6_why_10 : decode cX6_why 10 = .ok (.ireturn, 1) := by decide +kernel
theorem dX6_why_11 : decode cX6_why 11 = .ok (.aload_n 0, 1) := by decide +kernel
theorem dX6_why_12 : decode cX6_why 12 = .ok (.getfield 47, 3) := by decide +kernel
theorem dX6_why_15 : decode cX6_why 15 = .ok (.ifCond .ne 6, 3) := by decide +kernel
theorem dX6_why_18 : decode cX6_why 18 = .ok (.bipush (-4), 2) := by decide +kernel
theorem dX6_why_20 : decode cX6_why 20 = .ok (.ireturn, 1) := by decide +kernel
theorem dX6_why_21 : decode cX6_why 21 = .ok (.iload_n 1, 1) := by decide +kernel
theorem dX6_why_22 : decode cX6_why 22 = .ok (.lookupswitch 36 #[(0, 26), (1, 31)], 26) := by decide +kernel
theorem dX6_why_48 : decode cX6_why 48 = .ok (.aload_n 0, 1) := by decide +kernel
theorem dX6_why_49 : decode cX6_why 49 = .ok (.getfield 47, 3) := by decide +kernel
theorem dX6_why_52 : decode cX6_why 52 = .ok (.ireturn, 1) := by decide +kernel
theorem dX6_why_53 : decode cX6_why 53 = .ok (.aload_n 0, 1) := by decide +kernel
theorem dX6_why_54 : decode cX6_why 54 = .ok (.getfield 51, 3) := by decide +kernel
theorem dX6_why_57 : decode cX6_why 57 = .ok (.ireturn, 1) := by decide +kernel
theorem dX6_why_58 : decode cX6_why 58 = .ok (.aload_n 0, 1) := by decide +kernel
theorem dX6_why_59 : decode cX6_why 59 = .ok (.getfield 54, 3) := by decide +kernel
theorem dX6_why_62 : decode cX6_why 62 = .ok (.ireturn, 1) := by decide +kernel
set_option maxRecDepth 20000 in
theorem ggX6_sign_X6_isWithin : GoodIn wsX6_sign wsX6_isWithin := goodIn_r _ [6] rfl (by decide +kernel)
set_option maxRecDepth 20000 in
theorem gX6_sign_X6_isWithin : GoodIn wsX6_sign (va_wsS RX6 57 yX6_isWithin wsX6_isWithin) := goodIn_app (goodIn_of _ (by decide +kernel)) ggX6_sign_X6_isWithin
set_option maxRecDepth 20000 in
theorem ggX6_sign_X2_signOf : GoodIn wsX6_sign wsX2_signOf := goodIn_r _ [11, 12, 13, 14, 15, 16, 10, 17, 18, 19, 20, 21, 22, 23, 24, 46, 47, 48, 49, 50, 51, 52, 53, 54] rfl (by decide +kernel)
set_option maxRecDepth 20000 in
theorem gX6_sign_X2_signOf : GoodIn wsX6_sign (wsV RX6 149 RX2 yX2_signOf wsX2_signOf) := goodIn_app (goodIn_of _ (by decide +kernel)) ggX6_sign_X2_signOf
theorem dX6_sign_0 : decode cX6_sign 0 = .ok (.iload_n 1, 1) := by decide +kernel
theorem dX6_sign_1 : decode cX6_sign 1 = .ok (.iconst 0, 1) := by decide +kernel
theorem dX6_sign_2 : decode cX6_sign 2 = .ok (.bipush 34, 2) := by decide +kernel
theorem dX6_sign_4 : decode cX6_sign 4 = .ok (.invokestatic 57, 3) := by decide +kernel
theorem dX6_sign_7 : decode cX6_sign 7 = .ok (.ifCond .ne 5, 3) := by decide +kernel
theorem dX6_sign_10 : decode cX6_sign 10 = .ok (.iconst (-1), 1) := by decide +kernel
theorem dX6_sign_11 : decode cX6_sign 11 = .ok (.ireturn, 1) := by decide +kernel
theorem dX6_sign_12 : decode cX6_sign 12 = .ok (.aload_n 0, 1) := by decide +kernel
theorem dX6_sign_13 : decode cX6_sign 13 = .ok (.getfield 10, 3) := by decide +kernel
theorem dX6_sign_16 : decode cX6_sign 16 = .ok (.getfield 73, 3) := by decide +kernel
theorem dX6_sign_19 : decode cX6_sign 19 = .ok (.iload_n 1, 1) := by decide +kernel
theorem dX6_sign_20 : decode cX6_sign 20 = .ok (.invokevirtual 149, 3) := by decide +kernel
theorem dX6_sign_23 : decode cX6_sign 23 = .ok (.ireturn, 1) := by decide +kernel
set_option maxRecDepth 20000 in
theorem ggX6_pin_X6_isWithin : GoodIn wsX6_pin wsX6_isWithin := goodIn_r _ [11] rfl (by decide +kernel)
set_option maxRecDepth 20000 in
theorem gX6_pin_X6_isWithin : GoodIn wsX6_pin (va_wsS RX6 57 yX6_isWithin wsX6_isWithin) := goodIn_app (goodIn_of _ (by decide +kernel)) ggX6_pin_X6_isWithin
set_option maxRecDepth 20000 in
theorem ggX6_pin_X2_isOut : GoodIn wsX6_pin wsX2_isOut := goodIn_r _ [16, 17, 18, 19, 20, 21, 22, 23, 86, 87, 88, 89, 90, 91, 92, 93, 94] rfl (by decide +kernel)
set_option maxRecDepth 20000 in
theorem gX6_pin_X2_isOut : GoodIn wsX6_pin (wsV RX6 152 RX2 yX2_isOut wsX2_isOut) := goodIn_app (goodIn_of _ (by decide +kernel)) ggX6_pin_X2_isOut
set_option maxRecDepth 20000 in
theorem ggX6_pin_X4_at : GoodIn wsX6_pin wsX4_at := goodIn_r _ [22, 23, 94] rfl (by decide +kernel)
set_option maxRecDepth 20000 in
theorem gX6_pin_X4_at : GoodIn wsX6_pin (wsV RX6 97 RX4 yX4_at wsX4_at) := goodIn_app (goodIn_of _ (by decide +kernel)) ggX6_pin_X4_at
set_option maxRecDepth 20000 in
theorem ggX6_pin_X3_isOpenTo : GoodIn wsX6_pin wsX3_isOpenTo := goodIn_r _ [29, 30, 31, 32, 28, 33, 34, 35, 36, 37, 38, 10, 39, 40, 41, 42, 43, 44, 45, 46, 47, 15, 48, 49, 13, 14, 16, 17, 18, 19, 20, 21, 22, 23, 50, 51, 52, 53, 54, 55, 56, 57, 58, 59, 60, 61, 62, 63, 64, 86, 87, 88, 89, 90, 91, 92, 93, 94] rfl (by decide +kernel)
set_option maxRecDepth 20000 in
theorem gX6_pin_X3_isOpenTo : GoodIn wsX6_pin (wsV RX6 168 RX3 yX3_isOpenTo wsX3_isOpenTo) := goodIn_app (goodIn_of _ (by decide +kernel)) ggX6_pin_X3_isOpenTo
theorem dX6_pin_0 : decode cX6_pin 0 = .ok (.iload_n 1, 1) := by decide +kernel
theorem dX6_pin_1 : decode cX6_pin 1 = .ok (.iconst 0, 1) := by decide +kernel
theorem dX6_pin_2 : decode cX6_pin 2 = .ok (.bipush 34, 2) := by decide +kernel
theorem dX6_pin_4 : decode cX6_pin 4 = .ok (.invokestatic 57, 3) := by decide +kernel
theorem dX6_pin_7 : decode cX6_pin 7 = .ok (.ifCond .ne 5, 3) := by decide +kernel
theorem dX6_pin_10 : decode cX6_pin 10 = .ok (.iconst (-1), 1) := by decide +kernel
theorem dX6_pin_11 : decode cX6_pin 11 = .ok (.ireturn, 1) := by decide +kernel
theorem dX6_pin_12 : decode cX6_pin 12 = .ok (.aload_n 0, 1) := by decide +kernel
theorem dX6_pin_13 : decode cX6_pin 13 = .ok (.getfield 10, 3) := by decide +kernel
theorem dX6_pin_16 : decode cX6_pin 16 = .ok (.getfield 73, 3) := by decide +kernel
theorem dX6_pin_19 : decode cX6_pin 19 = .ok (.astore_n 3, 1) := by decide +kernel
theorem dX6_pin_20 : decode cX6_pin 20 = .ok (.iload_n 2, 1) := by decide +kernel
theorem dX6_pin_21 : decode cX6_pin 21 = .ok (.tableswitch 117 0 4 #[35, 59, 68, 90, 99], 35) := by decide +kernel
theorem dX6_pin_56 : decode cX6_pin 56 = .ok (.aload_n 3, 1) := by decide +kernel
theorem dX6_pin_57 : decode cX6_pin 57 = .ok (.iload_n 1, 1) := by decide +kernel
theorem dX6_pin_58 : decode cX6_pin 58 = .ok (.invokevirtual 152, 3) := by decide +kernel
theorem dX6_pin_61 : decode cX6_pin 61 = .ok (.ifCond .eq 8, 3) := by decide +kernel
theorem dX6_pin_64 : decode cX6_pin 64 = .ok (.bipush (-4), 2) := by decide +kernel
theorem dX6_pin_66 : decode cX6_pin 66 = .ok (.goto 13, 3) := by decide +kernel
theorem dX6_pin_69 : decode cX6_pin 69 = .ok (.aload_n 3, 1) := by decide +kernel
theorem dX6_pin_70 : decode cX6_pin 70 = .ok (.getfield 156, 3) := by decide +kernel
theorem dX6_pin_73 : decode cX6_pin 73 = .ok (.iload_n 1, 1) := by decide +kernel
theorem dX6_pin_74 : decode cX6_pin 74 = .ok (.invokevirtual 97, 3) := by decide +kernel
theorem dX6_pin_77 : decode cX6_pin 77 = .ok (.iconst 3, 1) := by decide +kernel
theorem dX6_pin_78 : decode cX6_pin 78 = .ok (.iadd, 1) := by decide +kernel
theorem dX6_pin_79 : decode cX6_pin 79 = .ok (.ireturn, 1) := by decide +kernel
theorem dX6_pin_80 : decode cX6_pin 80 = .ok (.aload_n 3, 1) := by decide +kernel
theorem dX6_pin_81 : decode cX6_pin 81 = .ok (.getfield 159, 3) := by decide +kernel
theorem dX6_pin_84 : decode cX6_pin 84 = .ok (.iload_n 1, 1) := by decide +kernel
theorem dX6_pin_85 : decode cX6_pin 85 = .ok (.invokevirtual 97, 3) := by decide +kernel
theorem dX6_pin_88 : decode cX6_pin 88 = .ok (.ireturn, 1) := by decide +kernel
theorem dX6_pin_89 : decode cX6_pin 89 = .ok (.aload_n 3, 1) := by decide +kernel
theorem dX6_pin_90 : decode cX6_pin 90 = .ok (.iload_n 1, 1) := by decide +kernel
theorem dX6_pin_91 : decode cX6_pin 91 = .ok (.invokevirtual 152, 3) := by decide +kernel
theorem dX6_pin_94 : decode cX6_pin 94 = .ok (.ifCond .eq 8, 3) := by decide +kernel
theorem dX6_pin_97 : decode cX6_pin 97 = .ok (.bipush (-4), 2) := by decide +kernel
theorem dX6_pin_99 : decode cX6_pin 99 = .ok (.goto 11, 3) := by decide +kernel
theorem dX6_pin_102 : decode cX6_pin 102 = .ok (.aload_n 3, 1) := by decide +kernel
theorem dX6_pin_103 : decode cX6_pin 103 = .ok (.getfield 162, 3) := by decide +kernel
theorem dX6_pin_106 : decode cX6_pin 106 = .ok (.iload_n 1, 1) := by decide +kernel
theorem dX6_pin_107 : decode cX6_pin 107 = .ok (.invokevirtual 97, 3) := by decide +kernel
theorem dX6_pin_110 : decode cX6_pin 110 = .ok (.ireturn, 1) := by decide +kernel
theorem dX6_pin_111 : decode cX6_pin 111 = .ok (.aload_n 3, 1) := by decide +kernel
theorem dX6_pin_112 : decode cX6_pin 112 = .ok (.getfield 165, 3) := by decide +kernel
theorem dX6_pin_115 : decode cX6_pin 115 = .ok (.iload_n 1, 1) := by decide +kernel
theorem dX6_pin_116 : decode cX6_pin 116 = .ok (.invokevirtual 97, 3) := by decide +kernel
theorem dX6_pin_119 : decode cX6_pin 119 = .ok (.ireturn, 1) := by decide +kernel
theorem dX6_pin_120 : decode cX6_pin 120 = .ok (.aload_n 0, 1) := by decide +kernel
theorem dX6_pin_121 : decode cX6_pin 121 = .ok (.getfield 36, 3) := by decide +kernel
theorem dX6_pin_124 : decode cX6_pin 124 = .ok (.aload_n 3, 1) := by decide +kernel
theorem dX6_pin_125 : decode cX6_pin 125 = .ok (.iload_n 1, 1) := by decide +kernel
theorem dX6_pin_126 : decode cX6_pin 126 = .ok (.invokevirtual 168, 3) := by decide +kernel
theorem dX6_pin_129 : decode cX6_pin 129 = .ok (.ifCond .eq 7, 3) := by decide +kernel
theorem dX6_pin_132 : decode cX6_pin 132 = .ok (.iconst 1, 1) := by decide +kernel
theorem dX6_pin_133 : decode cX6_pin 133 = .ok (.goto 4, 3) := by decide +kernel
theorem dX6_pin_136 : decode cX6_pin 136 = .ok (.iconst 0, 1) := by decide +kernel
theorem dX6_pin_137 : decode cX6_pin 137 = .ok (.ireturn, 1) := by decide +kernel
theorem dX6_pin_138 : decode cX6_pin 138 = .ok (.iconst (-1), 1) := by decide +kernel
theorem dX6_pin_139 : decode cX6_pin 139 = .ok (.ireturn, 1) := by decide +kernel
set_option maxRecDepth 20000 in
theorem ggX6_pocket_X6_isWithin : GoodIn wsX6_pocket wsX6_isWithin := goodIn_r _ [10] rfl (by decide +kernel)
set_option maxRecDepth 20000 in
theorem gX6_pocket_X6_isWithin : GoodIn wsX6_pocket (va_wsS RX6 57 yX6_isWithin wsX6_isWithin) := goodIn_app (goodIn_of _ (by decide +kernel)) ggX6_pocket_X6_isWithin
set_option maxRecDepth 20000 in
theorem ggX6_pocket_X4_at : GoodIn wsX6_pocket wsX4_at := goodIn_r _ [15, 16, 92] rfl (by decide +kernel)
set_option maxRecDepth 20000 in
theorem gX6_pocket_X4_at : GoodIn wsX6_pocket (wsV RX6 97 RX4 yX4_at wsX4_at) := goodIn_app (goodIn_of _ (by decide +kernel)) ggX6_pocket_X4_at
set_option maxRecDepth 20000 in
theorem ggX6_pocket_X5_isFull : GoodIn wsX6_pocket wsX5_isFull := goodIn_r _ [21, 22, 23, 24, 12, 13, 14, 15, 16, 81, 82, 83, 84, 85, 86, 87, 88, 89, 90, 91, 92] rfl (by decide +kernel)
set_option maxRecDepth 20000 in
theorem gX6_pocket_X5_isFull : GoodIn wsX6_pocket (wsV RX6 175 RX5 yX5_isFull wsX5_isFull) := goodIn_app (goodIn_of _ (by decide +kernel)) ggX6_pocket_X5_isFull
set_option maxRecDepth 20000 in
theorem ggX6_pocket_X3_startsTo : GoodIn wsX6_pocket wsX3_startsTo := goodIn_r _ [29, 30, 9, 31, 32, 33, 34, 28, 35, 36, 37, 38, 39, 40, 41, 42, 43, 44, 45, 46, 47, 48, 12, 13, 14, 15, 16, 49, 50, 51, 52, 53, 54, 55, 56, 57, 58, 59, 60, 61, 62, 63, 93, 94, 95, 96, 97, 98, 99, 100, 92] rfl (by decide +kernel)
set_option maxRecDepth 20000 in
theorem gX6_pocket_X3_startsTo : GoodIn wsX6_pocket (wsV RX6 181 RX3 yX3_startsTo wsX3_startsTo) := goodIn_app (goodIn_of _ (by decide +kernel)) ggX6_pocket_X3_startsTo
set_option maxRecDepth 20000 in
theorem ggX6_pocket_J6_bitCount_0f7a4 : GoodIn wsX6_pocket wsJ6_bitCount_0f7a4 := goodIn_r _ [67, 68, 69, 70] rfl (by decide +kernel)
set_option maxRecDepth 20000 in
theorem gX6_pocket_J6_bitCount_0f7a4 : GoodIn wsX6_pocket (va_wsS RX6 185 yJ6_bitCount_0f7a4 wsJ6_bitCount_0f7a4) := goodIn_app (goodIn_of _ (by decide +kernel)) ggX6_pocket_J6_bitCount_0f7a4
theorem dX6_pocket_0 : decode cX6_pocket 0 = .ok (.iload_n 1, 1) := by decide +kernel
theorem dX6_pocket_1 : decode cX6_pocket 1 = .ok (.iconst 0, 1) := by decide +kernel
theorem dX6_pocket_2 : decode cX6_pocket 2 = .ok (.bipush 6, 2) := by decide +kernel
theorem dX6_pocket_4 : decode cX6_pocket 4 = .ok (.invokestatic 57, 3) := by decide +kernel
theorem dX6_pocket_7 : decode cX6_pocket 7 = .ok (.ifCond .ne 5, 3) := by decide +kernel
theorem dX6_pocket_10 : decode cX6_pocket 10 = .ok (.iconst (-1), 1) := by decide +kernel
theorem dX6_pocket_11 : decode cX6_pocket 11 = .ok (.ireturn, 1) := by decide +kernel
theorem dX6_pocket_12 : decode cX6_pocket 12 = .ok (.iload_n 2, 1) := by decide +kernel
theorem dX6_pocket_13 : decode cX6_pocket 13 = .ok (.tableswitch 107 0 4 #[35, 47, 59, 76, 88], 35) := by decide +kernel
theorem dX6_pocket_48 : decode cX6_pocket 48 = .ok (.aload_n 0, 1) := by decide +kernel
theorem dX6_pocket_49 : decode cX6_pocket 49 = .ok (.getfield 10, 3) := by decide +kernel
theorem dX6_pocket_52 : decode cX6_pocket 52 = .ok (.getfield 93, 3) := by decide +kernel
theorem dX6_pocket_55 : decode cX6_pocket 55 = .ok (.iload_n 1, 1) := by decide +kernel
theorem dX6_pocket_56 : decode cX6_pocket 56 = .ok (.invokevirtual 97, 3) := by decide +kernel
theorem dX6_pocket_59 : decode cX6_pocket 59 = .ok (.ireturn, 1) := by decide +kernel
theorem dX6_pocket_60 : decode cX6_pocket 60 = .ok (.aload_n 0, 1) := by decide +kernel
theorem dX6_pocket_61 : decode cX6_pocket 61 = .ok (.getfield 10, 3) := by decide +kernel
theorem dX6_pocket_64 : decode cX6_pocket 64 = .ok (.getfield 172, 3) := by decide +kernel
theorem dX6_pocket_67 : decode cX6_pocket 67 = .ok (.iload_n 1, 1) := by decide +kernel
theorem dX6_pocket_68 : decode cX6_pocket 68 = .ok (.invokevirtual 97, 3) := by decide +kernel
theorem dX6_pocket_71 : decode cX6_pocket 71 = .ok (.ireturn, 1) := by decide +kernel
theorem dX6_pocket_72 : decode cX6_pocket 72 = .ok (.aload_n 0, 1) := by decide +kernel
theorem dX6_pocket_73 : decode cX6_pocket 73 = .ok (.getfield 10, 3) := by decide +kernel
theorem dX6_pocket_76 : decode cX6_pocket 76 = .ok (.iload_n 1, 1) := by decide +kernel
theorem dX6_pocket_77 : decode cX6_pocket 77 = .ok (.invokevirtual 175, 3) := by decide +kernel
theorem dX6_pocket_80 : decode cX6_pocket 80 = .ok (.ifCond .eq 7, 3) := by decide +kernel
theorem dX6_pocket_83 : decode cX6_pocket 83 = .ok (.iconst 1, 1) := by decide +kernel
theorem dX6_pocket_84 : decode cX6_pocket 84 = .ok (.goto 4, 3) := by decide +kernel
theorem dX6_pocket_87 : decode cX6_pocket 87 = .ok (.iconst 0, 1) := by decide +kernel
theorem dX6_pocket_88 : decode cX6_pocket 88 = .ok (.ireturn, 1) := by decide +kernel
theorem dX6_pocket_89 : decode cX6_pocket 89 = .ok (.aload_n 0, 1) := by decide +kernel
theorem dX6_pocket_90 : decode cX6_pocket 90 = .ok (.getfield 10, 3) := by decide +kernel
theorem dX6_pocket_93 : decode cX6_pocket 93 = .ok (.getfield 178, 3) := by decide +kernel
theorem dX6_pocket_96 : decode cX6_pocket 96 = .ok (.iload_n 1, 1) := by decide +kernel
theorem dX6_pocket_97 : decode cX6_pocket 97 = .ok (.invokevirtual 97, 3) := by decide +kernel
theorem dX6_pocket_100 : decode cX6_pocket 100 = .ok (.ireturn, 1) := by decide +kernel
theorem dX6_pocket_101 : decode cX6_pocket 101 = .ok (.aload_n 0, 1) := by decide +kernel
theorem dX6_pocket_102 : decode cX6_pocket 102 = .ok (.getfield 36, 3) := by decide +kernel
theorem dX6_pocket_105 : decode cX6_pocket 105 = .ok (.aload_n 0, 1) := by decide +kernel
theorem dX6_pocket_106 : decode cX6_pocket 106 = .ok (.getfield 10, 3) := by decide +kernel
theorem dX6_pocket_109 : decode cX6_pocket 109 = .ok (.getfield 73, 3) := by decide +kernel
theorem dX6_pocket_112 : decode cX6_pocket 112 = .ok (.iload_n 1, 1) := by decide +kernel
theorem dX6_pocket_113 : decode cX6_pocket 113 = .ok (.invokevirtual 181, 3) := by decide +kernel
theorem dX6_pocket_116 : decode cX6_pocket 116 = .ok (.invokestatic 185, 3) := by decide +kernel
theorem dX6_pocket_119 : decode cX6_pocket 119 = .ok (.ireturn, 1) := by decide +kernel
theorem dX6_pocket_120 : decode cX6_pocket 120 = .ok (.iconst (-1), 1) := by decide +kernel
theorem dX6_pocket_121 : decode cX6_pocket 121 = .ok (.ireturn, 1) := by decide +kernel
set_option maxRecDepth 20000 in
theorem ggX6_reach_X3_pocketsForward : GoodIn wsX6_reach wsX3_pocketsForward := goodIn_r _ [8, 9, 10, 11, 7, 12, 13, 14, 15, 16, 17, 18, 19, 20, 21, 22, 23, 24, 25, 26, 27, 28, 29, 30, 31, 32, 33, 34, 35, 36, 37, 38, 39, 40, 41, 42, 43, 44, 45, 46, 47, 48, 49, 50, 51, 52, 53, 54, 55, 89, 90, 91, 92, 93, 94, 95, 96, 97] rfl (by decide +kernel)
set_option maxRecDepth 20000 in
theorem gX6_reach_X3_pocketsForward : GoodIn wsX6_reach (wsV RX6 190 RX3 yX3_pocketsForward wsX3_pocketsForward) := goodIn_app (goodIn_of _ (by decide +kernel)) ggX6_reach_X3_pocketsForward
set_option maxRecDepth 20000 in
theorem ggX6_reach_X3_pocketsBackward : GoodIn wsX6_reach wsX3_pocketsBackward := goodIn_r _ [59, 60, 61, 62, 7, 63, 21, 18, 22, 64, 65, 66, 67, 23, 24, 25, 26, 27, 28, 29, 30, 31, 32, 33, 34, 35, 36, 37, 38, 39, 40, 41, 42, 43, 44, 45, 46, 47, 48, 49, 50, 51, 52, 53, 54, 55, 89, 90, 91, 92, 93, 94, 95, 96, 97] rfl (by decide +kernel)
set_option maxRecDepth 20000 in
theorem gX6_reach_X3_pocketsBackward : GoodIn wsX6_reach (wsV RX6 194 RX3 yX3_pocketsBackward wsX3_pocketsBackward) := goodIn_app (goodIn_of _ (by decide +kernel)) ggX6_reach_X3_pocketsBackward
theorem dX6_reach_0 : decode cX6_reach 0 = .ok (.iload_n 1, 1) := by decide +kernel
theorem dX6_reach_1 : decode cX6_reach 1 = .ok (.lookupswitch 57 #[(0, 27), (1, 42)], 27) := by decide +kernel
theorem dX6_reach_28 : decode cX6_reach 28 = .ok (.aload_n 0, 1) := by decide +kernel
theorem dX6_reach_29 : decode cX6_reach 29 = .ok (.getfield 36, 3) := by decide +kernel
theorem dX6_reach_32 : decode cX6_reach 32 = .ok (.aload_n 0, 1) := by decide +kernel
theorem dX6_reach_33 : decode cX6_reach 33 = .ok (.getfield 10, 3) := by decide +kernel
theorem dX6_reach_36 : decode cX6_reach 36 = .ok (.getfield 73, 3) := by decide +kernel
theorem dX6_reach_39 : decode cX6_reach 39 = .ok (.invokevirtual 190, 3) := by decide +kernel
theorem dX6_reach_42 : decode cX6_reach 42 = .ok (.ireturn, 1) := by decide +kernel
theorem dX6_reach_43 : decode cX6_reach 43 = .ok (.aload_n 0, 1) := by decide +kernel
theorem dX6_reach_44 : decode cX6_reach 44 = .ok (.getfield 36, 3) := by decide +kernel
theorem dX6_reach_47 : decode cX6_reach 47 = .ok (.aload_n 0, 1) := by decide +kernel
theorem dX6_reach_48 : decode cX6_reach 48 = .ok (.getfield 10, 3) := by decide +kernel
theorem dX6_reach_51 : decode cX6_reach 51 = .ok (.getfield 73, 3) := by decide +kernel
theorem dX6_reach_54 : decode cX6_reach 54 = .ok (.invokevirtual 194, 3) := by decide +kernel
theorem dX6_reach_57 : decode cX6_reach 57 = .ok (.ireturn, 1) := by decide +kernel
theorem dX6_reach_58 : decode cX6_reach 58 = .ok (.iconst (-1), 1) := by decide +kernel
theorem dX6_reach_59 : decode cX6_reach 59 = .ok (.ireturn, 1) := by decide +kernel
set_option maxRecDepth 20000 in
theorem ggX6_ways_X6_isWithin : GoodIn wsX6_ways wsX6_isWithin := goodIn_r _ [7] rfl (by decide +kernel)
set_option maxRecDepth 20000 in
theorem gX6_ways_X6_isWithin : GoodIn wsX6_ways (va_wsS RX6 57 yX6_isWithin wsX6_isWithin) := goodIn_app (goodIn_of _ (by decide +kernel)) ggX6_ways_X6_isWithin
set_option maxRecDepth 20000 in
theorem ggX6_ways_X3_waysRowByRow : GoodIn wsX6_ways wsX3_waysRowByRow := goodIn_r _ [12, 13, 14, 15, 16, 17, 18, 19, 20, 21, 22, 23, 24, 25, 6, 26, 27, 28, 29, 30, 31, 32, 33, 34, 35, 36, 37, 38, 39, 40, 41, 42, 43, 44, 45, 46, 47, 48, 49, 50, 51, 52, 53, 54, 55, 56, 57, 58, 59, 60, 61, 11, 62, 63, 64, 65, 66, 67, 68, 69, 70, 71, 72, 73, 74, 75, 76, 77, 78, 109, 110, 111, 112, 113, 114, 115, 116, 117, 118, 119] rfl (by decide +kernel)
set_option maxRecDepth 20000 in
theorem gX6_ways_X3_waysRowByRow : GoodIn wsX6_ways (wsV RX6 197 RX3 yX3_waysRowByRow wsX3_waysRowByRow) := goodIn_app (goodIn_of _ (by decide +kernel)) ggX6_ways_X3_waysRowByRow
set_option maxRecDepth 20000 in
theorem ggX6_ways_X6_waysFromAllPlaces : GoodIn wsX6_ways wsX6_waysFromAllPlaces := goodIn_r _ [81, 82, 83, 6, 84, 85, 25, 26, 86, 28, 29, 30, 31, 32, 33, 34, 35, 36, 37, 38, 39, 18, 40, 20, 41, 42, 43, 44, 45, 46, 47, 48, 49, 50, 51, 52, 53, 54, 55, 56, 57, 87, 63, 64, 65, 112, 113, 114, 115, 116, 117, 118, 119, 111] rfl (by decide +kernel)
set_option maxRecDepth 20000 in
theorem gX6_ways_X6_waysFromAllPlaces : GoodIn wsX6_ways (va_wsS RX6 200 yX6_waysFromAllPlaces wsX6_waysFromAllPlaces) := goodIn_app (goodIn_of _ (by decide +kernel)) ggX6_ways_X6_waysFromAllPlaces
theorem dX6_ways_0 : decode cX6_ways 0 = .ok (.iload_n 1, 1) := by decide +kernel
theorem dX6_ways_1 : decode cX6_ways 1 = .ok (.iconst 0, 1) := by decide +kernel
theorem dX6_ways_2 : decode cX6_ways 2 = .ok (.bipush 6, 2) := by decide +kernel
theorem dX6_ways_4 : decode cX6_ways 4 = .ok (.invokestatic 57, 3) := by decide +kernel
theorem dX6_ways_7 : decode cX6_ways 7 = .ok (.ifCond .ne 5, 3) := by decide +kernel
theorem dX6_ways_10 : decode cX6_ways 10 = .ok (.iconst (-1), 1) := by decide +kernel
theorem dX6_ways_11 : decode cX6_ways 11 = .ok (.ireturn, 1) := by decide +kernel
theorem dX6_ways_12 : decode cX6_ways 12 = .ok (.iload_n 2, 1) := by decide +kernel
theorem dX6_ways_13 : decode cX6_ways 13 = .ok (.lookupswitch 55 #[(0, 27), (1, 43)], 27) := by decide +kernel
theorem dX6_ways_40 : decode cX6_ways 40 = .ok (.aload_n 0, 1) := by decide +kernel
theorem dX6_ways_41 : decode cX6_ways 41 = .ok (.getfield 36, 3) := by decide +kernel
theorem dX6_ways_44 : decode cX6_ways 44 = .ok (.aload_n 0, 1) := by decide +kernel
theorem dX6_ways_45 : decode cX6_ways 45 = .ok (.getfield 10, 3) := by decide +kernel
theorem dX6_ways_48 : decode cX6_ways 48 = .ok (.getfield 73, 3) := by decide +kernel
theorem dX6_ways_51 : decode cX6_ways 51 = .ok (.iload_n 1, 1) := by decide +kernel
theorem dX6_ways_52 : decode cX6_ways 52 = .ok (.invokevirtual 197, 3) := by decide +kernel
theorem dX6_ways_55 : decode cX6_ways 55 = .ok (.ireturn, 1) := by decide +kernel
theorem dX6_ways_56 : decode cX6_ways 56 = .ok (.aload_n 0, 1) := by decide +kernel
theorem dX6_ways_57 : decode cX6_ways 57 = .ok (.getfield 10, 3) := by decide +kernel
theorem dX6_ways_60 : decode cX6_ways 60 = .ok (.getfield 73, 3) := by decide +kernel
theorem dX6_ways_63 : decode cX6_ways 63 = .ok (.iload_n 1, 1) := by decide +kernel
theorem dX6_ways_64 : decode cX6_ways 64 = .ok (.invokestatic 200, 3) := by decide +kernel
theorem dX6_ways_67 : decode cX6_ways 67 = .ok (.ireturn, 1) := by decide +kernel
theorem dX6_ways_68 : decode cX6_ways 68 = .ok (.iconst (-1), 1) := by decide +kernel
theorem dX6_ways_69 : decode cX6_ways 69 = .ok (.ireturn, 1) := by decide +kernel
set_option maxRecDepth 20000 in
theorem ggX6_count_X4_total : GoodIn wsX6_count wsX4_total := goodIn_r _ [12, 13, 144] rfl (by decide +kernel)
set_option maxRecDepth 20000 in
theorem gX6_count_X4_total : GoodIn wsX6_count (wsV RX6 203 RX4 yX4_total wsX4_total) := goodIn_app (goodIn_of _ (by decide +kernel)) ggX6_count_X4_total
set_option maxRecDepth 20000 in
theorem ggX6_count_X2_allPins : GoodIn wsX6_count wsX2_allPins := goodIn_r _ [18, 19, 20, 21, 17, 22, 23, 24, 9, 10, 11, 12, 13, 145, 146, 147, 148, 149, 150, 151, 152, 144] rfl (by decide +kernel)
set_option maxRecDepth 20000 in
theorem gX6_count_X2_allPins : GoodIn wsX6_count (wsV RX6 140 RX2 yX2_allPins wsX2_allPins) := goodIn_app (goodIn_of _ (by decide +kernel)) ggX6_count_X2_allPins
set_option maxRecDepth 20000 in
theorem ggX6_count_X2_straightOnes : GoodIn wsX6_count wsX2_straightOnes := goodIn_r _ [28, 29, 30, 31, 32, 17, 33, 23, 34, 35, 36, 11, 37, 13, 145, 146, 147, 148, 149, 150, 151, 152, 144] rfl (by decide +kernel)
set_option maxRecDepth 20000 in
theorem gX6_count_X2_straightOnes : GoodIn wsX6_count (wsV RX6 209 RX2 yX2_straightOnes wsX2_straightOnes) := goodIn_app (goodIn_of _ (by decide +kernel)) ggX6_count_X2_straightOnes
set_option maxRecDepth 20000 in
theorem ggX6_count_X2_bendsTogether : GoodIn wsX6_count wsX2_bendsTogether := goodIn_r _ [41, 29, 42, 43, 44, 45, 34, 35, 36, 11, 37, 13, 145, 146, 147, 148, 149, 150, 151, 152, 144] rfl (by decide +kernel)
set_option maxRecDepth 20000 in
theorem gX6_count_X2_bendsTogether : GoodIn wsX6_count (wsV RX6 212 RX2 yX2_bendsTogether wsX2_bendsTogether) := goodIn_app (goodIn_of _ (by decide +kernel)) ggX6_count_X2_bendsTogether
set_option maxRecDepth 20000 in
theorem ggX6_count_X2_allBells : GoodIn wsX6_count wsX2_allBells := goodIn_r _ [49, 50, 24, 9, 10, 11, 12, 13, 145, 146, 147, 148, 149, 150, 151, 152, 144] rfl (by decide +kernel)
set_option maxRecDepth 20000 in
theorem gX6_count_X2_allBells : GoodIn wsX6_count (wsV RX6 90 RX2 yX2_allBells wsX2_allBells) := goodIn_app (goodIn_of _ (by decide +kernel)) ggX6_count_X2_allBells
set_option maxRecDepth 20000 in
theorem ggX6_count_X5_fullPockets : GoodIn wsX6_count wsX5_fullPockets := goodIn_r _ [55, 56, 57, 58, 54, 59, 60, 61, 62, 35, 36, 11, 37, 13, 133, 134, 135, 136, 137, 138, 139, 140, 141, 142, 143, 144] rfl (by decide +kernel)
set_option maxRecDepth 20000 in
theorem gX6_count_X5_fullPockets : GoodIn wsX6_count (wsV RX6 215 RX5 yX5_fullPockets wsX5_fullPockets) := goodIn_app (goodIn_of _ (by decide +kernel)) ggX6_count_X5_fullPockets
set_option maxRecDepth 20000 in
theorem ggX6_count_X3_pocketsForward : GoodIn wsX6_count wsX3_pocketsForward := goodIn_r _ [67, 68, 69, 70, 66, 71, 72, 73, 74, 75, 76, 77, 78, 79, 80, 81, 82, 83, 84, 85, 86, 17, 87, 30, 31, 32, 33, 23, 34, 35, 36, 11, 37, 13, 88, 89, 90, 91, 29, 92, 93, 94, 95, 96, 44, 97, 98, 99, 100, 145, 146, 147, 148, 149, 150, 151, 152, 144] rfl (by decide +kernel)
set_option maxRecDepth 20000 in
theorem gX6_count_X3_pocketsForward : GoodIn wsX6_count (wsV RX6 190 RX3 yX3_pocketsForward wsX3_pocketsForward) := goodIn_app (goodIn_of _ (by decide +kernel)) ggX6_count_X3_pocketsForward
set_option maxRecDepth 20000 in
theorem ggX6_count_J6_bitCount_0f7a4 : GoodIn wsX6_count wsJ6_bitCount_0f7a4 := goodIn_r _ [104, 105, 106, 107] rfl (by decide +kernel)
set_option maxRecDepth 20000 in
theorem gX6_count_J6_bitCount_0f7a4 : GoodIn wsX6_count (va_wsS RX6 185 yJ6_bitCount_0f7a4 wsJ6_bitCount_0f7a4) := goodIn_app (goodIn_of _ (by decide +kernel)) ggX6_count_J6_bitCount_0f7a4
set_option maxRecDepth 20000 in
theorem ggX6_count_X6_countSoFar : GoodIn wsX6_count wsX6_countSoFar := goodIn_r _ [111, 1, 112, 113, 6, 114, 115, 116, 117, 118, 119, 120, 121, 122, 123, 124, 125, 126, 127, 128, 129, 130, 131, 132, 133, 134, 135, 136, 137, 138, 139, 140, 141, 142, 143, 145, 146, 147, 148, 149, 150, 151, 152, 153, 154, 155, 156] rfl (by decide +kernel)
set_option maxRecDepth 20000 in
theorem gX6_count_X6_countSoFar : GoodIn wsX6_count (wsV RX6 218 RX6 yX6_countSoFar wsX6_countSoFar) := goodIn_app (goodIn_of _ (by decide +kernel)) ggX6_count_X6_countSoFar
theorem dX6_count_0 : decode cX6_count 0 = .ok (.iload_n 1, 1) := by decide +kernel
theorem dX6_count_1 : decode cX6_count 1 = .ok (.tableswitch 160 0 9 #[55, 63, 71, 82, 90, 101, 112, 123, 134, 142], 55) := by decide +kernel
theorem dX6_count_56 : decode cX6_count 56 = .ok (.aload_n 0, 1) := by decide +kernel
theorem dX6_count_57 : decode cX6_count 57 = .ok (.getfield 10, 3) := by decide +kernel
theorem dX6_count_60 : decode cX6_count 60 = .ok (.getfield 143, 3) := by decide +kernel
theorem dX6_count_63 : decode cX6_count 63 = .ok (.ireturn, 1) := by decide +kernel
theorem dX6_count_64 : decode cX6_count 64 = .ok (.aload_n 0, 1) := by decide +kernel
theorem dX6_count_65 : decode cX6_count 65 = .ok (.getfield 10, 3) := by decide +kernel
theorem dX6_count_68 : decode cX6_count 68 = .ok (.getfield 116, 3) := by decide +kernel
theorem dX6_count_71 : decode cX6_count 71 = .ok (.ireturn, 1) := by decide +kernel
theorem dX6_count_72 : decode cX6_count 72 = .ok (.aload_n 0, 1) := by decide +kernel
theorem dX6_count_73 : decode cX6_count 73 = .ok (.getfield 10, 3) := by decide +kernel
theorem dX6_count_76 : decode cX6_count 76 = .ok (.getfield 172, 3) := by decide +kernel
theorem dX6_count_79 : decode cX6_count 79 = .ok (.invokevirtual 203, 3) := by decide +kernel
theorem dX6_count_82 : decode cX6_count 82 = .ok (.ireturn, 1) := by decide +kernel
theorem dX6_count_83 : decode cX6_count 83 = .ok (.aload_n 0, 1) := by decide +kernel
theorem dX6_count_84 : decode cX6_count 84 = .ok (.getfield 10, 3) := by decide +kernel
theorem dX6_count_87 : decode cX6_count 87 = .ok (.getfield 206, 3) := by decide +kernel
theorem dX6_count_90 : decode cX6_count 90 = .ok (.ireturn, 1) := by decide +kernel
theorem dX6_count_91 : decode cX6_count 91 = .ok (.aload_n 0, 1) := by decide +kernel
theorem dX6_count_92 : decode cX6_count 92 = .ok (.getfield 10, 3) := by decide +kernel
theorem dX6_count_95 : decode cX6_count 95 = .ok (.getfield 73, 3) := by decide +kernel
theorem dX6_count_98 : decode cX6_count 98 = .ok (.invokevirtual 140, 3) := by decide +kernel
theorem dX6_count_101 : decode cX6_count 101 = .ok (.ireturn, 1) := by decide +kernel
theorem dX6_count_102 : decode cX6_count 102 = .ok (.aload_n 0, 1) := by decide +kernel
theorem dX6_count_103 : decode cX6_count 103 = .ok (.getfield 10, 3) := by decide +kernel
theorem dX6_count_106 : decode cX6_count 106 = .ok (.getfield 73, 3) := by decide +kernel
theorem dX6_count_109 : decode cX6_count 109 = .ok (.invokevirtual 209, 3) := by decide +kernel
theorem dX6_count_112 : decode cX6_count 112 = .ok (.ireturn, 1) := by decide +kernel
theorem dX6_count_113 : decode cX6_count 113 = .ok (.aload_n 0, 1) := by decide +kernel
theorem dX6_count_114 : decode cX6_count 114 = .ok (.getfield 10, 3) := by decide +kernel
theorem dX6_count_117 : decode cX6_count 117 = .ok (.getfield 73, 3) := by decide +kernel
theorem dX6_count_120 : decode cX6_count 120 = .ok (.invokevirtual 212, 3) := by decide +kernel
theorem dX6_count_123 : decode cX6_count 123 = .ok (.ireturn, 1) := by decide +kernel
theorem dX6_count_124 : decode cX6_count 124 = .ok (.aload_n 0, 1) := by decide +kernel
theorem dX6_count_125 : decode cX6_count 125 = .ok (.getfield 10, 3) := by decide +kernel
theorem dX6_count_128 : decode cX6_count 128 = .ok (.getfield 73, 3) := by decide +kernel
theorem dX6_count_131 : decode cX6_count 131 = .ok (.invokevirtual 90, 3) := by decide +kernel
theorem dX6_count_134 : decode cX6_count 134 = .ok (.ireturn, 1) := by decide +kernel
theorem dX6_count_135 : decode cX6_count 135 = .ok (.aload_n 0, 1) := by decide +kernel
theorem dX6_count_136 : decode cX6_count 136 = .ok (.getfield 10, 3) := by decide +kernel
theorem dX6_count_139 : decode cX6_count 139 = .ok (.invokevirtual 215, 3) := by decide +kernel
theorem dX6_count_142 : decode cX6_count 142 = .ok (.ireturn, 1) := by decide +kernel
theorem dX6_count_143 : decode cX6_count 143 = .ok (.aload_n 0, 1) := by decide +kernel
theorem dX6_count_144 : decode cX6_count 144 = .ok (.getfield 36, 3) := by decide +kernel
theorem dX6_count_147 : decode cX6_count 147 = .ok (.aload_n 0, 1) := by decide +kernel
theorem dX6_count_148 : decode cX6_count 148 = .ok (.getfield 10, 3) := by decide +kernel
theorem dX6_count_151 : decode cX6_count 151 = .ok (.getfield 73, 3) := by decide +kernel
theorem dX6_count_154 : decode cX6_count 154 = .ok (.invokevirtual 190, 3) := by decide +kernel
theorem dX6_count_157 : decode cX6_count 157 = .ok (.invokestatic 185, 3) := by decide +kernel
theorem dX6_count_160 : decode cX6_count 160 = .ok (.ireturn, 1) := by decide +kernel
theorem dX6_count_161 : decode cX6_count 161 = .ok (.aload_n 0, 1) := by decide +kernel
theorem dX6_count_162 : decode cX6_count 162 = .ok (.iload_n 1, 1) := by decide +kernel
theorem dX6_count_163 : decode cX6_count 163 = .ok (.invokevirtual 218, 3) := by decide +kernel
theorem dX6_count_166 : decode cX6_count 166 = .ok (.ireturn, 1) := by decide +kernel
theorem dX6_mean_0 : decode cX6_mean 0 = .ok (.aload_n 0, 1) := by decide +kernel
theorem dX6_mean_1 : decode cX6_mean 1 = .ok (.getfield 10, 3) := by decide +kernel
theorem dX6_mean_4 : decode cX6_mean 4 = .ok (.getfield 221, 3) := by decide +kernel
theorem dX6_mean_7 : decode cX6_mean 7 = .ok (.ifCond .gt 5, 3) := by decide +kernel
theorem dX6_mean_10 : decode cX6_mean 10 = .ok (.dconst 0, 1) := by decide +kernel
theorem dX6_mean_11 : decode cX6_mean 11 = .ok (.dreturn, 1) := by decide +kernel
theorem dX6_mean_12 : decode cX6_mean 12 = .ok (.aload_n 0, 1) := by decide +kernel
theorem dX6_mean_13 : decode cX6_mean 13 = .ok (.getfield 10, 3) := by decide +kernel
theorem dX6_mean_16 : decode cX6_mean 16 = .ok (.getfield 143, 3) := by decide +kernel
theorem dX6_mean_19 : decode cX6_mean 19 = .ok (.i2d, 1) := by decide +kernel
theorem dX6_mean_20 : decode cX6_mean 20 = .ok (.aload_n 0, 1) := by decide +kernel
theorem dX6_mean_21 : decode cX6_mean 21 = .ok (.getfield 10, 3) := by decide +kernel
theorem dX6_mean_24 : decode cX6_mean 24 = .ok (.getfield 221, 3) := by decide +kernel
theorem dX6_mean_27 : decode cX6_mean 27 = .ok (.i2d, 1) := by decide +kernel
theorem dX6_mean_28 : decode cX6_mean 28 = .ok (.ddiv, 1) := by decide +kernel
theorem dX6_mean_29 : decode cX6_mean 29 = .ok (.dreturn, 1) := by decide +kernel
set_option maxRecDepth 20000 in
theorem ggX6_ends_X6_isWithin : GoodIn wsX6_ends wsX6_isWithin := goodIn_r _ [6] rfl (by decide +kernel)
set_option maxRecDepth 20000 in
theorem gX6_ends_X6_isWithin : GoodIn wsX6_ends (va_wsS RX6 57 yX6_isWithin wsX6_isWithin) := goodIn_app (goodIn_of _ (by decide +kernel)) ggX6_ends_X6_isWithin
set_option maxRecDepth 20000 in
theorem ggX6_ends_X2_endFrom : GoodIn wsX6_ends wsX2_endFrom := goodIn_r _ [11, 12, 5, 13, 14, 15, 16, 10, 17, 18, 19, 20, 21, 22, 23, 24, 25, 26, 27, 28, 29, 30, 31, 32, 33, 34, 35, 36, 37, 38, 39, 40, 41, 42, 43, 44, 66, 67, 68, 69, 70, 71, 72, 73, 74] rfl (by decide +kernel)
set_option maxRecDepth 20000 in
theorem gX6_ends_X2_endFrom : GoodIn wsX6_ends (wsV RX6 224 RX2 yX2_endFrom wsX2_endFrom) := goodIn_app (goodIn_of _ (by decide +kernel)) ggX6_ends_X2_endFrom
theorem dX6_ends_0 : decode cX6_ends 0 = .ok (.iload_n 1, 1) := by decide +kernel
theorem dX6_ends_1 : decode cX6_ends 1 = .ok (.iconst 0, 1) := by decide +kernel
theorem dX6_ends_2 : decode cX6_ends 2 = .ok (.bipush 6, 2) := by decide +kernel
theorem dX6_ends_4 : decode cX6_ends 4 = .ok (.invokestatic 57, 3) := by decide +kernel
theorem dX6_ends_7 : decode cX6_ends 7 = .ok (.ifCond .ne 5, 3) := by decide +kernel
theorem dX6_ends_10 : decode cX6_ends 10 = .ok (.iconst (-1), 1) := by decide +kernel
theorem dX6_ends_11 : decode cX6_ends 11 = .ok (.ireturn, 1) := by decide +kernel
theorem dX6_ends_12 : decode cX6_ends 12 = .ok (.aload_n 0, 1) := by decide +kernel
theorem dX6_ends_13 : decode cX6_ends 13 = .ok (.getfield 10, 3) := by decide +kernel
theorem dX6_ends_16 : decode cX6_ends 16 = .ok (.getfield 73, 3) := by decide +kernel
theorem dX6_ends_19 : decode cX6_ends 19 = .ok (.iload_n 1, 1) := by decide +kernel
theorem dX6_ends_20 : decode cX6_ends 20 = .ok (.invokevirtual 224, 3) := by decide +kernel
theorem dX6_ends_23 : decode cX6_ends 23 = .ok (.ireturn, 1) := by decide +kernel
set_option maxRecDepth 20000 in
theorem ggX6_ifShot_X6_isWithin : GoodIn wsX6_ifShot wsX6_isWithin := goodIn_r _ [11] rfl (by decide +kernel)
set_option maxRecDepth 20000 in
theorem gX6_ifShot_X6_isWithin : GoodIn wsX6_ifShot (va_wsS RX6 57 yX6_isWithin wsX6_isWithin) := goodIn_app (goodIn_of _ (by decide +kernel)) ggX6_ifShot_X6_isWithin
set_option maxRecDepth 20000 in
theorem ggX6_ifShot_X5_copyFrom : GoodIn wsX6_ifShot wsX5_copyFrom := goodIn_r _ [16, 17, 18, 19, 20, 21, 22, 23, 24, 25, 26, 27, 28, 29, 30, 31, 32, 33, 34, 35, 36, 37, 38, 39, 40, 41, 42, 43, 44, 45, 46, 47, 48, 49, 50, 51, 52, 53, 54, 55, 151, 152, 153, 154, 155, 156, 157, 158, 159, 160, 161, 162, 163, 164, 165, 166, 167, 168, 169, 170] rfl (by decide +kernel)
set_option maxRecDepth 20000 in
theorem gX6_ifShot_X5_copyFrom : GoodIn wsX6_ifShot (wsV RX6 227 RX5 yX5_copyFrom wsX5_copyFrom) := goodIn_app (goodIn_of _ (by decide +kernel)) ggX6_ifShot_X5_copyFrom
set_option maxRecDepth 20000 in
theorem ggX6_ifShot_X5_shootBall : GoodIn wsX6_ifShot wsX5_shootBall := goodIn_r _ [59, 22, 27, 25, 26, 17, 60, 24, 61, 62, 63, 31, 64, 65, 10, 66, 67, 68, 69, 70, 36, 71, 72, 73, 74, 34, 75, 76, 77, 44, 78, 46, 79, 80, 81, 82, 33, 38, 83, 84, 85, 86, 37, 39, 35, 40, 87, 88, 89, 90, 91, 92, 93, 94, 95, 96, 97, 98, 9, 11, 99, 100, 101, 102, 103, 104, 105, 48, 49, 50, 106, 107, 108, 109, 110, 111, 15, 112, 20, 23, 19, 18, 113, 114, 115, 116, 117, 21, 118, 151, 152, 153, 154, 155, 156, 157, 158, 159, 160, 161, 162, 163, 164, 165, 166, 167, 168, 169, 170] rfl (by decide +kernel)
set_option maxRecDepth 20000 in
theorem gX6_ifShot_X5_shootBall : GoodIn wsX6_ifShot (wsV RX6 65 RX5 yX5_shootBall wsX5_shootBall) := goodIn_app (goodIn_of _ (by decide +kernel)) ggX6_ifShot_X5_shootBall
set_option maxRecDepth 20000 in
theorem ggX6_ifShot_X3_pocketsForward : GoodIn wsX6_ifShot wsX3_pocketsForward := goodIn_r _ [123, 124, 125, 126, 122, 127, 128, 129, 130, 131, 132, 10, 133, 134, 135, 136, 65, 66, 137, 138, 139, 31, 140, 71, 72, 73, 74, 34, 75, 76, 77, 44, 78, 46, 79, 80, 81, 82, 33, 38, 103, 104, 105, 48, 49, 50, 106, 107, 108, 162, 163, 164, 165, 166, 167, 168, 169, 170] rfl (by decide +kernel)
set_option maxRecDepth 20000 in
theorem gX6_ifShot_X3_pocketsForward : GoodIn wsX6_ifShot (wsV RX6 190 RX3 yX3_pocketsForward wsX3_pocketsForward) := goodIn_app (goodIn_of _ (by decide +kernel)) ggX6_ifShot_X3_pocketsForward
theorem dX6_ifShot_0 : decode cX6_ifShot 0 = .ok (.iload_n 1, 1) := by decide +kernel
theorem dX6_ifShot_1 : decode cX6_ifShot 1 = .ok (.iconst 0, 1) := by decide +kernel
theorem dX6_ifShot_2 : decode cX6_ifShot 2 = .ok (.bipush 6, 2) := by decide +kernel
theorem dX6_ifShot_4 : decode cX6_ifShot 4 = .ok (.invokestatic 57, 3) := by decide +kernel
theorem dX6_ifShot_7 : decode cX6_ifShot 7 = .ok (.ifCond .eq 23, 3) := by decide +kernel
theorem dX6_ifShot_10 : decode cX6_ifShot 10 = .ok (.iload_n 3, 1) := by decide +kernel
theorem dX6_ifShot_11 : decode cX6_ifShot 11 = .ok (.iconst 1, 1) := by decide +kernel
theorem dX6_ifShot_12 : decode cX6_ifShot 12 = .ok (.bipush 20, 2) := by decide +kernel
theorem dX6_ifShot_14 : decode cX6_ifShot 14 = .ok (.invokestatic 57, 3) := by decide +kernel
theorem dX6_ifShot_17 : decode cX6_ifShot 17 = .ok (.ifCond .eq 13, 3) := by decide +kernel
theorem dX6_ifShot_20 : decode cX6_ifShot 20 = .ok (.iload 4, 2) := by decide +kernel
theorem dX6_ifShot_22 : decode cX6_ifShot 22 = .ok (.iconst 0, 1) := by decide +kernel
theorem dX6_ifShot_23 : decode cX6_ifShot 23 = .ok (.iconst 2, 1) := by decide +kernel
theorem dX6_ifShot_24 : decode cX6_ifShot 24 = .ok (.invokestatic 57, 3) := by decide +kernel
theorem dX6_ifShot_27 : decode cX6_ifShot 27 = .ok (.ifCond .ne 5, 3) := by decide +kernel
theorem dX6_ifShot_30 : decode cX6_ifShot 30 = .ok (.iconst (-1), 1) := by decide +kernel
theorem dX6_ifShot_31 : decode cX6_ifShot 31 = .ok (.ireturn, 1) := by decide +kernel
theorem dX6_ifShot_32 : decode cX6_ifShot 32 = .ok (.aload_n 0, 1) := by decide +kernel
theorem dX6_ifShot_33 : decode cX6_ifShot 33 = .ok (.getfield 16, 3) := by decide +kernel
theorem dX6_ifShot_36 : decode cX6_ifShot 36 = .ok (.aload_n 0, 1) := by decide +kernel
theorem dX6_ifShot_37 : decode cX6_ifShot 37 = .ok (.getfield 10, 3) := by decide +kernel
theorem dX6_ifShot_40 : decode cX6_ifShot 40 = .ok (.invokevirtual 227, 3) := by decide +kernel
theorem dX6_ifShot_43 : decode cX6_ifShot 43 = .ok (.iconst 0, 1) := by decide +kernel
theorem dX6_ifShot_44 : decode cX6_ifShot 44 = .ok (.istore 5, 2) := by decide +kernel
theorem dX6_ifShot_46 : decode cX6_ifShot 46 = .ok (.iload 5, 2) := by decide +kernel
theorem dX6_ifShot_48 : decode cX6_ifShot 48 = .ok (.iload_n 3, 1) := by decide +kernel
theorem dX6_ifShot_49 : decode cX6_ifShot 49 = .ok (.if_icmp .ge 29, 3) := by decide +kernel
theorem dX6_ifShot_52 : decode cX6_ifShot 52 = .ok (.aload_n 0, 1) := by decide +kernel
theorem dX6_ifShot_53 : decode cX6_ifShot 53 = .ok (.getfield 16, 3) := by decide +kernel
theorem dX6_ifShot_56 : decode cX6_ifShot 56 = .ok (.getfield 116, 3) := by decide +kernel
theorem dX6_ifShot_59 : decode cX6_ifShot 59 = .ok (.ifCond .le 19, 3) := by decide +kernel
theorem dX6_ifShot_62 : decode cX6_ifShot 62 = .ok (.aload_n 0, 1) := by decide +kernel
theorem dX6_ifShot_63 : decode cX6_ifShot 63 = .ok (.getfield 16, 3) := by decide +kernel
theorem dX6_ifShot_66 : decode cX6_ifShot 66 = .ok (.iload_n 1, 1) := by decide +kernel
theorem dX6_ifShot_67 : decode cX6_ifShot 67 = .ok (.iload_n 2, 1) := by decide +kernel
theorem dX6_ifShot_68 : decode cX6_ifShot 68 = .ok (.invokevirtual 65, 3) := by decide +kernel
theorem dX6_ifShot_71 : decode cX6_ifShot 71 = .ok (.pop, 1) := by decide +kernel
theorem dX6_ifShot_72 : decode cX6_ifShot 72 = .ok (.iinc 5 1, 3) := by decide +kernel
theorem dX6_ifShot_75 : decode cX6_ifShot 75 = .ok (.goto (-29), 3) := by decide +kernel
theorem dX6_ifShot_78 : decode cX6_ifShot 78 = .ok (.iload 4, 2) := by decide +kernel
theorem dX6_ifShot_80 : decode cX6_ifShot 80 = .ok (.lookupswitch 60 #[(0, 28), (1, 44)], 28) := by decide +kernel
theorem dX6_ifShot_108 : decode cX6_ifShot 108 = .ok (.aload_n 0, 1) := by decide +kernel
theorem dX6_ifShot_109 : decode cX6_ifShot 109 = .ok (.getfield 16, 3) := by decide +kernel
theorem dX6_ifShot_112 : decode cX6_ifShot 112 = .ok (.getfield 143, 3) := by decide +kernel
theorem dX6_ifShot_115 : decode cX6_ifShot 115 = .ok (.aload_n 0, 1) := by decide +kernel
theorem dX6_ifShot_116 : decode cX6_ifShot 116 = .ok (.getfield 10, 3) := by decide +kernel
theorem dX6_ifShot_119 : decode cX6_ifShot 119 = .ok (.getfield 143, 3) := by decide +kernel
theorem dX6_ifShot_122 : decode cX6_ifShot 122 = .ok (.isub, 1) := by decide +kernel
theorem dX6_ifShot_123 : decode cX6_ifShot 123 = .ok (.ireturn, 1) := by decide +kernel
theorem dX6_ifShot_124 : decode cX6_ifShot 124 = .ok (.aload_n 0, 1) := by decide +kernel
theorem dX6_ifShot_125 : decode cX6_ifShot 125 = .ok (.getfield 16, 3) := by decide +kernel
theorem dX6_ifShot_128 : decode cX6_ifShot 128 = .ok (.getfield 206, 3) := by decide +kernel
theorem dX6_ifShot_131 : decode cX6_ifShot 131 = .ok (.aload_n 0, 1) := by decide +kernel
theorem dX6_ifShot_132 : decode cX6_ifShot 132 = .ok (.getfield 10, 3) := by decide +kernel
theorem dX6_ifShot_135 : decode cX6_ifShot 135 = .ok (.getfield 206, 3) := by decide +kernel
theorem dX6_ifShot_138 : decode cX6_ifShot 138 = .ok (.isub, 1) := by decide +kernel
theorem dX6_ifShot_139 : decode cX6_ifShot 139 = .ok (.ireturn, 1) := by decide +kernel
theorem dX6_ifShot_140 : decode cX6_ifShot 140 = .ok (.aload_n 0, 1) := by decide +kernel
theorem dX6_ifShot_141 : decode cX6_ifShot 141 = .ok (.getfield 36, 3) := by decide +kernel
theorem dX6_ifShot_144 : decode cX6_ifShot 144 = .ok (.aload_n 0, 1) := by decide +kernel
theorem dX6_ifShot_145 : decode cX6_ifShot 145 = .ok (.getfield 16, 3) := by decide +kernel
theorem dX6_ifShot_148 : decode cX6_ifShot 148 = .ok (.getfield 73, 3) := by decide +kernel
theorem dX6_ifShot_151 : decode cX6_ifShot 151 = .ok (.invokevirtual 190, 3) := by decide +kernel
theorem dX6_ifShot_154 : decode cX6_ifShot 154 = .ok (.ireturn, 1) := by decide +kernel
set_option maxRecDepth 20000 in
theorem ggX6_best_X5_copyFrom : GoodIn wsX6_best wsX5_copyFrom := goodIn_r _ [11, 12, 13, 14, 15, 16, 17, 18, 19, 20, 21, 22, 23, 24, 25, 26, 27, 28, 29, 30, 31, 32, 33, 34, 35, 36, 37, 38, 39, 40, 41, 42, 43, 44, 45, 46, 47, 48, 49, 50, 156, 157, 158, 159, 160, 161, 162, 163, 164, 165, 166, 167, 168, 169, 170, 171, 172, 173, 174, 175] rfl (by decide +kernel)
set_option maxRecDepth 20000 in
theorem gX6_best_X5_copyFrom : GoodIn wsX6_best (wsV RX6 227 RX5 yX5_copyFrom wsX5_copyFrom) := goodIn_app (goodIn_of _ (by decide +kernel)) ggX6_best_X5_copyFrom
set_option maxRecDepth 20000 in
theorem ggX6_best_X5_shootBall : GoodIn wsX6_best wsX5_shootBall := goodIn_r _ [54, 17, 22, 20, 21, 12, 55, 19, 56, 57, 58, 26, 59, 60, 61, 62, 63, 64, 65, 66, 31, 67, 68, 69, 70, 29, 71, 72, 73, 39, 74, 41, 75, 76, 77, 78, 28, 33, 79, 80, 81, 82, 32, 34, 30, 35, 83, 84, 85, 86, 87, 88, 89, 90, 91, 92, 93, 94, 95, 96, 97, 98, 99, 100, 101, 102, 103, 43, 44, 45, 104, 105, 106, 107, 108, 109, 10, 110, 15, 18, 14, 13, 111, 112, 113, 114, 115, 16, 116, 156, 157, 158, 159, 160, 161, 162, 163, 164, 165, 166, 167, 168, 169, 170, 171, 172, 173, 174, 175] rfl (by decide +kernel)
set_option maxRecDepth 20000 in
theorem gX6_best_X5_shootBall : GoodIn wsX6_best (wsV RX6 65 RX5 yX5_shootBall wsX5_shootBall) := goodIn_app (goodIn_of _ (by decide +kernel)) ggX6_best_X5_shootBall
set_option maxRecDepth 20000 in
theorem ggX6_best_X3_pocketsForward : GoodIn wsX6_best wsX3_pocketsForward := goodIn_r _ [121, 122, 123, 124, 120, 125, 126, 127, 128, 129, 130, 61, 131, 132, 133, 134, 60, 62, 135, 136, 137, 26, 138, 67, 68, 69, 70, 29, 71, 72, 73, 39, 74, 41, 75, 76, 77, 78, 28, 33, 101, 102, 103, 43, 44, 45, 104, 105, 106, 167, 168, 169, 170, 171, 172, 173, 174, 175] rfl (by decide +kernel)
set_option maxRecDepth 20000 in
theorem gX6_best_X3_pocketsForward : GoodIn wsX6_best (wsV RX6 190 RX3 yX3_pocketsForward wsX3_pocketsForward) := goodIn_app (goodIn_of _ (by decide +kernel)) ggX6_best_X3_pocketsForward
set_option maxRecDepth 20000 in
theorem ggX6_best_J6_bitCount_0f7a4 : GoodIn wsX6_best wsJ6_bitCount_0f7a4 := goodIn_r _ [142, 143, 144, 145] rfl (by decide +kernel)
set_option maxRecDepth 20000 in
theorem gX6_best_J6_bitCount_0f7a4 : GoodIn wsX6_best (va_wsS RX6 185 yJ6_bitCount_0f7a4 wsJ6_bitCount_0f7a4) := goodIn_app (goodIn_of _ (by decide +kernel)) ggX6_best_J6_bitCount_0f7a4
theorem dX6_best_0 : decode cX6_best 0 = .ok (.aload_n 0, 1) := by decide +kernel
theorem dX6_best_1 : decode cX6_best 1 = .ok (.getfield 10, 3) := by decide +kernel
theorem dX6_best_4 : decode cX6_best 4 = .ok (.getfield 116, 3) := by decide +kernel
theorem dX6_best_7 : decode cX6_best 7 = .ok (.ifCond .gt 6, 3) := by decide +kernel
theorem dX6_best_10 : decode cX6_best 10 = .ok (.bipush (-2), 2) := by decide +kernel
theorem dX6_best_12 : decode cX6_best 12 = .ok (.ireturn, 1) := by decide +kernel
theorem dX6_best_13 : decode cX6_best 13 = .ok (.iconst 0, 1) := by decide +kernel
theorem dX6_best_14 : decode cX6_best 14 = .ok (.istore_n 2, 1) := by decide +kernel
theorem dX6_best_15 : decode cX6_best 15 = .ok (.iconst (-1), 1) := by decide +kernel
theorem dX6_best_16 : decode cX6_best 16 = .ok (.istore_n 3, 1) := by decide +kernel
theorem dX6_best_17 : decode cX6_best 17 = .ok (.iconst (-1), 1) := by decide +kernel
theorem dX6_best_18 : decode cX6_best 18 = .ok (.istore 4, 2) := by decide +kernel
theorem dX6_best_20 : decode cX6_best 20 = .ok (.iconst 0, 1) := by decide +kernel
theorem dX6_best_21 : decode cX6_best 21 = .ok (.istore 5, 2) := by decide +kernel
theorem dX6_best_23 : decode cX6_best 23 = .ok (.iload 5, 2) := by decide +kernel
theorem dX6_best_25 : decode cX6_best 25 = .ok (.bipush 7, 2) := by decide +kernel
theorem dX6_best_27 : decode cX6_best 27 = .ok (.if_icmp .ge 96, 3) := by decide +kernel
theorem dX6_best_30 : decode cX6_best 30 = .ok (.aload_n 0, 1) := by decide +kernel
theorem dX6_best_31 : decode cX6_best 31 = .ok (.getfield 16, 3) := by decide +kernel
theorem dX6_best_34 : decode cX6_best 34 = .ok (.aload_n 0, 1) := by decide +kernel
theorem dX6_best_35 : decode cX6_best 35 = .ok (.getfield 10, 3) := by decide +kernel
theorem dX6_best_38 : decode cX6_best 38 = .ok (.invokevirtual 227, 3) := by decide +kernel
theorem dX6_best_41 : decode cX6_best 41 = .ok (.aload_n 0, 1) := by decide +kernel
theorem dX6_best_42 : decode cX6_best 42 = .ok (.getfield 16, 3) := by decide +kernel
theorem dX6_best_45 : decode cX6_best 45 = .ok (.iload 5, 2) := by decide +kernel
theorem dX6_best_47 : decode cX6_best 47 = .ok (.iload_n 1, 1) := by decide +kernel
theorem dX6_best_48 : decode cX6_best 48 = .ok (.invokevirtual 65, 3) := by decide +kernel
theorem dX6_best_51 : decode cX6_best 51 = .ok (.pop, 1) := by decide +kernel
theorem dX6_best_52 : decode cX6_best 52 = .ok (.aload_n 0, 1) := by decide +kernel
theorem dX6_best_53 : decode cX6_best 53 = .ok (.getfield 16, 3) := by decide +kernel
theorem dX6_best_56 : decode cX6_best 56 = .ok (.getfield 143, 3) := by decide +kernel
theorem dX6_best_59 : decode cX6_best 59 = .ok (.aload_n 0, 1) := by decide +kernel
theorem dX6_best_60 : decode cX6_best 60 = .ok (.getfield 10, 3) := by decide +kernel
theorem dX6_best_63 : decode cX6_best 63 = .ok (.getfield 143, 3) := by decide +kernel
theorem dX6_best_66 : decode cX6_best 66 = .ok (.isub, 1) := by decide +kernel
theorem dX6_best_67 : decode cX6_best 67 = .ok (.istore 6, 2) := by decide +kernel
theorem dX6_best_69 : decode cX6_best 69 = .ok (.aload_n 0, 1) := by decide +kernel
theorem dX6_best_70 : decode cX6_best 70 = .ok (.getfield 36, 3) := by decide +kernel
theorem dX6_best_73 : decode cX6_best 73 = .ok (.aload_n 0, 1) := by decide +kernel
theorem dX6_best_74 : decode cX6_best 74 = .ok (.getfield 16, 3) := by decide +kernel
theorem dX6_best_77 : decode cX6_best 77 = .ok (.getfield 73, 3) := by decide +kernel
theorem dX6_best_80 : decode cX6_best 80 = .ok (.invokevirtual 190, 3) := by decide +kernel
theorem dX6_best_83 : decode cX6_best 83 = .ok (.invokestatic 185, 3) := by decide +kernel
theorem dX6_best_86 : decode cX6_best 86 = .ok (.istore 7, 2) := by decide +kernel
theorem dX6_best_88 : decode cX6_best 88 = .ok (.iload 6, 2) := by decide +kernel
theorem dX6_best_90 : decode cX6_best 90 = .ok (.iload_n 3, 1) := by decide +kernel
theorem dX6_best_91 : decode cX6_best 91 = .ok (.if_icmp .gt 16, 3) := by decide +kernel
theorem dX6_best_94 : decode cX6_best 94 = .ok (.iload 6, 2) := by decide +kernel
theorem dX6_best_96 : decode cX6_best 96 = .ok (.iload_n 3, 1) := by decide +kernel
theorem dX6_best_97 : decode cX6_best 97 = .ok (.if_icmp .ne 20, 3) := by decide +kernel
theorem dX6_best_100 : decode cX6_best 100 = .ok (.iload 7, 2) := by decide +kernel
theorem dX6_best_102 : decode cX6_best 102 = .ok (.iload 4, 2) := by decide +kernel
theorem dX6_best_104 : decode cX6_best 104 = .ok (.if_icmp .le 13, 3) := by decide +kernel
theorem dX6_best_107 : decode cX6_best 107 = .ok (.iload 5, 2) := by decide +kernel
theorem dX6_best_109 : decode cX6_best 109 = .ok (.istore_n 2, 1) := by decide +kernel
theorem dX6_best_110 : decode cX6_best 110 = .ok (.iload 6, 2) := by decide +kernel
theorem dX6_best_112 : decode cX6_best 112 = .ok (.istore_n 3, 1) := by decide +kernel
theorem dX6_best_113 : decode cX6_best 113 = .ok (.iload 7, 2) := by decide +kernel
theorem dX6_best_115 : decode cX6_best 115 = .ok (.istore 4, 2) := by decide +kernel
theorem dX6_best_117 : decode cX6_best 117 = .ok (.iinc 5 1, 3) := by decide +kernel
theorem dX6_best_120 : decode cX6_best 120 = .ok (.goto (-97), 3) := by decide +kernel
theorem dX6_best_123 : decode cX6_best 123 = .ok (.iload_n 2, 1) := by decide +kernel
theorem dX6_best_124 : decode cX6_best 124 = .ok (.ireturn, 1) := by decide +kernel
set_option maxRecDepth 20000 in
theorem ggX6_undo_X0_takeBack : GoodIn wsX6_undo wsX0_takeBack := goodIn_r _ [8, 9, 10, 11, 12, 7, 13, 14, 15, 16, 17, 18, 19, 20, 21, 22, 23, 24, 25, 26, 27, 28, 29, 30, 31, 32, 33, 34, 35, 36, 37, 38, 39, 40, 41, 42, 43, 44, 45, 46, 47, 48, 49, 50, 51, 52, 53, 54, 55, 56, 57, 58, 69, 70, 71, 72, 73, 74, 75, 76, 77, 78, 79, 80, 81, 82, 83, 84, 85, 86, 87, 88, 89, 90] rfl (by decide +kernel)
set_option maxRecDepth 20000 in
theorem gX6_undo_X0_takeBack : GoodIn wsX6_undo (wsV RX6 233 RX0 yX0_takeBack wsX0_takeBack) := goodIn_app (goodIn_of _ (by decide +kernel)) ggX6_undo_X0_takeBack
theorem dX6_undo_0 : decode cX6_undo 0 = .ok (.aload_n 0, 1) := by decide +kernel
theorem dX6_undo_1 : decode cX6_undo 1 = .ok (.getfield 29, 3) := by decide +kernel
theorem dX6_undo_4 : decode cX6_undo 4 = .ok (.getfield 230, 3) := by decide +kernel
theorem dX6_undo_7 : decode cX6_undo 7 = .ok (.ifCond .gt 6, 3) := by decide +kernel
theorem dX6_undo_10 : decode cX6_undo 10 = .ok (.bipush (-2), 2) := by decide +kernel
theorem dX6_undo_12 : decode cX6_undo 12 = .ok (.ireturn, 1) := by decide +kernel
theorem dX6_undo_13 : decode cX6_undo 13 = .ok (.aload_n 0, 1) := by decide +kernel
theorem dX6_undo_14 : decode cX6_undo 14 = .ok (.getfield 29, 3) := by decide +kernel
theorem dX6_undo_17 : decode cX6_undo 17 = .ok (.aload_n 0, 1) := by decide +kernel
theorem dX6_undo_18 : decode cX6_undo 18 = .ok (.getfield 10, 3) := by decide +kernel
theorem dX6_undo_21 : decode cX6_undo 21 = .ok (.invokevirtual 233, 3) := by decide +kernel
theorem dX6_undo_24 : decode cX6_undo 24 = .ok (.aload_n 0, 1) := by decide +kernel
theorem dX6_undo_25 : decode cX6_undo 25 = .ok (.getfield 29, 3) := by decide +kernel
theorem dX6_undo_28 : decode cX6_undo 28 = .ok (.getfield 230, 3) := by decide +kernel
theorem dX6_undo_31 : decode cX6_undo 31 = .ok (.ireturn, 1) := by decide +kernel
set_option maxRecDepth 20000 in
theorem ggX6_save_X5_copyFrom : GoodIn wsX6_save wsX5_copyFrom := goodIn_r _ [9, 10, 11, 12, 13, 14, 15, 16, 17, 18, 19, 20, 21, 22, 23, 24, 25, 26, 27, 28, 29, 30, 31, 32, 33, 34, 35, 36, 37, 38, 39, 40, 41, 42, 43, 44, 45, 46, 47, 48, 59, 60, 61, 62, 63, 64, 65, 66, 67, 68, 69, 70, 71, 72, 73, 74, 75, 76, 77, 78] rfl (by decide +kernel)
set_option maxRecDepth 20000 in
theorem gX6_save_X5_copyFrom : GoodIn wsX6_save (wsV RX6 227 RX5 yX5_copyFrom wsX5_copyFrom) := goodIn_app (goodIn_of _ (by decide +kernel)) ggX6_save_X5_copyFrom
theorem dX6_save_0 : decode cX6_save 0 = .ok (.aload_n 0, 1) := by decide +kernel
theorem dX6_save_1 : decode cX6_save 1 = .ok (.getfield 19, 3) := by decide +kernel
theorem dX6_save_4 : decode cX6_save 4 = .ok (.aload_n 0, 1) := by decide +kernel
theorem dX6_save_5 : decode cX6_save 5 = .ok (.getfield 10, 3) := by decide +kernel
theorem dX6_save_8 : decode cX6_save 8 = .ok (.invokevirtual 227, 3) := by decide +kernel
theorem dX6_save_11 : decode cX6_save 11 = .ok (.aload_n 0, 1) := by decide +kernel
theorem dX6_save_12 : decode cX6_save 12 = .ok (.iconst 1, 1) := by decide +kernel
theorem dX6_save_13 : decode cX6_save 13 = .ok (.putfield 22, 3) := by decide +kernel
theorem dX6_save_16 : decode cX6_save 16 = .ok (.aload_n 0, 1) := by decide +kernel
theorem dX6_save_17 : decode cX6_save 17 = .ok (.getfield 10, 3) := by decide +kernel
theorem dX6_save_20 : decode cX6_save 20 = .ok (.getfield 143, 3) := by decide +kernel
theorem dX6_save_23 : decode cX6_save 23 = .ok (.ireturn, 1) := by decide +kernel
set_option maxRecDepth 20000 in
theorem ggX6_restore_X0_record : GoodIn wsX6_restore wsX0_record := goodIn_r _ [10, 11, 12, 13, 14, 15, 9, 16, 17, 18, 19, 20, 21, 22, 23, 24, 25, 26, 27, 28, 29, 30, 31, 32, 33, 34, 35, 36, 37, 38, 39, 40, 41, 42, 43, 44, 45, 46, 47, 48, 49, 50, 51, 52, 53, 54, 55, 56, 57, 58, 59, 60, 61, 62, 63, 64, 87, 88, 76, 77, 78, 79, 80, 81, 82, 83, 84, 85, 86, 89, 90, 91, 92, 93, 94, 95, 96, 97] rfl (by decide +kernel)
set_option maxRecDepth 20000 in
theorem gX6_restore_X0_record : GoodIn wsX6_restore (wsV RX6 61 RX0 yX0_record wsX0_record) := goodIn_app (goodIn_of _ (by decide +kernel)) ggX6_restore_X0_record
set_option maxRecDepth 20000 in
theorem ggX6_restore_X5_copyFrom : GoodIn wsX6_restore wsX5_copyFrom := goodIn_r _ [25, 26, 27, 28, 29, 30, 31, 32, 33, 34, 35, 36, 37, 38, 39, 40, 41, 42, 43, 44, 45, 46, 47, 48, 49, 50, 51, 52, 53, 54, 55, 56, 57, 58, 59, 60, 61, 62, 63, 64, 76, 77, 78, 79, 80, 81, 82, 83, 84, 85, 86, 89, 90, 91, 92, 93, 94, 95, 96, 97] rfl (by decide +kernel)
set_option maxRecDepth 20000 in
theorem gX6_restore_X5_copyFrom : GoodIn wsX6_restore (wsV RX6 227 RX5 yX5_copyFrom wsX5_copyFrom) := goodIn_app (goodIn_of _ (by decide +kernel)) ggX6_restore_X5_copyFrom
theorem dX6_restore_0 : decode cX6_restore 0 = .ok (.aload_n 0, 1) := by decide +kernel
theorem dX6_restore_1 : decode cX6_restore 1 = .ok (.getfield 22, 3) := by decide +kernel
theorem dX6_restore_4 : decode cX6_restore 4 = .ok (.ifCond .ne 6, 3) := by decide +kernel
theorem dX6_restore_7 : decode cX6_restore 7 = .ok (.bipush (-2), 2) := by decide +kernel
theorem dX6_restore_9 : decode cX6_restore 9 = .ok (.ireturn, 1) := by decide +kernel
theorem dX6_restore_10 : decode cX6_restore 10 = .ok (.aload_n 0, 1) := by decide +kernel
theorem dX6_restore_11 : decode cX6_restore 11 = .ok (.getfield 29, 3) := by decide +kernel
theorem dX6_restore_14 : decode cX6_restore 14 = .ok (.aload_n 0, 1) := by decide +kernel
theorem dX6_restore_15 : decode cX6_restore 15 = .ok (.getfield 10, 3) := by decide +kernel
theorem dX6_restore_18 : decode cX6_restore 18 = .ok (.invokevirtual 61, 3) := by decide +kernel
theorem dX6_restore_21 : decode cX6_restore 21 = .ok (.aload_n 0, 1) := by decide +kernel
theorem dX6_restore_22 : decode cX6_restore 22 = .ok (.getfield 10, 3) := by decide +kernel
theorem dX6_restore_25 : decode cX6_restore 25 = .ok (.aload_n 0, 1) := by decide +kernel
theorem dX6_restore_26 : decode cX6_restore 26 = .ok (.getfield 19, 3) := by decide +kernel
theorem dX6_restore_29 : decode cX6_restore 29 = .ok (.invokevirtual 227, 3) := by decide +kernel
theorem dX6_restore_32 : decode cX6_restore 32 = .ok (.aload_n 0, 1) := by decide +kernel
theorem dX6_restore_33 : decode cX6_restore 33 = .ok (.getfield 10, 3) := by decide +kernel
theorem dX6_restore_36 : decode cX6_restore 36 = .ok (.getfield 143, 3) := by decide +kernel
theorem dX6_restore_39 : decode cX6_restore 39 = .ok (.ireturn, 1) := by decide +kernel
theorem dX6_isWithin_0 : decode cX6_isWithin 0 = .ok (.iload_n 0, 1) := by decide +kernel
theorem dX6_isWithin_1 : decode cX6_isWithin 1 = .ok (.iload_n 1, 1) := by decide +kernel
theorem dX6_isWithin_2 : decode cX6_isWithin 2 = .ok (.if_icmp .lt 12, 3) := by decide +kernel
theorem dX6_isWithin_5 : decode cX6_isWithin 5 = .ok (.iload_n 0, 1) := by decide +kernel
theorem dX6_isWithin_6 : decode cX6_isWithin 6 = .ok (.iload_n 2, 1) := by decide +kernel
theorem dX6_isWithin_7 : decode cX6_isWithin 7 = .ok (.if_icmp .gt 7, 3) := by decide +kernel
theorem dX6_isWithin_10 : decode cX6_isWithin 10 = .ok (.iconst 1, 1) := by decide +kernel
theorem dX6_isWithin_11 : decode cX6_isWithin 11 = .ok (.goto 4, 3) := by decide +kernel
theorem dX6_isWithin_14 : decode cX6_isWithin 14 = .ok (.iconst 0, 1) := by decide +kernel
theorem dX6_isWithin_15 : decode cX6_isWithin 15 = .ok (.ireturn, 1) := by decide +kernel
theorem dX6_bit_0 : decode cX6_bit 0 = .ok (.iconst 1, 1) := by decide +kernel
theorem dX6_bit_1 : decode cX6_bit 1 = .ok (.iload_n 0, 1) := by decide +kernel
theorem dX6_bit_2 : decode cX6_bit 2 = .ok (.ishl, 1) := by decide +kernel
theorem dX6_bit_3 : decode cX6_bit 3 = .ok (.ireturn, 1) := by decide +kernel
set_option maxRecDepth 20000 in
theorem ggX6_isIn_X6_bit : GoodIn wsX6_isIn wsX6_bit := goodIn_r _ [4] rfl (by decide +kernel)
set_option maxRecDepth 20000 in
theorem gX6_isIn_X6_bit : GoodIn wsX6_isIn (va_wsS RX6 236 yX6_bit wsX6_bit) := goodIn_app (goodIn_of _ (by decide +kernel)) ggX6_isIn_X6_bit
theorem dX6_isIn_0 : decode cX6_isIn 0 = .ok (.iload_n 0, 1) := by decide +kernel
theorem dX6_isIn_1 : decode cX6_isIn 1 = .ok (.iload_n 1, 1) := by decide +kernel
theorem dX6_isIn_2 : decode cX6_isIn 2 = .ok (.invokestatic 236, 3) := by decide +kernel
theorem dX6_isIn_5 : decode cX6_isIn 5 = .ok (.iand, 1) := by decide +kernel
theorem dX6_isIn_6 : decode cX6_isIn 6 = .ok (.ifCond .eq 7, 3) := by decide +kernel
theorem dX6_isIn_9 : decode cX6_isIn 9 = .ok (.iconst 1, 1) := by decide +kernel
theorem dX6_isIn_10 : decode cX6_isIn 10 = .ok (.goto 4, 3) := by decide +kernel
theorem dX6_isIn_13 : decode cX6_isIn 13 = .ok (.iconst 0, 1) := by decide +kernel
theorem dX6_isIn_14 : decode cX6_isIn 14 = .ok (.ireturn, 1) := by decide +kernel
theorem dX6_pinAt_0 : decode cX6_pinAt 0 = .ok (.bipush 7, 2) := by decide +kernel
theorem dX6_pinAt_2 : decode cX6_pinAt 2 = .ok (.iload_n 0, 1) := by decide +kernel
theorem dX6_pinAt_3 : decode cX6_pinAt 3 = .ok (.imul, 1) := by decide +kernel
theorem dX6_pinAt_4 : decode cX6_pinAt 4 = .ok (.iload_n 1, 1) := by decide +kernel
theorem dX6_pinAt_5 : decode cX6_pinAt 5 = .ok (.iadd, 1) := by decide +kernel
theorem dX6_pinAt_6 : decode cX6_pinAt 6 = .ok (.ireturn, 1) := by decide +kernel
theorem dX6_placeBeside_0 : decode cX6_placeBeside 0 = .ok (.iconst 0, 1) := by decide +kernel
theorem dX6_placeBeside_1 : decode cX6_placeBeside 1 = .ok (.bipush 6, 2) := by decide +kernel
theorem dX6_placeBeside_3 : decode cX6_placeBeside 3 = .ok (.iload_n 0, 1) := by decide +kernel
theorem dX6_placeBeside_4 : decode cX6_placeBeside 4 = .ok (.iload_n 1, 1) := by decide +kernel
theorem dX6_placeBeside_5 : decode cX6_placeBeside 5 = .ok (.iadd, 1) := by decide +kernel
theorem dX6_placeBeside_6 : decode cX6_placeBeside 6 = .ok (.invokestatic 239, 3) := by decide +kernel
theorem dX6_placeBeside_9 : decode cX6_placeBeside 9 = .ok (.invokestatic 244, 3) := by decide +kernel
theorem dX6_placeBeside_12 : decode cX6_placeBeside 12 = .ok (.ireturn, 1) := by decide +kernel
theorem dX6_countSoFar_0 : decode cX6_countSoFar 0 = .ok (.iload_n 1, 1) := by decide +kernel
theorem dX6_countSoFar_1 : decode cX6_countSoFar 1 = .ok (.tableswitch 132 10 18 #[51, 59, 67, 78, 89, 97, 108, 116, 124], 51) := by decide +kernel
theorem dX6_countSoFar_52 : decode cX6_countSoFar 52 = .ok (.aload_n 0, 1) := by decide +kernel
theorem dX6_countSoFar_53 : decode cX6_countSoFar 53 = .ok (.getfield 10, 3) := by decide +kernel
theorem dX6_countSoFar_56 : decode cX6_countSoFar 56 = .ok (.getfield 221, 3) := by decide +kernel
theorem dX6_countSoFar_59 : decode cX6_countSoFar 59 = .ok (.ireturn, 1) := by decide +kernel
theorem dX6_countSoFar_60 : decode cX6_countSoFar 60 = .ok (.aload_n 0, 1) := by decide +kernel
theorem dX6_countSoFar_61 : decode cX6_countSoFar 61 = .ok (.getfield 10, 3) := by decide +kernel
theorem dX6_countSoFar_64 : decode cX6_countSoFar 64 = .ok (.getfield 247, 3) := by decide +kernel
theorem dX6_countSoFar_67 : decode cX6_countSoFar 67 = .ok (.ireturn, 1) := by decide +kernel
theorem dX6_countSoFar_68 : decode cX6_countSoFar 68 = .ok (.aload_n 0, 1) := by decide +kernel
theorem dX6_countSoFar_69 : decode cX6_countSoFar 69 = .ok (.getfield 10, 3) := by decide +kernel
theorem dX6_countSoFar_72 : decode cX6_countSoFar 72 = .ok (.getfield 73, 3) := by decide +kernel
theorem dX6_countSoFar_75 : decode cX6_countSoFar 75 = .ok (.getfield 250, 3) := by decide +kernel
theorem dX6_countSoFar_78 : decode cX6_countSoFar 78 = .ok (.ireturn, 1) := by decide +kernel
theorem dX6_countSoFar_79 : decode cX6_countSoFar 79 = .ok (.aload_n 0, 1) := by decide +kernel
theorem dX6_countSoFar_80 : decode cX6_countSoFar 80 = .ok (.getfield 10, 3) := by decide +kernel
theorem dX6_countSoFar_83 : decode cX6_countSoFar 83 = .ok (.getfield 73, 3) := by decide +kernel
theorem dX6_countSoFar_86 : decode cX6_countSoFar 86 = .ok (.getfield 253, 3) := by decide +kernel
theorem dX6_countSoFar_89 : decode cX6_countSoFar 89 = .ok (.ireturn, 1) := by decide +kernel
theorem dX6_countSoFar_90 : decode cX6_countSoFar 90 = .ok (.aload_n 0, 1) := by decide +kernel
theorem dX6_countSoFar_91 : decode cX6_countSoFar 91 = .ok (.getfield 10, 3) := by decide +kernel
theorem dX6_countSoFar_94 : decode cX6_countSoFar 94 = .ok (.getfield 256, 3) := by decide +kernel
theorem dX6_countSoFar_97 : decode cX6_countSoFar 97 = .ok (.ireturn, 1) := by decide +kernel
theorem dX6_countSoFar_98 : decode cX6_countSoFar 98 = .ok (.aload_n 0, 1) := by decide +kernel
theorem dX6_countSoFar_99 : decode cX6_countSoFar 99 = .ok (.getfield 10, 3) := by decide +kernel
theorem dX6_countSoFar_102 : decode cX6_countSoFar 102 = .ok (.getfield 73, 3) := by decide +kernel
theorem dX6_countSoFar_105 : decode cX6_countSoFar 105 = .ok (.getfield 107, 3) := by decide +kernel
theorem dX6_countSoFar_108 : decode cX6_countSoFar 108 = .ok (.ireturn, 1) := by decide +kernel
theorem dX6_countSoFar_109 : decode cX6_countSoFar 109 = .ok (.aload_n 0, 1) := by decide +kernel
theorem dX6_countSoFar_110 : decode cX6_countSoFar 110 = .ok (.getfield 10, 3) := by decide +kernel
theorem dX6_countSoFar_113 : decode cX6_countSoFar 113 = .ok (.getfield 110, 3) := by decide +kernel
theorem dX6_countSoFar_116 : decode cX6_countSoFar 116 = .ok (.ireturn, 1) := by decide +kernel
theorem dX6_countSoFar_117 : decode cX6_countSoFar 117 = .ok (.aload_n 0, 1) := by decide +kernel
theorem dX6_countSoFar_118 : decode cX6_countSoFar 118 = .ok (.getfield 43, 3) := by decide +kernel
theorem dX6_countSoFar_121 : decode cX6_countSoFar 121 = .ok (.getfield 119, 3) := by decide +kernel
theorem dX6_countSoFar_124 : decode cX6_countSoFar 124 = .ok (.ireturn, 1) := by decide +kernel
theorem dX6_countSoFar_125 : decode cX6_countSoFar 125 = .ok (.aload_n 0, 1) := by decide +kernel
theorem dX6_countSoFar_126 : decode cX6_countSoFar 126 = .ok (.getfield 29, 3) := by decide +kernel
theorem dX6_countSoFar_129 : decode cX6_countSoFar 129 = .ok (.getfield 230, 3) := by decide +kernel
theorem dX6_countSoFar_132 : decode cX6_countSoFar 132 = .ok (.ireturn, 1) := by decide +kernel
theorem dX6_countSoFar_133 : decode cX6_countSoFar 133 = .ok (.iconst (-1), 1) := by decide +kernel
theorem dX6_countSoFar_134 : decode cX6_countSoFar 134 = .ok (.ireturn, 1) := by decide +kernel
set_option maxRecDepth 20000 in
theorem ggX6_shootAsThePadTells_X1_codeAt : GoodIn wsX6_shootAsThePadTells wsX1_codeAt := goodIn_r _ [9, 10, 11, 12, 13, 14, 15, 16, 17, 140, 141, 142] rfl (by decide +kernel)
set_option maxRecDepth 20000 in
theorem gX6_shootAsThePadTells_X1_codeAt : GoodIn wsX6_shootAsThePadTells (wsV RX6 134 RX1 yX1_codeAt wsX1_codeAt) := goodIn_app (goodIn_of _ (by decide +kernel)) ggX6_shootAsThePadTells_X1_codeAt
set_option maxRecDepth 20000 in
theorem ggX6_shootAsThePadTells_X5_emptyPockets : GoodIn wsX6_shootAsThePadTells wsX5_emptyPockets := goodIn_r _ [22, 23, 24, 25, 26, 27, 28, 15, 29, 17, 30, 31, 32, 33, 34, 35, 36, 37, 143, 144, 145, 146, 147, 148, 149, 150, 151, 152, 153, 142] rfl (by decide +kernel)
set_option maxRecDepth 20000 in
theorem gX6_shootAsThePadTells_X5_emptyPockets : GoodIn wsX6_shootAsThePadTells (wsV RX6 113 RX5 yX5_emptyPockets wsX5_emptyPockets) := goodIn_app (goodIn_of _ (by decide +kernel)) ggX6_shootAsThePadTells_X5_emptyPockets
set_option maxRecDepth 20000 in
theorem ggX6_shootAsThePadTells_X1_isPlace : GoodIn wsX6_shootAsThePadTells wsX1_isPlace := goodIn_r _ [40, 41, 42, 43] rfl (by decide +kernel)
set_option maxRecDepth 20000 in
theorem gX6_shootAsThePadTells_X1_isPlace : GoodIn wsX6_shootAsThePadTells (va_wsS RX6 259 yX1_isPlace wsX1_isPlace) := goodIn_app (goodIn_of _ (by decide +kernel)) ggX6_shootAsThePadTells_X1_isPlace
set_option maxRecDepth 20000 in
theorem ggX6_shootAsThePadTells_X5_shootBall : GoodIn wsX6_shootAsThePadTells wsX5_shootBall := goodIn_r _ [47, 23, 48, 49, 50, 51, 52, 53, 54, 55, 56, 57, 58, 59, 42, 60, 61, 62, 63, 64, 65, 66, 67, 68, 69, 70, 71, 13, 14, 15, 16, 17, 72, 73, 74, 75, 76, 77, 78, 79, 80, 81, 82, 83, 84, 85, 86, 87, 88, 89, 90, 91, 92, 93, 94, 95, 96, 97, 41, 43, 98, 99, 100, 101, 102, 103, 104, 105, 106, 107, 108, 109, 110, 111, 112, 113, 21, 114, 115, 25, 24, 116, 117, 118, 119, 120, 121, 122, 123, 143, 144, 145, 146, 147, 148, 149, 150, 151, 152, 153, 154, 155, 156, 157, 158, 159, 160, 161, 142] rfl (by decide +kernel)
set_option maxRecDepth 20000 in
theorem gX6_shootAsThePadTells_X5_shootBall : GoodIn wsX6_shootAsThePadTells (wsV RX6 65 RX5 yX5_shootBall wsX5_shootBall) := goodIn_app (goodIn_of _ (by decide +kernel)) ggX6_shootAsThePadTells_X5_shootBall
set_option maxRecDepth 20000 in
theorem ggX6_shootAsThePadTells_X6_noteStop : GoodIn wsX6_shootAsThePadTells wsX6_noteStop := goodIn_r _ [127, 1, 128, 129, 130, 131, 132, 133, 134, 135, 136, 137, 138, 139] rfl (by decide +kernel)
set_option maxRecDepth 20000 in
theorem gX6_shootAsThePadTells_X6_noteStop : GoodIn wsX6_shootAsThePadTells (wsV RX6 262 RX6 yX6_noteStop wsX6_noteStop) := goodIn_app (goodIn_of _ (by decide +kernel)) ggX6_shootAsThePadTells_X6_noteStop
theorem dX6_shootAsThePadTells_0 : decode cX6_shootAsThePadTells 0 = .ok (.aload_n 0, 1) := by decide +kernel
theorem dX6_shootAsThePadTells_1 : decode cX6_shootAsThePadTells 1 = .ok (.iconst 0, 1) := by decide +kernel
theorem dX6_shootAsThePadTells_2 : decode cX6_shootAsThePadTells 2 = .ok (.putfield 47, 3) := by decide +kernel
theorem dX6_shootAsThePadTells_5 : decode cX6_shootAsThePadTells 5 = .ok (.iconst 0, 1) := by decide +kernel
theorem dX6_shootAsThePadTells_6 : decode cX6_shootAsThePadTells 6 = .ok (.istore_n 1, 1) := by decide +kernel
theorem dX6_shootAsThePadTells_7 : decode cX6_shootAsThePadTells 7 = .ok (.iconst 0, 1) := by decide +kernel
theorem dX6_shootAsThePadTells_8 : decode cX6_shootAsThePadTells 8 = .ok (.istore_n 2, 1) := by decide +kernel
theorem dX6_shootAsThePadTells_9 : decode cX6_shootAsThePadTells 9 = .ok (.iload_n 2, 1) := by decide +kernel
theorem dX6_shootAsThePadTells_10 : decode cX6_shootAsThePadTells 10 = .ok (.aload_n 0, 1) := by decide +kernel
theorem dX6_shootAsThePadTells_11 : decode cX6_shootAsThePadTells 11 = .ok (.getfield 43, 3) := by decide +kernel
theorem dX6_shootAsThePadTells_14 : decode cX6_shootAsThePadTells 14 = .ok (.getfield 119, 3) := by decide +kernel
theorem dX6_shootAsThePadTells_17 : decode cX6_shootAsThePadTells 17 = .ok (.if_icmp .ge 108, 3) := by decide +kernel
theorem dX6_shootAsThePadTells_20 : decode cX6_shootAsThePadTells 20 = .ok (.aload_n 0, 1) := by decide +kernel
theorem dX6_shootAsThePadTells_21 : decode cX6_shootAsThePadTells 21 = .ok (.getfield 47, 3) := by decide +kernel
theorem dX6_shootAsThePadTells_24 : decode cX6_shootAsThePadTells 24 = .ok (.ifCond .ne 101, 3) := by decide +kernel
theorem dX6_shootAsThePadTells_27 : decode cX6_shootAsThePadTells 27 = .ok (.aload_n 0, 1) := by decide +kernel
theorem dX6_shootAsThePadTells_28 : decode cX6_shootAsThePadTells 28 = .ok (.getfield 43, 3) := by decide +kernel
theorem dX6_shootAsThePadTells_31 : decode cX6_shootAsThePadTells 31 = .ok (.iload_n 2, 1) := by decide +kernel
theorem dX6_shootAsThePadTells_32 : decode cX6_shootAsThePadTells 32 = .ok (.invokevirtual 134, 3) := by decide +kernel
theorem dX6_shootAsThePadTells_35 : decode cX6_shootAsThePadTells 35 = .ok (.istore_n 3, 1) := by decide +kernel
theorem dX6_shootAsThePadTells_36 : decode cX6_shootAsThePadTells 36 = .ok (.iload_n 3, 1) := by decide +kernel
theorem dX6_shootAsThePadTells_37 : decode cX6_shootAsThePadTells 37 = .ok (.bipush 44, 2) := by decide +kernel
theorem dX6_shootAsThePadTells_39 : decode cX6_shootAsThePadTells 39 = .ok (.if_icmp .ne 9, 3) := by decide +kernel
theorem dX6_shootAsThePadTells_42 : decode cX6_shootAsThePadTells 42 = .ok (.iinc 1 1, 3) := by decide +kernel
theorem dX6_shootAsThePadTells_45 : decode cX6_shootAsThePadTells 45 = .ok (.goto 74, 3) := by decide +kernel
theorem dX6_shootAsThePadTells_48 : decode cX6_shootAsThePadTells 48 = .ok (.iload_n 3, 1) := by decide +kernel
theorem dX6_shootAsThePadTells_49 : decode cX6_shootAsThePadTells 49 = .ok (.bipush 101, 2) := by decide +kernel
theorem dX6_shootAsThePadTells_51 : decode cX6_shootAsThePadTells 51 = .ok (.if_icmp .ne 13, 3) := by decide +kernel
theorem dX6_shootAsThePadTells_54 : decode cX6_shootAsThePadTells 54 = .ok (.aload_n 0, 1) := by decide +kernel
theorem dX6_shootAsThePadTells_55 : decode cX6_shootAsThePadTells 55 = .ok (.getfield 10, 3) := by decide +kernel
theorem dX6_shootAsThePadTells_58 : decode cX6_shootAsThePadTells 58 = .ok (.invokevirtual 113, 3) := by decide +kernel
theorem dX6_shootAsThePadTells_61 : decode cX6_shootAsThePadTells 61 = .ok (.goto 58, 3) := by decide +kernel
theorem dX6_shootAsThePadTells_64 : decode cX6_shootAsThePadTells 64 = .ok (.iload_n 3, 1) := by decide +kernel
theorem dX6_shootAsThePadTells_65 : decode cX6_shootAsThePadTells 65 = .ok (.invokestatic 259, 3) := by decide +kernel
theorem dX6_shootAsThePadTells_68 : decode cX6_shootAsThePadTells 68 = .ok (.ifCond .eq 51, 3) := by decide +kernel
theorem dX6_shootAsThePadTells_71 : decode cX6_shootAsThePadTells 71 = .ok (.aload_n 0, 1) := by decide +kernel
theorem dX6_shootAsThePadTells_72 : decode cX6_shootAsThePadTells 72 = .ok (.getfield 10, 3) := by decide +kernel
theorem dX6_shootAsThePadTells_75 : decode cX6_shootAsThePadTells 75 = .ok (.iload_n 3, 1) := by decide +kernel
theorem dX6_shootAsThePadTells_76 : decode cX6_shootAsThePadTells 76 = .ok (.bipush 48, 2) := by decide +kernel
theorem dX6_shootAsThePadTells_78 : decode cX6_shootAsThePadTells 78 = .ok (.isub, 1) := by decide +kernel
theorem dX6_shootAsThePadTells_79 : decode cX6_shootAsThePadTells 79 = .ok (.aload_n 0, 1) := by decide +kernel
theorem dX6_shootAsThePadTells_80 : decode cX6_shootAsThePadTells 80 = .ok (.getfield 43, 3) := by decide +kernel
theorem dX6_shootAsThePadTells_83 : decode cX6_shootAsThePadTells 83 = .ok (.iload_n 2, 1) := by decide +kernel
theorem dX6_shootAsThePadTells_84 : decode cX6_shootAsThePadTells 84 = .ok (.iconst 1, 1) := by decide +kernel
theorem dX6_shootAsThePadTells_85 : decode cX6_shootAsThePadTells 85 = .ok (.iadd, 1) := by decide +kernel
theorem dX6_shootAsThePadTells_86 : decode cX6_shootAsThePadTells 86 = .ok (.invokevirtual 134, 3) := by decide +kernel
theorem dX6_shootAsThePadTells_89 : decode cX6_shootAsThePadTells 89 = .ok (.bipush 33, 2) := by decide +kernel
theorem dX6_shootAsThePadTells_91 : decode cX6_shootAsThePadTells 91 = .ok (.if_icmp .ne 7, 3) := by decide +kernel
theorem dX6_shootAsThePadTells_94 : decode cX6_shootAsThePadTells 94 = .ok (.iconst 1, 1) := by decide +kernel
theorem dX6_shootAsThePadTells_95 : decode cX6_shootAsThePadTells 95 = .ok (.goto 4, 3) := by decide +kernel
theorem dX6_shootAsThePadTells_98 : decode cX6_shootAsThePadTells 98 = .ok (.iconst 0, 1) := by decide +kernel
theorem dX6_shootAsThePadTells_99 : decode cX6_shootAsThePadTells 99 = .ok (.invokevirtual 65, 3) := by decide +kernel
theorem dX6_shootAsThePadTells_102 : decode cX6_shootAsThePadTells 102 = .ok (.istore 4, 2) := by decide +kernel
theorem dX6_shootAsThePadTells_104 : decode cX6_shootAsThePadTells 104 = .ok (.iload 4, 2) := by decide +kernel
theorem dX6_shootAsThePadTells_106 : decode cX6_shootAsThePadTells 106 = .ok (.bipush 10, 2) := by decide +kernel
theorem dX6_shootAsThePadTells_108 : decode cX6_shootAsThePadTells 108 = .ok (.if_icmp .ge 11, 3) := by decide +kernel
theorem dX6_shootAsThePadTells_111 : decode cX6_shootAsThePadTells 111 = .ok (.aload_n 0, 1) := by decide +kernel
theorem dX6_shootAsThePadTells_112 : decode cX6_shootAsThePadTells 112 = .ok (.iload 4, 2) := by decide +kernel
theorem dX6_shootAsThePadTells_114 : decode cX6_shootAsThePadTells 114 = .ok (.iload_n 1, 1) := by decide +kernel
theorem dX6_shootAsThePadTells_115 : decode cX6_shootAsThePadTells 115 = .ok (.iload_n 2, 1) := by decide +kernel
theorem dX6_shootAsThePadTells_116 : decode cX6_shootAsThePadTells 116 = .ok (.invokevirtual 262, 3) := by decide +kernel
theorem dX6_shootAsThePadTells_119 : decode cX6_shootAsThePadTells 119 = .ok (.iinc 2 1, 3) := by decide +kernel
theorem dX6_shootAsThePadTells_122 : decode cX6_shootAsThePadTells 122 = .ok (.goto (-113), 3) := by decide +kernel
theorem dX6_shootAsThePadTells_125 : decode cX6_shootAsThePadTells 125 = .ok (.return_, 1) := by decide +kernel
theorem dX6_noteStop_0 : decode cX6_noteStop 0 = .ok (.aload_n 0, 1) := by decide +kernel
theorem dX6_noteStop_1 : decode cX6_noteStop 1 = .ok (.iload_n 1, 1) := by decide +kernel
theorem dX6_noteStop_2 : decode cX6_noteStop 2 = .ok (.putfield 47, 3) := by decide +kernel
theorem dX6_noteStop_5 : decode cX6_noteStop 5 = .ok (.aload_n 0, 1) := by decide +kernel
theorem dX6_noteStop_6 : decode cX6_noteStop 6 = .ok (.iload_n 2, 1) := by decide +kernel
theorem dX6_noteStop_7 : decode cX6_noteStop 7 = .ok (.putfield 51, 3) := by decide +kernel
theorem dX6_noteStop_10 : decode cX6_noteStop 10 = .ok (.aload_n 0, 1) := by decide +kernel
theorem dX6_noteStop_11 : decode cX6_noteStop 11 = .ok (.iload_n 3, 1) := by decide +kernel
theorem dX6_noteStop_12 : decode cX6_noteStop 12 = .ok (.putfield 54, 3) := by decide +kernel
theorem dX6_noteStop_15 : decode cX6_noteStop 15 = .ok (.return_, 1) := by decide +kernel
set_option maxRecDepth 20000 in
theorem ggX6_waysFromAllPlaces_X6_waysFrom : GoodIn wsX6_waysFromAllPlaces wsX6_waysFrom := goodIn_r _ [4, 5, 6, 3, 7, 8, 9, 10, 11, 12, 13, 14, 15, 16, 17, 18, 19, 20, 21, 22, 23, 24, 25, 26, 27, 28, 29, 30, 31, 32, 33, 34, 35, 36, 37, 38, 39, 40, 41, 42, 43, 44, 1, 2, 45, 46, 47, 48, 49, 50, 51, 52, 53] rfl (by decide +kernel)
set_option maxRecDepth 20000 in
theorem gX6_waysFromAllPlaces_X6_waysFrom : GoodIn wsX6_waysFromAllPlaces (va_wsS RX6 266 yX6_waysFrom wsX6_waysFrom) := goodIn_app (goodIn_of _ (by decide +kernel)) ggX6_waysFromAllPlaces_X6_waysFrom
theorem dX6_waysFromAllPlaces_0 : decode cX6_waysFromAllPlaces 0 = .ok (.iconst 0, 1) := by decide +kernel
theorem dX6_waysFromAllPlaces_1 : decode cX6_waysFromAllPlaces 1 = .ok (.istore_n 2, 1) := by decide +kernel
theorem dX6_waysFromAllPlaces_2 : decode cX6_waysFromAllPlaces 2 = .ok (.iconst 0, 1) := by decide +kernel
theorem dX6_waysFromAllPlaces_3 : decode cX6_waysFromAllPlaces 3 = .ok (.istore_n 3, 1) := by decide +kernel
theorem dX6_waysFromAllPlaces_4 : decode cX6_waysFromAllPlaces 4 = .ok (.iload_n 3, 1) := by decide +kernel
theorem dX6_waysFromAllPlaces_5 : decode cX6_waysFromAllPlaces 5 = .ok (.bipush 7, 2) := by decide +kernel
theorem dX6_waysFromAllPlaces_7 : decode cX6_waysFromAllPlaces 7 = .ok (.if_icmp .ge 19, 3) := by decide +kernel
theorem dX6_waysFromAllPlaces_10 : decode cX6_waysFromAllPlaces 10 = .ok (.iload_n 2, 1) := by decide +kernel
theorem dX6_waysFromAllPlaces_11 : decode cX6_waysFromAllPlaces 11 = .ok (.aload_n 0, 1) := by decide +kernel
theorem dX6_waysFromAllPlaces_12 : decode cX6_waysFromAllPlaces 12 = .ok (.iconst 0, 1) := by decide +kernel
theorem dX6_waysFromAllPlaces_13 : decode cX6_waysFromAllPlaces 13 = .ok (.iload_n 3, 1) := by decide +kernel
theorem dX6_waysFromAllPlaces_14 : decode cX6_waysFromAllPlaces 14 = .ok (.iload_n 1, 1) := by decide +kernel
theorem dX6_waysFromAllPlaces_15 : decode cX6_waysFromAllPlaces 15 = .ok (.invokestatic 266, 3) := by decide +kernel
theorem dX6_waysFromAllPlaces_18 : decode cX6_waysFromAllPlaces 18 = .ok (.iadd, 1) := by decide +kernel
theorem dX6_waysFromAllPlaces_19 : decode cX6_waysFromAllPlaces 19 = .ok (.istore_n 2, 1) := by decide +kernel
theorem dX6_waysFromAllPlaces_20 : decode cX6_waysFromAllPlaces 20 = .ok (.iinc 3 1, 3) := by decide +kernel
theorem dX6_waysFromAllPlaces_23 : decode cX6_waysFromAllPlaces 23 = .ok (.goto (-19), 3) := by decide +kernel
theorem dX6_waysFromAllPlaces_26 : decode cX6_waysFromAllPlaces 26 = .ok (.iload_n 2, 1) := by decide +kernel
theorem dX6_waysFromAllPlaces_27 : decode cX6_waysFromAllPlaces 27 = .ok (.ireturn, 1) := by decide +kernel
set_option maxRecDepth 20000 in
theorem ggX6_waysFrom_X6_pinAt : GoodIn wsX6_waysFrom wsX6_pinAt := goodIn_r _ [4] rfl (by decide +kernel)
set_option maxRecDepth 20000 in
theorem gX6_waysFrom_X6_pinAt : GoodIn wsX6_waysFrom (va_wsS RX6 270 yX6_pinAt wsX6_pinAt) := goodIn_app (goodIn_of _ (by decide +kernel)) ggX6_waysFrom_X6_pinAt
set_option maxRecDepth 20000 in
theorem ggX6_waysFrom_X2_nextPlaces : GoodIn wsX6_waysFrom wsX2_nextPlaces := goodIn_r _ [9, 10, 11, 12, 8, 13, 14, 15, 16, 17, 18, 19, 20, 21, 3, 22, 23, 24, 25, 26, 27, 28, 29, 30, 31, 32, 33, 34, 35, 36, 37, 44, 45, 46, 47, 48, 49, 50, 51, 52] rfl (by decide +kernel)
set_option maxRecDepth 20000 in
theorem gX6_waysFrom_X2_nextPlaces : GoodIn wsX6_waysFrom (wsV RX6 273 RX2 yX2_nextPlaces wsX2_nextPlaces) := goodIn_app (goodIn_of _ (by decide +kernel)) ggX6_waysFrom_X2_nextPlaces
set_option maxRecDepth 20000 in
theorem ggX6_waysFrom_X6_isIn : GoodIn wsX6_waysFrom wsX6_isIn := goodIn_r _ [40, 41, 21, 3, 22] rfl (by decide +kernel)
set_option maxRecDepth 20000 in
theorem gX6_waysFrom_X6_isIn : GoodIn wsX6_waysFrom (va_wsS RX6 276 yX6_isIn wsX6_isIn) := goodIn_app (goodIn_of _ (by decide +kernel)) ggX6_waysFrom_X6_isIn
set_option maxRecDepth 20000 in
theorem ggX6_waysFrom_X6_waysFrom : GoodIn wsX6_waysFrom wsX6_waysFrom := goodIn_r _ [0, 1, 2, 3, 4, 5, 6, 7, 8, 9, 10, 11, 12, 13, 14, 15, 16, 17, 18, 19, 20, 21, 22, 23, 24, 25, 26, 27, 28, 29, 30, 31, 32, 33, 34, 35, 36, 37, 38, 39, 40, 41, 42, 43, 44, 45, 46, 47, 48, 49, 50, 51, 52] rfl (by decide +kernel)
set_option maxRecDepth 20000 in
theorem gX6_waysFrom_X6_waysFrom : GoodIn wsX6_waysFrom (va_wsS RX6 266 yX6_waysFrom wsX6_waysFrom) := goodIn_app (goodIn_of _ (by decide +kernel)) ggX6_waysFrom_X6_waysFrom
theorem dX6_waysFrom_0 : decode cX6_waysFrom 0 = .ok (.iload_n 1, 1) := by decide +kernel
theorem dX6_waysFrom_1 : decode cX6_waysFrom 1 = .ok (.iconst 5, 1) := by decide +kernel
theorem dX6_waysFrom_2 : decode cX6_waysFrom 2 = .ok (.if_icmp .lt 14, 3) := by decide +kernel
theorem dX6_waysFrom_5 : decode cX6_waysFrom 5 = .ok (.iload_n 2, 1) := by decide +kernel
theorem dX6_waysFrom_6 : decode cX6_waysFrom 6 = .ok (.iload_n 3, 1) := by decide +kernel
theorem dX6_waysFrom_7 : decode cX6_waysFrom 7 = .ok (.if_icmp .ne 7, 3) := by decide +kernel
theorem dX6_waysFrom_10 : decode cX6_waysFrom 10 = .ok (.iconst 1, 1) := by decide +kernel
theorem dX6_waysFrom_11 : decode cX6_waysFrom 11 = .ok (.goto 4, 3) := by decide +kernel
theorem dX6_waysFrom_14 : decode cX6_waysFrom 14 = .ok (.iconst 0, 1) := by decide +kernel
theorem dX6_waysFrom_15 : decode cX6_waysFrom 15 = .ok (.ireturn, 1) := by decide +kernel
theorem dX6_waysFrom_16 : decode cX6_waysFrom 16 = .ok (.iconst 0, 1) := by decide +kernel
theorem dX6_waysFrom_17 : decode cX6_waysFrom 17 = .ok (.istore 4, 2) := by decide +kernel
theorem dX6_waysFrom_19 : decode cX6_waysFrom 19 = .ok (.aload_n 0, 1) := by decide +kernel
theorem dX6_waysFrom_20 : decode cX6_waysFrom 20 = .ok (.iload_n 1, 1) := by decide +kernel
theorem dX6_waysFrom_21 : decode cX6_waysFrom 21 = .ok (.iload_n 2, 1) := by decide +kernel
theorem dX6_waysFrom_22 : decode cX6_waysFrom 22 = .ok (.invokestatic 270, 3) := by decide +kernel
theorem dX6_waysFrom_25 : decode cX6_waysFrom 25 = .ok (.invokevirtual 273, 3) := by decide +kernel
theorem dX6_waysFrom_28 : decode cX6_waysFrom 28 = .ok (.istore 5, 2) := by decide +kernel
theorem dX6_waysFrom_30 : decode cX6_waysFrom 30 = .ok (.iconst 0, 1) := by decide +kernel
theorem dX6_waysFrom_31 : decode cX6_waysFrom 31 = .ok (.istore 6, 2) := by decide +kernel
theorem dX6_waysFrom_33 : decode cX6_waysFrom 33 = .ok (.iload 6, 2) := by decide +kernel
theorem dX6_waysFrom_35 : decode cX6_waysFrom 35 = .ok (.bipush 7, 2) := by decide +kernel
theorem dX6_waysFrom_37 : decode cX6_waysFrom 37 = .ok (.if_icmp .ge 34, 3) := by decide +kernel
theorem dX6_waysFrom_40 : decode cX6_waysFrom 40 = .ok (.iload 5, 2) := by decide +kernel
theorem dX6_waysFrom_42 : decode cX6_waysFrom 42 = .ok (.iload 6, 2) := by decide +kernel
theorem dX6_waysFrom_44 : decode cX6_waysFrom 44 = .ok (.invokestatic 276, 3) := by decide +kernel
theorem dX6_waysFrom_47 : decode cX6_waysFrom 47 = .ok (.ifCond .eq 18, 3) := by decide +kernel
theorem dX6_waysFrom_50 : decode cX6_waysFrom 50 = .ok (.iload 4, 2) := by decide +kernel
theorem dX6_waysFrom_52 : decode cX6_waysFrom 52 = .ok (.aload_n 0, 1) := by decide +kernel
theorem dX6_waysFrom_53 : decode cX6_waysFrom 53 = .ok (.iload_n 1, 1) := by decide +kernel
theorem dX6_waysFrom_54 : decode cX6_waysFrom 54 = .ok (.iconst 1, 1) := by decide +kernel
theorem dX6_waysFrom_55 : decode cX6_waysFrom 55 = .ok (.iadd, 1) := by decide +kernel
theorem dX6_waysFrom_56 : decode cX6_waysFrom 56 = .ok (.iload 6, 2) := by decide +kernel
theorem dX6_waysFrom_58 : decode cX6_waysFrom 58 = .ok (.iload_n 3, 1) := by decide +kernel
theorem dX6_waysFrom_59 : decode cX6_waysFrom 59 = .ok (.invokestatic 266, 3) := by decide +kernel
theorem dX6_waysFrom_62 : decode cX6_waysFrom 62 = .ok (.iadd, 1) := by decide +kernel
theorem dX6_waysFrom_63 : decode cX6_waysFrom 63 = .ok (.istore 4, 2) := by decide +kernel
theorem dX6_waysFrom_65 : decode cX6_waysFrom 65 = .ok (.iinc 6 1, 3) := by decide +kernel
theorem dX6_waysFrom_68 : decode cX6_waysFrom 68 = .ok (.goto (-35), 3) := by decide +kernel
theorem dX6_waysFrom_71 : decode cX6_waysFrom 71 = .ok (.iload 4, 2) := by decide +kernel
theorem dX6_waysFrom_73 : decode cX6_waysFrom 73 = .ok (.ireturn, 1) := by decide +kernel
