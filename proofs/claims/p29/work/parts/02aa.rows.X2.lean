set_option maxRecDepth 20000 in
theorem ggX2_init_X4_init : GoodIn wsX2_init wsX4_init := goodIn_r _ [17, 18, 2, 3, 19, 20, 21, 22, 23, 24, 25] rfl (by decide +kernel)
set_option maxRecDepth 20000 in
theorem gX2_init_X4_init : GoodIn wsX2_init (wsX4_init) := ggX2_init_X4_init
theorem dX2_init_0 : decode cX2_init 0 = .ok (.aload_n 0, 1) := by decide +kernel
theorem dX2_init_1 : decode cX2_init 1 = .ok (.invokespecial 3, 3) := by decide +kernel
theorem dX2_init_4 : decode cX2_init 4 = .ok (.aload_n 0, 1) := by decide +kernel
theorem dX2_init_5 : decode cX2_init 5 = .ok (.new 9, 3) := by decide +kernel
theorem dX2_init_8 : decode cX2_init 8 = .ok (.dup, 1) := by decide +kernel
theorem dX2_init_9 : decode cX2_init 9 = .ok (.bipush 35, 2) := by decide +kernel
theorem dX2_init_11 : decode cX2_init 11 = .ok (.invokespecial 11, 3) := by decide +kernel
theorem dX2_init_14 : decode cX2_init 14 = .ok (.putfield 14, 3) := by decide +kernel
theorem dX2_init_17 : decode cX2_init 17 = .ok (.aload_n 0, 1) := by decide +kernel
theorem dX2_init_18 : decode cX2_init 18 = .ok (.new 9, 3) := by decide +kernel
theorem dX2_init_21 : decode cX2_init 21 = .ok (.dup, 1) := by decide +kernel
theorem dX2_init_22 : decode cX2_init 22 = .ok (.bipush 35, 2) := by decide +kernel
theorem dX2_init_24 : decode cX2_init 24 = .ok (.invokespecial 11, 3) := by decide +kernel
theorem dX2_init_27 : decode cX2_init 27 = .ok (.putfield 20, 3) := by decide +kernel
theorem dX2_init_30 : decode cX2_init 30 = .ok (.aload_n 0, 1) := by decide +kernel
theorem dX2_init_31 : decode cX2_init 31 = .ok (.new 9, 3) := by decide +kernel
theorem dX2_init_34 : decode cX2_init 34 = .ok (.dup, 1) := by decide +kernel
theorem dX2_init_35 : decode cX2_init 35 = .ok (.bipush 35, 2) := by decide +kernel
theorem dX2_init_37 : decode cX2_init 37 = .ok (.invokespecial 11, 3) := by decide +kernel
theorem dX2_init_40 : decode cX2_init 40 = .ok (.putfield 23, 3) := by decide +kernel
theorem dX2_init_43 : decode cX2_init 43 = .ok (.aload_n 0, 1) := by decide +kernel
theorem dX2_init_44 : decode cX2_init 44 = .ok (.new 9, 3) := by decide +kernel
theorem dX2_init_47 : decode cX2_init 47 = .ok (.dup, 1) := by decide +kernel
theorem dX2_init_48 : decode cX2_init 48 = .ok (.bipush 35, 2) := by decide +kernel
theorem dX2_init_50 : decode cX2_init 50 = .ok (.invokespecial 11, 3) := by decide +kernel
theorem dX2_init_53 : decode cX2_init 53 = .ok (.putfield 26, 3) := by decide +kernel
theorem dX2_init_56 : decode cX2_init 56 = .ok (.aload_n 0, 1) := by decide +kernel
theorem dX2_init_57 : decode cX2_init 57 = .ok (.new 9, 3) := by decide +kernel
theorem dX2_init_60 : decode cX2_init 60 = .ok (.dup, 1) := by decide +kernel
theorem dX2_init_61 : decode cX2_init 61 = .ok (.bipush 35, 2) := by decide +kernel
theorem dX2_init_63 : decode cX2_init 63 = .ok (.invokespecial 11, 3) := by decide +kernel
theorem dX2_init_66 : decode cX2_init 66 = .ok (.putfield 29, 3) := by decide +kernel
theorem dX2_init_69 : decode cX2_init 69 = .ok (.aload_n 0, 1) := by decide +kernel
theorem dX2_init_70 : decode cX2_init 70 = .ok (.iconst 1, 1) := by decide +kernel
theorem dX2_init_71 : decode cX2_init 71 = .ok (.putfield 32, 3) := by decide +kernel
theorem dX2_init_74 : decode cX2_init 74 = .ok (.aload_n 0, 1) := by decide +kernel
theorem dX2_init_75 : decode cX2_init 75 = .ok (.iconst 0, 1) := by decide +kernel
theorem dX2_init_76 : decode cX2_init 76 = .ok (.putfield 36, 3) := by decide +kernel
theorem dX2_init_79 : decode cX2_init 79 = .ok (.aload_n 0, 1) := by decide +kernel
theorem dX2_init_80 : decode cX2_init 80 = .ok (.iconst 0, 1) := by decide +kernel
theorem dX2_init_81 : decode cX2_init 81 = .ok (.putfield 39, 3) := by decide +kernel
theorem dX2_init_84 : decode cX2_init 84 = .ok (.return_, 1) := by decide +kernel
set_option maxRecDepth 20000 in
theorem ggX2_copyFrom_X4_copyFrom : GoodIn wsX2_copyFrom wsX4_copyFrom := goodIn_r _ [13, 14, 15, 16, 17, 18, 19, 20, 21, 22, 31] rfl (by decide +kernel)
set_option maxRecDepth 20000 in
theorem gX2_copyFrom_X4_copyFrom : GoodIn wsX2_copyFrom (wsV RX2 42 RX4 yX4_copyFrom wsX4_copyFrom) := goodIn_app (goodIn_of _ (by decide +kernel)) ggX2_copyFrom_X4_copyFrom
theorem dX2_copyFrom_0 : decode cX2_copyFrom 0 = .ok (.aload_n 0, 1) := by decide +kernel
theorem dX2_copyFrom_1 : decode cX2_copyFrom 1 = .ok (.getfield 14, 3) := by decide +kernel
theorem dX2_copyFrom_4 : decode cX2_copyFrom 4 = .ok (.aload_n 1, 1) := by decide +kernel
theorem dX2_copyFrom_5 : decode cX2_copyFrom 5 = .ok (.getfield 14, 3) := by decide +kernel
theorem dX2_copyFrom_8 : decode cX2_copyFrom 8 = .ok (.invokevirtual 42, 3) := by decide +kernel
theorem dX2_copyFrom_11 : decode cX2_copyFrom 11 = .ok (.aload_n 0, 1) := by decide +kernel
theorem dX2_copyFrom_12 : decode cX2_copyFrom 12 = .ok (.getfield 20, 3) := by decide +kernel
theorem dX2_copyFrom_15 : decode cX2_copyFrom 15 = .ok (.aload_n 1, 1) := by decide +kernel
theorem dX2_copyFrom_16 : decode cX2_copyFrom 16 = .ok (.getfield 20, 3) := by decide +kernel
theorem dX2_copyFrom_19 : decode cX2_copyFrom 19 = .ok (.invokevirtual 42, 3) := by decide +kernel
theorem dX2_copyFrom_22 : decode cX2_copyFrom 22 = .ok (.aload_n 0, 1) := by decide +kernel
theorem dX2_copyFrom_23 : decode cX2_copyFrom 23 = .ok (.getfield 23, 3) := by decide +kernel
theorem dX2_copyFrom_26 : decode cX2_copyFrom 26 = .ok (.aload_n 1, 1) := by decide +kernel
theorem dX2_copyFrom_27 : decode cX2_copyFrom 27 = .ok (.getfield 23, 3) := by decide +kernel
theorem dX2_copyFrom_30 : decode cX2_copyFrom 30 = .ok (.invokevirtual 42, 3) := by decide +kernel
theorem dX2_copyFrom_33 : decode cX2_copyFrom 33 = .ok (.aload_n 0, 1) := by decide +kernel
theorem dX2_copyFrom_34 : decode cX2_copyFrom 34 = .ok (.getfield 26, 3) := by decide +kernel
theorem dX2_copyFrom_37 : decode cX2_copyFrom 37 = .ok (.aload_n 1, 1) := by decide +kernel
theorem dX2_copyFrom_38 : decode cX2_copyFrom 38 = .ok (.getfield 26, 3) := by decide +kernel
theorem dX2_copyFrom_41 : decode cX2_copyFrom 41 = .ok (.invokevirtual 42, 3) := by decide +kernel
theorem dX2_copyFrom_44 : decode cX2_copyFrom 44 = .ok (.aload_n 0, 1) := by decide +kernel
theorem dX2_copyFrom_45 : decode cX2_copyFrom 45 = .ok (.getfield 29, 3) := by decide +kernel
theorem dX2_copyFrom_48 : decode cX2_copyFrom 48 = .ok (.aload_n 1, 1) := by decide +kernel
theorem dX2_copyFrom_49 : decode cX2_copyFrom 49 = .ok (.getfield 29, 3) := by decide +kernel
theorem dX2_copyFrom_52 : decode cX2_copyFrom 52 = .ok (.invokevirtual 42, 3) := by decide +kernel
theorem dX2_copyFrom_55 : decode cX2_copyFrom 55 = .ok (.aload_n 0, 1) := by decide +kernel
theorem dX2_copyFrom_56 : decode cX2_copyFrom 56 = .ok (.aload_n 1, 1) := by decide +kernel
theorem dX2_copyFrom_57 : decode cX2_copyFrom 57 = .ok (.getfield 32, 3) := by decide +kernel
theorem dX2_copyFrom_60 : decode cX2_copyFrom 60 = .ok (.putfield 32, 3) := by decide +kernel
theorem dX2_copyFrom_63 : decode cX2_copyFrom 63 = .ok (.aload_n 0, 1) := by decide +kernel
theorem dX2_copyFrom_64 : decode cX2_copyFrom 64 = .ok (.aload_n 1, 1) := by decide +kernel
theorem dX2_copyFrom_65 : decode cX2_copyFrom 65 = .ok (.getfield 36, 3) := by decide +kernel
theorem dX2_copyFrom_68 : decode cX2_copyFrom 68 = .ok (.putfield 36, 3) := by decide +kernel
theorem dX2_copyFrom_71 : decode cX2_copyFrom 71 = .ok (.aload_n 0, 1) := by decide +kernel
theorem dX2_copyFrom_72 : decode cX2_copyFrom 72 = .ok (.aload_n 1, 1) := by decide +kernel
theorem dX2_copyFrom_73 : decode cX2_copyFrom 73 = .ok (.getfield 39, 3) := by decide +kernel
theorem dX2_copyFrom_76 : decode cX2_copyFrom 76 = .ok (.putfield 39, 3) := by decide +kernel
theorem dX2_copyFrom_79 : decode cX2_copyFrom 79 = .ok (.return_, 1) := by decide +kernel
set_option maxRecDepth 20000 in
theorem ggX2_isOut_X4_at : GoodIn wsX2_isOut wsX4_at := goodIn_r _ [6, 7, 16] rfl (by decide +kernel)
set_option maxRecDepth 20000 in
theorem gX2_isOut_X4_at : GoodIn wsX2_isOut (wsV RX2 46 RX4 yX4_at wsX4_at) := goodIn_app (goodIn_of _ (by decide +kernel)) ggX2_isOut_X4_at
theorem dX2_isOut_0 : decode cX2_isOut 0 = .ok (.aload_n 0, 1) := by decide +kernel
theorem dX2_isOut_1 : decode cX2_isOut 1 = .ok (.getfield 20, 3) := by decide +kernel
theorem dX2_isOut_4 : decode cX2_isOut 4 = .ok (.iload_n 1, 1) := by decide +kernel
theorem dX2_isOut_5 : decode cX2_isOut 5 = .ok (.invokevirtual 46, 3) := by decide +kernel
theorem dX2_isOut_8 : decode cX2_isOut 8 = .ok (.ifCond .eq 7, 3) := by decide +kernel
theorem dX2_isOut_11 : decode cX2_isOut 11 = .ok (.iconst 1, 1) := by decide +kernel
theorem dX2_isOut_12 : decode cX2_isOut 12 = .ok (.goto 4, 3) := by decide +kernel
theorem dX2_isOut_15 : decode cX2_isOut 15 = .ok (.iconst 0, 1) := by decide +kernel
theorem dX2_isOut_16 : decode cX2_isOut 16 = .ok (.ireturn, 1) := by decide +kernel
set_option maxRecDepth 20000 in
theorem ggX2_pulledOut_X4_total : GoodIn wsX2_pulledOut wsX4_total := goodIn_r _ [6, 7, 16] rfl (by decide +kernel)
set_option maxRecDepth 20000 in
theorem gX2_pulledOut_X4_total : GoodIn wsX2_pulledOut (wsV RX2 50 RX4 yX4_total wsX4_total) := goodIn_app (goodIn_of _ (by decide +kernel)) ggX2_pulledOut_X4_total
theorem dX2_pulledOut_0 : decode cX2_pulledOut 0 = .ok (.aload_n 0, 1) := by decide +kernel
theorem dX2_pulledOut_1 : decode cX2_pulledOut 1 = .ok (.getfield 20, 3) := by decide +kernel
theorem dX2_pulledOut_4 : decode cX2_pulledOut 4 = .ok (.invokevirtual 50, 3) := by decide +kernel
theorem dX2_pulledOut_7 : decode cX2_pulledOut 7 = .ok (.ireturn, 1) := by decide +kernel
set_option maxRecDepth 20000 in
theorem ggX2_allPins_X2_pulledOut : GoodIn wsX2_allPins wsX2_pulledOut := goodIn_r _ [5, 6, 7, 8, 9, 10, 11, 12, 13, 14, 15, 16, 17, 18, 19, 20, 21] rfl (by decide +kernel)
set_option maxRecDepth 20000 in
theorem gX2_allPins_X2_pulledOut : GoodIn wsX2_allPins (wsV RX2 54 RX2 yX2_pulledOut wsX2_pulledOut) := goodIn_app (goodIn_of _ (by decide +kernel)) ggX2_allPins_X2_pulledOut
theorem dX2_allPins_0 : decode cX2_allPins 0 = .ok (.bipush 35, 2) := by decide +kernel
theorem dX2_allPins_2 : decode cX2_allPins 2 = .ok (.aload_n 0, 1) := by decide +kernel
theorem dX2_allPins_3 : decode cX2_allPins 3 = .ok (.invokevirtual 54, 3) := by decide +kernel
theorem dX2_allPins_6 : decode cX2_allPins 6 = .ok (.isub, 1) := by decide +kernel
theorem dX2_allPins_7 : decode cX2_allPins 7 = .ok (.ireturn, 1) := by decide +kernel
set_option maxRecDepth 20000 in
theorem ggX2_allBells_X4_total : GoodIn wsX2_allBells wsX4_total := goodIn_r _ [6, 7, 16] rfl (by decide +kernel)
set_option maxRecDepth 20000 in
theorem gX2_allBells_X4_total : GoodIn wsX2_allBells (wsV RX2 50 RX4 yX4_total wsX4_total) := goodIn_app (goodIn_of _ (by decide +kernel)) ggX2_allBells_X4_total
theorem dX2_allBells_0 : decode cX2_allBells 0 = .ok (.aload_n 0, 1) := by decide +kernel
theorem dX2_allBells_1 : decode cX2_allBells 1 = .ok (.getfield 23, 3) := by decide +kernel
theorem dX2_allBells_4 : decode cX2_allBells 4 = .ok (.invokevirtual 50, 3) := by decide +kernel
theorem dX2_allBells_7 : decode cX2_allBells 7 = .ok (.ireturn, 1) := by decide +kernel
set_option maxRecDepth 20000 in
theorem ggX2_straightOnes_X2_isOut : GoodIn wsX2_straightOnes wsX2_isOut := goodIn_r _ [6, 7, 8, 9, 10, 11, 12, 13, 14, 15, 16, 17, 18, 19, 20, 21, 22] rfl (by decide +kernel)
set_option maxRecDepth 20000 in
theorem gX2_straightOnes_X2_isOut : GoodIn wsX2_straightOnes (wsV RX2 57 RX2 yX2_isOut wsX2_isOut) := goodIn_app (goodIn_of _ (by decide +kernel)) ggX2_straightOnes_X2_isOut
set_option maxRecDepth 20000 in
theorem ggX2_straightOnes_X4_at : GoodIn wsX2_straightOnes wsX4_at := goodIn_r _ [12, 13, 22] rfl (by decide +kernel)
set_option maxRecDepth 20000 in
theorem gX2_straightOnes_X4_at : GoodIn wsX2_straightOnes (wsV RX2 46 RX4 yX4_at wsX4_at) := goodIn_app (goodIn_of _ (by decide +kernel)) ggX2_straightOnes_X4_at
theorem dX2_straightOnes_0 : decode cX2_straightOnes 0 = .ok (.iconst 0, 1) := by decide +kernel
theorem dX2_straightOnes_1 : decode cX2_straightOnes 1 = .ok (.istore_n 1, 1) := by decide +kernel
theorem dX2_straightOnes_2 : decode cX2_straightOnes 2 = .ok (.iconst 0, 1) := by decide +kernel
theorem dX2_straightOnes_3 : decode cX2_straightOnes 3 = .ok (.istore_n 2, 1) := by decide +kernel
theorem dX2_straightOnes_4 : decode cX2_straightOnes 4 = .ok (.iload_n 2, 1) := by decide +kernel
theorem dX2_straightOnes_5 : decode cX2_straightOnes 5 = .ok (.bipush 35, 2) := by decide +kernel
theorem dX2_straightOnes_7 : decode cX2_straightOnes 7 = .ok (.if_icmp .ge 31, 3) := by decide +kernel
theorem dX2_straightOnes_10 : decode cX2_straightOnes 10 = .ok (.aload_n 0, 1) := by decide +kernel
theorem dX2_straightOnes_11 : decode cX2_straightOnes 11 = .ok (.iload_n 2, 1) := by decide +kernel
theorem dX2_straightOnes_12 : decode cX2_straightOnes 12 = .ok (.invokevirtual 57, 3) := by decide +kernel
theorem dX2_straightOnes_15 : decode cX2_straightOnes 15 = .ok (.ifCond .ne 17, 3) := by decide +kernel
theorem dX2_straightOnes_18 : decode cX2_straightOnes 18 = .ok (.aload_n 0, 1) := by decide +kernel
theorem dX2_straightOnes_19 : decode cX2_straightOnes 19 = .ok (.getfield 14, 3) := by decide +kernel
theorem dX2_straightOnes_22 : decode cX2_straightOnes 22 = .ok (.iload_n 2, 1) := by decide +kernel
theorem dX2_straightOnes_23 : decode cX2_straightOnes 23 = .ok (.invokevirtual 46, 3) := by decide +kernel
theorem dX2_straightOnes_26 : decode cX2_straightOnes 26 = .ok (.ifCond .ne 6, 3) := by decide +kernel
theorem dX2_straightOnes_29 : decode cX2_straightOnes 29 = .ok (.iinc 1 1, 3) := by decide +kernel
theorem dX2_straightOnes_32 : decode cX2_straightOnes 32 = .ok (.iinc 2 1, 3) := by decide +kernel
theorem dX2_straightOnes_35 : decode cX2_straightOnes 35 = .ok (.goto (-31), 3) := by decide +kernel
theorem dX2_straightOnes_38 : decode cX2_straightOnes 38 = .ok (.iload_n 1, 1) := by decide +kernel
theorem dX2_straightOnes_39 : decode cX2_straightOnes 39 = .ok (.ireturn, 1) := by decide +kernel
set_option maxRecDepth 20000 in
theorem ggX2_bendsTogether_X4_at : GoodIn wsX2_bendsTogether wsX4_at := goodIn_r _ [10, 11, 20] rfl (by decide +kernel)
set_option maxRecDepth 20000 in
theorem gX2_bendsTogether_X4_at : GoodIn wsX2_bendsTogether (wsV RX2 46 RX4 yX4_at wsX4_at) := goodIn_app (goodIn_of _ (by decide +kernel)) ggX2_bendsTogether_X4_at
theorem dX2_bendsTogether_0 : decode cX2_bendsTogether 0 = .ok (.iconst 0, 1) := by decide +kernel
theorem dX2_bendsTogether_1 : decode cX2_bendsTogether 1 = .ok (.istore_n 1, 1) := by decide +kernel
theorem dX2_bendsTogether_2 : decode cX2_bendsTogether 2 = .ok (.iconst 0, 1) := by decide +kernel
theorem dX2_bendsTogether_3 : decode cX2_bendsTogether 3 = .ok (.istore_n 2, 1) := by decide +kernel
theorem dX2_bendsTogether_4 : decode cX2_bendsTogether 4 = .ok (.iload_n 2, 1) := by decide +kernel
theorem dX2_bendsTogether_5 : decode cX2_bendsTogether 5 = .ok (.bipush 35, 2) := by decide +kernel
theorem dX2_bendsTogether_7 : decode cX2_bendsTogether 7 = .ok (.if_icmp .ge 23, 3) := by decide +kernel
theorem dX2_bendsTogether_10 : decode cX2_bendsTogether 10 = .ok (.iload_n 1, 1) := by decide +kernel
theorem dX2_bendsTogether_11 : decode cX2_bendsTogether 11 = .ok (.aload_n 0, 1) := by decide +kernel
theorem dX2_bendsTogether_12 : decode cX2_bendsTogether 12 = .ok (.getfield 14, 3) := by decide +kernel
theorem dX2_bendsTogether_15 : decode cX2_bendsTogether 15 = .ok (.iload_n 2, 1) := by decide +kernel
theorem dX2_bendsTogether_16 : decode cX2_bendsTogether 16 = .ok (.invokevirtual 46, 3) := by decide +kernel
theorem dX2_bendsTogether_19 : decode cX2_bendsTogether 19 = .ok (.invokestatic 61, 3) := by decide +kernel
theorem dX2_bendsTogether_22 : decode cX2_bendsTogether 22 = .ok (.iadd, 1) := by decide +kernel
theorem dX2_bendsTogether_23 : decode cX2_bendsTogether 23 = .ok (.istore_n 1, 1) := by decide +kernel
theorem dX2_bendsTogether_24 : decode cX2_bendsTogether 24 = .ok (.iinc 2 1, 3) := by decide +kernel
theorem dX2_bendsTogether_27 : decode cX2_bendsTogether 27 = .ok (.goto (-23), 3) := by decide +kernel
theorem dX2_bendsTogether_30 : decode cX2_bendsTogether 30 = .ok (.iload_n 1, 1) := by decide +kernel
theorem dX2_bendsTogether_31 : decode cX2_bendsTogether 31 = .ok (.ireturn, 1) := by decide +kernel
set_option maxRecDepth 20000 in
theorem ggX2_pullOrSet_X4_at : GoodIn wsX2_pullOrSet wsX4_at := goodIn_r _ [8, 9, 22] rfl (by decide +kernel)
set_option maxRecDepth 20000 in
theorem gX2_pullOrSet_X4_at : GoodIn wsX2_pullOrSet (wsV RX2 46 RX4 yX4_at wsX4_at) := goodIn_app (goodIn_of _ (by decide +kernel)) ggX2_pullOrSet_X4_at
set_option maxRecDepth 20000 in
theorem ggX2_pullOrSet_X4_put : GoodIn wsX2_pullOrSet wsX4_put := goodIn_r _ [13, 9, 22] rfl (by decide +kernel)
set_option maxRecDepth 20000 in
theorem gX2_pullOrSet_X4_put : GoodIn wsX2_pullOrSet (wsV RX2 66 RX4 yX4_put wsX4_put) := goodIn_app (goodIn_of _ (by decide +kernel)) ggX2_pullOrSet_X4_put
theorem dX2_pullOrSet_0 : decode cX2_pullOrSet 0 = .ok (.aload_n 0, 1) := by decide +kernel
theorem dX2_pullOrSet_1 : decode cX2_pullOrSet 1 = .ok (.getfield 20, 3) := by decide +kernel
theorem dX2_pullOrSet_4 : decode cX2_pullOrSet 4 = .ok (.iload_n 1, 1) := by decide +kernel
theorem dX2_pullOrSet_5 : decode cX2_pullOrSet 5 = .ok (.iconst 1, 1) := by decide +kernel
theorem dX2_pullOrSet_6 : decode cX2_pullOrSet 6 = .ok (.aload_n 0, 1) := by decide +kernel
theorem dX2_pullOrSet_7 : decode cX2_pullOrSet 7 = .ok (.getfield 20, 3) := by decide +kernel
theorem dX2_pullOrSet_10 : decode cX2_pullOrSet 10 = .ok (.iload_n 1, 1) := by decide +kernel
theorem dX2_pullOrSet_11 : decode cX2_pullOrSet 11 = .ok (.invokevirtual 46, 3) := by decide +kernel
theorem dX2_pullOrSet_14 : decode cX2_pullOrSet 14 = .ok (.isub, 1) := by decide +kernel
theorem dX2_pullOrSet_15 : decode cX2_pullOrSet 15 = .ok (.invokevirtual 66, 3) := by decide +kernel
theorem dX2_pullOrSet_18 : decode cX2_pullOrSet 18 = .ok (.aload_n 0, 1) := by decide +kernel
theorem dX2_pullOrSet_19 : decode cX2_pullOrSet 19 = .ok (.getfield 14, 3) := by decide +kernel
theorem dX2_pullOrSet_22 : decode cX2_pullOrSet 22 = .ok (.iload_n 1, 1) := by decide +kernel
theorem dX2_pullOrSet_23 : decode cX2_pullOrSet 23 = .ok (.iconst 0, 1) := by decide +kernel
theorem dX2_pullOrSet_24 : decode cX2_pullOrSet 24 = .ok (.invokevirtual 66, 3) := by decide +kernel
theorem dX2_pullOrSet_27 : decode cX2_pullOrSet 27 = .ok (.aload_n 0, 1) := by decide +kernel
theorem dX2_pullOrSet_28 : decode cX2_pullOrSet 28 = .ok (.getfield 26, 3) := by decide +kernel
theorem dX2_pullOrSet_31 : decode cX2_pullOrSet 31 = .ok (.iload_n 1, 1) := by decide +kernel
theorem dX2_pullOrSet_32 : decode cX2_pullOrSet 32 = .ok (.iconst 0, 1) := by decide +kernel
theorem dX2_pullOrSet_33 : decode cX2_pullOrSet 33 = .ok (.invokevirtual 66, 3) := by decide +kernel
theorem dX2_pullOrSet_36 : decode cX2_pullOrSet 36 = .ok (.return_, 1) := by decide +kernel
set_option maxRecDepth 20000 in
theorem ggX2_hangOrTakeBell_X4_at : GoodIn wsX2_hangOrTakeBell wsX4_at := goodIn_r _ [6, 7, 20] rfl (by decide +kernel)
set_option maxRecDepth 20000 in
theorem gX2_hangOrTakeBell_X4_at : GoodIn wsX2_hangOrTakeBell (wsV RX2 46 RX4 yX4_at wsX4_at) := goodIn_app (goodIn_of _ (by decide +kernel)) ggX2_hangOrTakeBell_X4_at
set_option maxRecDepth 20000 in
theorem ggX2_hangOrTakeBell_X4_put : GoodIn wsX2_hangOrTakeBell wsX4_put := goodIn_r _ [11, 7, 20] rfl (by decide +kernel)
set_option maxRecDepth 20000 in
theorem gX2_hangOrTakeBell_X4_put : GoodIn wsX2_hangOrTakeBell (wsV RX2 66 RX4 yX4_put wsX4_put) := goodIn_app (goodIn_of _ (by decide +kernel)) ggX2_hangOrTakeBell_X4_put
theorem dX2_hangOrTakeBell_0 : decode cX2_hangOrTakeBell 0 = .ok (.aload_n 0, 1) := by decide +kernel
theorem dX2_hangOrTakeBell_1 : decode cX2_hangOrTakeBell 1 = .ok (.getfield 23, 3) := by decide +kernel
theorem dX2_hangOrTakeBell_4 : decode cX2_hangOrTakeBell 4 = .ok (.iload_n 1, 1) := by decide +kernel
theorem dX2_hangOrTakeBell_5 : decode cX2_hangOrTakeBell 5 = .ok (.iconst 1, 1) := by decide +kernel
theorem dX2_hangOrTakeBell_6 : decode cX2_hangOrTakeBell 6 = .ok (.aload_n 0, 1) := by decide +kernel
theorem dX2_hangOrTakeBell_7 : decode cX2_hangOrTakeBell 7 = .ok (.getfield 23, 3) := by decide +kernel
theorem dX2_hangOrTakeBell_10 : decode cX2_hangOrTakeBell 10 = .ok (.iload_n 1, 1) := by decide +kernel
theorem dX2_hangOrTakeBell_11 : decode cX2_hangOrTakeBell 11 = .ok (.invokevirtual 46, 3) := by decide +kernel
theorem dX2_hangOrTakeBell_14 : decode cX2_hangOrTakeBell 14 = .ok (.isub, 1) := by decide +kernel
theorem dX2_hangOrTakeBell_15 : decode cX2_hangOrTakeBell 15 = .ok (.invokevirtual 66, 3) := by decide +kernel
theorem dX2_hangOrTakeBell_18 : decode cX2_hangOrTakeBell 18 = .ok (.return_, 1) := by decide +kernel
set_option maxRecDepth 20000 in
theorem ggX2_canBend_X4_at : GoodIn wsX2_canBend wsX4_at := goodIn_r _ [6, 7, 19] rfl (by decide +kernel)
set_option maxRecDepth 20000 in
theorem gX2_canBend_X4_at : GoodIn wsX2_canBend (wsV RX2 46 RX4 yX4_at wsX4_at) := goodIn_app (goodIn_of _ (by decide +kernel)) ggX2_canBend_X4_at
set_option maxRecDepth 20000 in
theorem ggX2_canBend_X6_isWithin : GoodIn wsX2_canBend wsX6_isWithin := goodIn_r _ [10] rfl (by decide +kernel)
set_option maxRecDepth 20000 in
theorem gX2_canBend_X6_isWithin_n70 : GoodIn wsX2_canBend (wsX6_isWithin) := ggX2_canBend_X6_isWithin
theorem dX2_canBend_0 : decode cX2_canBend 0 = .ok (.aload_n 0, 1) := by decide +kernel
theorem dX2_canBend_1 : decode cX2_canBend 1 = .ok (.getfield 14, 3) := by decide +kernel
theorem dX2_canBend_4 : decode cX2_canBend 4 = .ok (.iload_n 1, 1) := by decide +kernel
theorem dX2_canBend_5 : decode cX2_canBend 5 = .ok (.invokevirtual 46, 3) := by decide +kernel
theorem dX2_canBend_8 : decode cX2_canBend 8 = .ok (.iload_n 2, 1) := by decide +kernel
theorem dX2_canBend_9 : decode cX2_canBend 9 = .ok (.iadd, 1) := by decide +kernel
theorem dX2_canBend_10 : decode cX2_canBend 10 = .ok (.bipush (-3), 2) := by decide +kernel
theorem dX2_canBend_12 : decode cX2_canBend 12 = .ok (.iconst 3, 1) := by decide +kernel
theorem dX2_canBend_13 : decode cX2_canBend 13 = .ok (.invokestatic 70, 3) := by decide +kernel
theorem dX2_canBend_16 : decode cX2_canBend 16 = .ok (.ireturn, 1) := by decide +kernel
set_option maxRecDepth 20000 in
theorem ggX2_bendBy_X4_raise : GoodIn wsX2_bendBy wsX4_raise := goodIn_r _ [6, 7, 16] rfl (by decide +kernel)
set_option maxRecDepth 20000 in
theorem gX2_bendBy_X4_raise : GoodIn wsX2_bendBy (wsV RX2 74 RX4 yX4_raise wsX4_raise) := goodIn_app (goodIn_of _ (by decide +kernel)) ggX2_bendBy_X4_raise
theorem dX2_bendBy_0 : decode cX2_bendBy 0 = .ok (.aload_n 0, 1) := by decide +kernel
theorem dX2_bendBy_1 : decode cX2_bendBy 1 = .ok (.getfield 14, 3) := by decide +kernel
theorem dX2_bendBy_4 : decode cX2_bendBy 4 = .ok (.iload_n 1, 1) := by decide +kernel
theorem dX2_bendBy_5 : decode cX2_bendBy 5 = .ok (.iload_n 2, 1) := by decide +kernel
theorem dX2_bendBy_6 : decode cX2_bendBy 6 = .ok (.invokevirtual 74, 3) := by decide +kernel
theorem dX2_bendBy_9 : decode cX2_bendBy 9 = .ok (.return_, 1) := by decide +kernel
set_option maxRecDepth 20000 in
theorem ggX2_leanOf_X4_at : GoodIn wsX2_leanOf wsX4_at := goodIn_r _ [7, 8, 17] rfl (by decide +kernel)
set_option maxRecDepth 20000 in
theorem gX2_leanOf_X4_at : GoodIn wsX2_leanOf (wsV RX2 46 RX4 yX4_at wsX4_at) := goodIn_app (goodIn_of _ (by decide +kernel)) ggX2_leanOf_X4_at
theorem dX2_leanOf_0 : decode cX2_leanOf 0 = .ok (.aload_n 0, 1) := by decide +kernel
theorem dX2_leanOf_1 : decode cX2_leanOf 1 = .ok (.getfield 14, 3) := by decide +kernel
theorem dX2_leanOf_4 : decode cX2_leanOf 4 = .ok (.iload_n 1, 1) := by decide +kernel
theorem dX2_leanOf_5 : decode cX2_leanOf 5 = .ok (.invokevirtual 46, 3) := by decide +kernel
theorem dX2_leanOf_8 : decode cX2_leanOf 8 = .ok (.istore_n 2, 1) := by decide +kernel
theorem dX2_leanOf_9 : decode cX2_leanOf 9 = .ok (.iload_n 2, 1) := by decide +kernel
theorem dX2_leanOf_10 : decode cX2_leanOf 10 = .ok (.ifCond .ge 7, 3) := by decide +kernel
theorem dX2_leanOf_13 : decode cX2_leanOf 13 = .ok (.iconst (-1), 1) := by decide +kernel
theorem dX2_leanOf_14 : decode cX2_leanOf 14 = .ok (.goto 17, 3) := by decide +kernel
theorem dX2_leanOf_17 : decode cX2_leanOf 17 = .ok (.iload_n 2, 1) := by decide +kernel
theorem dX2_leanOf_18 : decode cX2_leanOf 18 = .ok (.ifCond .le 7, 3) := by decide +kernel
theorem dX2_leanOf_21 : decode cX2_leanOf 21 = .ok (.iconst 1, 1) := by decide +kernel
theorem dX2_leanOf_22 : decode cX2_leanOf 22 = .ok (.goto 9, 3) := by decide +kernel
theorem dX2_leanOf_25 : decode cX2_leanOf 25 = .ok (.aload_n 0, 1) := by decide +kernel
theorem dX2_leanOf_26 : decode cX2_leanOf 26 = .ok (.getfield 32, 3) := by decide +kernel
theorem dX2_leanOf_29 : decode cX2_leanOf 29 = .ok (.iconst 1, 1) := by decide +kernel
theorem dX2_leanOf_30 : decode cX2_leanOf 30 = .ok (.isub, 1) := by decide +kernel
theorem dX2_leanOf_31 : decode cX2_leanOf 31 = .ok (.ireturn, 1) := by decide +kernel
set_option maxRecDepth 20000 in
theorem ggX2_nextPlaces_X2_isOut : GoodIn wsX2_nextPlaces wsX2_isOut := goodIn_r _ [5, 6, 7, 8, 9, 10, 11, 12, 31, 32, 33, 34, 35, 36, 37, 38, 39] rfl (by decide +kernel)
set_option maxRecDepth 20000 in
theorem gX2_nextPlaces_X2_isOut : GoodIn wsX2_nextPlaces (wsV RX2 57 RX2 yX2_isOut wsX2_isOut) := goodIn_app (goodIn_of _ (by decide +kernel)) ggX2_nextPlaces_X2_isOut
set_option maxRecDepth 20000 in
theorem ggX2_nextPlaces_X6_bit : GoodIn wsX2_nextPlaces wsX6_bit := goodIn_r _ [15] rfl (by decide +kernel)
set_option maxRecDepth 20000 in
theorem gX2_nextPlaces_X6_bit_n77 : GoodIn wsX2_nextPlaces (wsX6_bit) := ggX2_nextPlaces_X6_bit
set_option maxRecDepth 20000 in
theorem ggX2_nextPlaces_X2_leanOf : GoodIn wsX2_nextPlaces wsX2_leanOf := goodIn_r _ [19, 20, 21, 7, 8, 9, 10, 11, 12, 31, 32, 33, 34, 35, 36, 37, 38, 39] rfl (by decide +kernel)
set_option maxRecDepth 20000 in
theorem gX2_nextPlaces_X2_leanOf : GoodIn wsX2_nextPlaces (wsV RX2 80 RX2 yX2_leanOf wsX2_leanOf) := goodIn_app (goodIn_of _ (by decide +kernel)) ggX2_nextPlaces_X2_leanOf
set_option maxRecDepth 20000 in
theorem ggX2_nextPlaces_X6_placeBeside : GoodIn wsX2_nextPlaces wsX6_placeBeside := goodIn_r _ [23, 24, 25, 26, 27, 28, 29, 30] rfl (by decide +kernel)
set_option maxRecDepth 20000 in
theorem gX2_nextPlaces_X6_placeBeside_n83 : GoodIn wsX2_nextPlaces (wsX6_placeBeside) := ggX2_nextPlaces_X6_placeBeside
theorem dX2_nextPlaces_0 : decode cX2_nextPlaces 0 = .ok (.iload_n 1, 1) := by decide +kernel
theorem dX2_nextPlaces_1 : decode cX2_nextPlaces 1 = .ok (.bipush 7, 2) := by decide +kernel
theorem dX2_nextPlaces_3 : decode cX2_nextPlaces 3 = .ok (.irem, 1) := by decide +kernel
theorem dX2_nextPlaces_4 : decode cX2_nextPlaces 4 = .ok (.istore_n 2, 1) := by decide +kernel
theorem dX2_nextPlaces_5 : decode cX2_nextPlaces 5 = .ok (.aload_n 0, 1) := by decide +kernel
theorem dX2_nextPlaces_6 : decode cX2_nextPlaces 6 = .ok (.iload_n 1, 1) := by decide +kernel
theorem dX2_nextPlaces_7 : decode cX2_nextPlaces 7 = .ok (.invokevirtual 57, 3) := by decide +kernel
theorem dX2_nextPlaces_10 : decode cX2_nextPlaces 10 = .ok (.ifCond .eq 8, 3) := by decide +kernel
theorem dX2_nextPlaces_13 : decode cX2_nextPlaces 13 = .ok (.iload_n 2, 1) := by decide +kernel
theorem dX2_nextPlaces_14 : decode cX2_nextPlaces 14 = .ok (.invokestatic 77, 3) := by decide +kernel
theorem dX2_nextPlaces_17 : decode cX2_nextPlaces 17 = .ok (.ireturn, 1) := by decide +kernel
theorem dX2_nextPlaces_18 : decode cX2_nextPlaces 18 = .ok (.aload_n 0, 1) := by decide +kernel
theorem dX2_nextPlaces_19 : decode cX2_nextPlaces 19 = .ok (.iload_n 1, 1) := by decide +kernel
theorem dX2_nextPlaces_20 : decode cX2_nextPlaces 20 = .ok (.invokevirtual 80, 3) := by decide +kernel
theorem dX2_nextPlaces_23 : decode cX2_nextPlaces 23 = .ok (.istore_n 3, 1) := by decide +kernel
theorem dX2_nextPlaces_24 : decode cX2_nextPlaces 24 = .ok (.iload_n 3, 1) := by decide +kernel
theorem dX2_nextPlaces_25 : decode cX2_nextPlaces 25 = .ok (.ifCond .eq 12, 3) := by decide +kernel
theorem dX2_nextPlaces_28 : decode cX2_nextPlaces 28 = .ok (.iload_n 2, 1) := by decide +kernel
theorem dX2_nextPlaces_29 : decode cX2_nextPlaces 29 = .ok (.iload_n 3, 1) := by decide +kernel
theorem dX2_nextPlaces_30 : decode cX2_nextPlaces 30 = .ok (.invokestatic 83, 3) := by decide +kernel
theorem dX2_nextPlaces_33 : decode cX2_nextPlaces 33 = .ok (.invokestatic 77, 3) := by decide +kernel
theorem dX2_nextPlaces_36 : decode cX2_nextPlaces 36 = .ok (.ireturn, 1) := by decide +kernel
theorem dX2_nextPlaces_37 : decode cX2_nextPlaces 37 = .ok (.iload_n 2, 1) := by decide +kernel
theorem dX2_nextPlaces_38 : decode cX2_nextPlaces 38 = .ok (.iconst (-1), 1) := by decide +kernel
theorem dX2_nextPlaces_39 : decode cX2_nextPlaces 39 = .ok (.invokestatic 83, 3) := by decide +kernel
theorem dX2_nextPlaces_42 : decode cX2_nextPlaces 42 = .ok (.invokestatic 77, 3) := by decide +kernel
theorem dX2_nextPlaces_45 : decode cX2_nextPlaces 45 = .ok (.iload_n 2, 1) := by decide +kernel
theorem dX2_nextPlaces_46 : decode cX2_nextPlaces 46 = .ok (.iconst 1, 1) := by decide +kernel
theorem dX2_nextPlaces_47 : decode cX2_nextPlaces 47 = .ok (.invokestatic 83, 3) := by decide +kernel
theorem dX2_nextPlaces_50 : decode cX2_nextPlaces 50 = .ok (.invokestatic 77, 3) := by decide +kernel
theorem dX2_nextPlaces_53 : decode cX2_nextPlaces 53 = .ok (.ior, 1) := by decide +kernel
theorem dX2_nextPlaces_54 : decode cX2_nextPlaces 54 = .ok (.ireturn, 1) := by decide +kernel
set_option maxRecDepth 20000 in
theorem ggX2_nextDirection_X2_isOut : GoodIn wsX2_nextDirection wsX2_isOut := goodIn_r _ [6, 7, 8, 9, 10, 11, 12, 13, 20, 21, 22, 23, 24, 25, 26, 27, 28] rfl (by decide +kernel)
set_option maxRecDepth 20000 in
theorem gX2_nextDirection_X2_isOut : GoodIn wsX2_nextDirection (wsV RX2 57 RX2 yX2_isOut wsX2_isOut) := goodIn_app (goodIn_of _ (by decide +kernel)) ggX2_nextDirection_X2_isOut
set_option maxRecDepth 20000 in
theorem ggX2_nextDirection_X2_leanOf : GoodIn wsX2_nextDirection wsX2_leanOf := goodIn_r _ [17, 18, 19, 8, 9, 10, 11, 12, 13, 20, 21, 22, 23, 24, 25, 26, 27, 28] rfl (by decide +kernel)
set_option maxRecDepth 20000 in
theorem gX2_nextDirection_X2_leanOf : GoodIn wsX2_nextDirection (wsV RX2 80 RX2 yX2_leanOf wsX2_leanOf) := goodIn_app (goodIn_of _ (by decide +kernel)) ggX2_nextDirection_X2_leanOf
set_option maxRecDepth 20000 in
theorem ggX2_nextDirection_X4_at : GoodIn wsX2_nextDirection wsX4_at := goodIn_r _ [12, 13, 28] rfl (by decide +kernel)
set_option maxRecDepth 20000 in
theorem gX2_nextDirection_X4_at : GoodIn wsX2_nextDirection (wsV RX2 46 RX4 yX4_at wsX4_at) := goodIn_app (goodIn_of _ (by decide +kernel)) ggX2_nextDirection_X4_at
theorem dX2_nextDirection_0 : decode cX2_nextDirection 0 = .ok (.aload_n 0, 1) := by decide +kernel
theorem dX2_nextDirection_1 : decode cX2_nextDirection 1 = .ok (.iload_n 1, 1) := by decide +kernel
theorem dX2_nextDirection_2 : decode cX2_nextDirection 2 = .ok (.invokevirtual 57, 3) := by decide +kernel
theorem dX2_nextDirection_5 : decode cX2_nextDirection 5 = .ok (.ifCond .eq 5, 3) := by decide +kernel
theorem dX2_nextDirection_8 : decode cX2_nextDirection 8 = .ok (.iconst 0, 1) := by decide +kernel
theorem dX2_nextDirection_9 : decode cX2_nextDirection 9 = .ok (.ireturn, 1) := by decide +kernel
theorem dX2_nextDirection_10 : decode cX2_nextDirection 10 = .ok (.aload_n 0, 1) := by decide +kernel
theorem dX2_nextDirection_11 : decode cX2_nextDirection 11 = .ok (.iload_n 1, 1) := by decide +kernel
theorem dX2_nextDirection_12 : decode cX2_nextDirection 12 = .ok (.invokevirtual 80, 3) := by decide +kernel
theorem dX2_nextDirection_15 : decode cX2_nextDirection 15 = .ok (.istore_n 2, 1) := by decide +kernel
theorem dX2_nextDirection_16 : decode cX2_nextDirection 16 = .ok (.iload_n 2, 1) := by decide +kernel
theorem dX2_nextDirection_17 : decode cX2_nextDirection 17 = .ok (.ifCond .eq 5, 3) := by decide +kernel
theorem dX2_nextDirection_20 : decode cX2_nextDirection 20 = .ok (.iload_n 2, 1) := by decide +kernel
theorem dX2_nextDirection_21 : decode cX2_nextDirection 21 = .ok (.ireturn, 1) := by decide +kernel
theorem dX2_nextDirection_22 : decode cX2_nextDirection 22 = .ok (.aload_n 0, 1) := by decide +kernel
theorem dX2_nextDirection_23 : decode cX2_nextDirection 23 = .ok (.getfield 26, 3) := by decide +kernel
theorem dX2_nextDirection_26 : decode cX2_nextDirection 26 = .ok (.iload_n 1, 1) := by decide +kernel
theorem dX2_nextDirection_27 : decode cX2_nextDirection 27 = .ok (.invokevirtual 46, 3) := by decide +kernel
theorem dX2_nextDirection_30 : decode cX2_nextDirection 30 = .ok (.ifCond .ne 7, 3) := by decide +kernel
theorem dX2_nextDirection_33 : decode cX2_nextDirection 33 = .ok (.iconst (-1), 1) := by decide +kernel
theorem dX2_nextDirection_34 : decode cX2_nextDirection 34 = .ok (.goto 4, 3) := by decide +kernel
theorem dX2_nextDirection_37 : decode cX2_nextDirection 37 = .ok (.iconst 1, 1) := by decide +kernel
theorem dX2_nextDirection_38 : decode cX2_nextDirection 38 = .ok (.ireturn, 1) := by decide +kernel
set_option maxRecDepth 20000 in
theorem ggX2_endFrom_X6_pinAt : GoodIn wsX2_endFrom wsX6_pinAt := goodIn_r _ [3] rfl (by decide +kernel)
set_option maxRecDepth 20000 in
theorem gX2_endFrom_X6_pinAt_n87 : GoodIn wsX2_endFrom (wsX6_pinAt) := ggX2_endFrom_X6_pinAt
set_option maxRecDepth 20000 in
theorem ggX2_endFrom_X2_nextDirection : GoodIn wsX2_endFrom wsX2_nextDirection := goodIn_r _ [8, 9, 10, 11, 12, 7, 13, 14, 15, 16, 17, 18, 19, 20, 21, 22, 23, 24, 25, 26, 36, 37, 38, 39, 40, 41, 42, 43, 44] rfl (by decide +kernel)
set_option maxRecDepth 20000 in
theorem gX2_endFrom_X2_nextDirection : GoodIn wsX2_endFrom (wsV RX2 90 RX2 yX2_nextDirection wsX2_nextDirection) := goodIn_app (goodIn_of _ (by decide +kernel)) ggX2_endFrom_X2_nextDirection
set_option maxRecDepth 20000 in
theorem ggX2_endFrom_X6_placeBeside : GoodIn wsX2_endFrom wsX6_placeBeside := goodIn_r _ [28, 29, 30, 31, 32, 33, 34, 35] rfl (by decide +kernel)
set_option maxRecDepth 20000 in
theorem gX2_endFrom_X6_placeBeside_n83 : GoodIn wsX2_endFrom (wsX6_placeBeside) := ggX2_endFrom_X6_placeBeside
theorem dX2_endFrom_0 : decode cX2_endFrom 0 = .ok (.iload_n 1, 1) := by decide +kernel
theorem dX2_endFrom_1 : decode cX2_endFrom 1 = .ok (.istore_n 2, 1) := by decide +kernel
theorem dX2_endFrom_2 : decode cX2_endFrom 2 = .ok (.iconst 0, 1) := by decide +kernel
theorem dX2_endFrom_3 : decode cX2_endFrom 3 = .ok (.istore_n 3, 1) := by decide +kernel
theorem dX2_endFrom_4 : decode cX2_endFrom 4 = .ok (.iload_n 3, 1) := by decide +kernel
theorem dX2_endFrom_5 : decode cX2_endFrom 5 = .ok (.iconst 5, 1) := by decide +kernel
theorem dX2_endFrom_6 : decode cX2_endFrom 6 = .ok (.if_icmp .ge 23, 3) := by decide +kernel
theorem dX2_endFrom_9 : decode cX2_endFrom 9 = .ok (.iload_n 2, 1) := by decide +kernel
theorem dX2_endFrom_10 : decode cX2_endFrom 10 = .ok (.aload_n 0, 1) := by decide +kernel
theorem dX2_endFrom_11 : decode cX2_endFrom 11 = .ok (.iload_n 3, 1) := by decide +kernel
theorem dX2_endFrom_12 : decode cX2_endFrom 12 = .ok (.iload_n 2, 1) := by decide +kernel
theorem dX2_endFrom_13 : decode cX2_endFrom 13 = .ok (.invokestatic 87, 3) := by decide +kernel
theorem dX2_endFrom_16 : decode cX2_endFrom 16 = .ok (.invokevirtual 90, 3) := by decide +kernel
theorem dX2_endFrom_19 : decode cX2_endFrom 19 = .ok (.invokestatic 83, 3) := by decide +kernel
theorem dX2_endFrom_22 : decode cX2_endFrom 22 = .ok (.istore_n 2, 1) := by decide +kernel
theorem dX2_endFrom_23 : decode cX2_endFrom 23 = .ok (.iinc 3 1, 3) := by decide +kernel
theorem dX2_endFrom_26 : decode cX2_endFrom 26 = .ok (.goto (-22), 3) := by decide +kernel
theorem dX2_endFrom_29 : decode cX2_endFrom 29 = .ok (.iload_n 2, 1) := by decide +kernel
theorem dX2_endFrom_30 : decode cX2_endFrom 30 = .ok (.ireturn, 1) := by decide +kernel
set_option maxRecDepth 20000 in
theorem ggX2_rollBall_X6_pinAt : GoodIn wsX2_rollBall wsX6_pinAt := goodIn_r _ [3] rfl (by decide +kernel)
set_option maxRecDepth 20000 in
theorem gX2_rollBall_X6_pinAt_n87 : GoodIn wsX2_rollBall (wsX6_pinAt) := ggX2_rollBall_X6_pinAt
set_option maxRecDepth 20000 in
theorem ggX2_rollBall_X2_nextDirection : GoodIn wsX2_rollBall wsX2_nextDirection := goodIn_r _ [8, 9, 10, 11, 12, 7, 13, 14, 15, 16, 17, 18, 19, 20, 21, 22, 23, 24, 25, 26, 62, 63, 64, 65, 66, 67, 68, 69, 70] rfl (by decide +kernel)
set_option maxRecDepth 20000 in
theorem gX2_rollBall_X2_nextDirection : GoodIn wsX2_rollBall (wsV RX2 90 RX2 yX2_nextDirection wsX2_nextDirection) := goodIn_app (goodIn_of _ (by decide +kernel)) ggX2_rollBall_X2_nextDirection
set_option maxRecDepth 20000 in
theorem ggX2_rollBall_X2_meetBall : GoodIn wsX2_rollBall wsX2_meetBall := goodIn_r _ [30, 31, 32, 33, 9, 34, 35, 36, 37, 18, 38, 20, 10, 11, 12, 7, 13, 14, 15, 16, 17, 19, 21, 22, 23, 24, 25, 26, 39, 40, 41, 42, 43, 44, 45, 46, 47, 2, 48, 49, 50, 51, 52, 62, 63, 64, 65, 66, 67, 68, 69, 70] rfl (by decide +kernel)
set_option maxRecDepth 20000 in
theorem gX2_rollBall_X2_meetBall : GoodIn wsX2_rollBall (wsV RX2 93 RX2 yX2_meetBall wsX2_meetBall) := goodIn_app (goodIn_of _ (by decide +kernel)) ggX2_rollBall_X2_meetBall
set_option maxRecDepth 20000 in
theorem ggX2_rollBall_X6_placeBeside : GoodIn wsX2_rollBall wsX6_placeBeside := goodIn_r _ [54, 55, 56, 57, 58, 59, 60, 61] rfl (by decide +kernel)
set_option maxRecDepth 20000 in
theorem gX2_rollBall_X6_placeBeside_n83 : GoodIn wsX2_rollBall (wsX6_placeBeside) := ggX2_rollBall_X6_placeBeside
theorem dX2_rollBall_0 : decode cX2_rollBall 0 = .ok (.iload_n 1, 1) := by decide +kernel
theorem dX2_rollBall_1 : decode cX2_rollBall 1 = .ok (.istore_n 3, 1) := by decide +kernel
theorem dX2_rollBall_2 : decode cX2_rollBall 2 = .ok (.iconst 0, 1) := by decide +kernel
theorem dX2_rollBall_3 : decode cX2_rollBall 3 = .ok (.istore 4, 2) := by decide +kernel
theorem dX2_rollBall_5 : decode cX2_rollBall 5 = .ok (.iload 4, 2) := by decide +kernel
theorem dX2_rollBall_7 : decode cX2_rollBall 7 = .ok (.iconst 5, 1) := by decide +kernel
theorem dX2_rollBall_8 : decode cX2_rollBall 8 = .ok (.if_icmp .ge 41, 3) := by decide +kernel
theorem dX2_rollBall_11 : decode cX2_rollBall 11 = .ok (.iload 4, 2) := by decide +kernel
theorem dX2_rollBall_13 : decode cX2_rollBall 13 = .ok (.iload_n 3, 1) := by decide +kernel
theorem dX2_rollBall_14 : decode cX2_rollBall 14 = .ok (.invokestatic 87, 3) := by decide +kernel
theorem dX2_rollBall_17 : decode cX2_rollBall 17 = .ok (.istore 5, 2) := by decide +kernel
theorem dX2_rollBall_19 : decode cX2_rollBall 19 = .ok (.aload_n 0, 1) := by decide +kernel
theorem dX2_rollBall_20 : decode cX2_rollBall 20 = .ok (.iload 5, 2) := by decide +kernel
theorem dX2_rollBall_22 : decode cX2_rollBall 22 = .ok (.invokevirtual 90, 3) := by decide +kernel
theorem dX2_rollBall_25 : decode cX2_rollBall 25 = .ok (.istore 6, 2) := by decide +kernel
theorem dX2_rollBall_27 : decode cX2_rollBall 27 = .ok (.aload_n 0, 1) := by decide +kernel
theorem dX2_rollBall_28 : decode cX2_rollBall 28 = .ok (.iload 5, 2) := by decide +kernel
theorem dX2_rollBall_30 : decode cX2_rollBall 30 = .ok (.iload 6, 2) := by decide +kernel
theorem dX2_rollBall_32 : decode cX2_rollBall 32 = .ok (.iload_n 2, 1) := by decide +kernel
theorem dX2_rollBall_33 : decode cX2_rollBall 33 = .ok (.invokevirtual 93, 3) := by decide +kernel
theorem dX2_rollBall_36 : decode cX2_rollBall 36 = .ok (.iload_n 3, 1) := by decide +kernel
theorem dX2_rollBall_37 : decode cX2_rollBall 37 = .ok (.iload 6, 2) := by decide +kernel
theorem dX2_rollBall_39 : decode cX2_rollBall 39 = .ok (.invokestatic 83, 3) := by decide +kernel
theorem dX2_rollBall_42 : decode cX2_rollBall 42 = .ok (.istore_n 3, 1) := by decide +kernel
theorem dX2_rollBall_43 : decode cX2_rollBall 43 = .ok (.iinc 4 1, 3) := by decide +kernel
theorem dX2_rollBall_46 : decode cX2_rollBall 46 = .ok (.goto (-41), 3) := by decide +kernel
theorem dX2_rollBall_49 : decode cX2_rollBall 49 = .ok (.iload_n 3, 1) := by decide +kernel
theorem dX2_rollBall_50 : decode cX2_rollBall 50 = .ok (.ireturn, 1) := by decide +kernel
set_option maxRecDepth 20000 in
theorem ggX2_meetBall_X4_raise : GoodIn wsX2_meetBall wsX4_raise := goodIn_r _ [10, 11, 51] rfl (by decide +kernel)
set_option maxRecDepth 20000 in
theorem gX2_meetBall_X4_raise : GoodIn wsX2_meetBall (wsV RX2 74 RX4 yX4_raise wsX4_raise) := goodIn_app (goodIn_of _ (by decide +kernel)) ggX2_meetBall_X4_raise
set_option maxRecDepth 20000 in
theorem ggX2_meetBall_X2_isOut : GoodIn wsX2_meetBall wsX2_isOut := goodIn_r _ [16, 17, 18, 19, 20, 9, 21, 11, 43, 44, 45, 46, 47, 48, 49, 50, 51] rfl (by decide +kernel)
set_option maxRecDepth 20000 in
theorem gX2_meetBall_X2_isOut : GoodIn wsX2_meetBall (wsV RX2 57 RX2 yX2_isOut wsX2_isOut) := goodIn_app (goodIn_of _ (by decide +kernel)) ggX2_meetBall_X2_isOut
set_option maxRecDepth 20000 in
theorem ggX2_meetBall_X4_at : GoodIn wsX2_meetBall wsX4_at := goodIn_r _ [21, 11, 51] rfl (by decide +kernel)
set_option maxRecDepth 20000 in
theorem gX2_meetBall_X4_at : GoodIn wsX2_meetBall (wsV RX2 46 RX4 yX4_at wsX4_at) := goodIn_app (goodIn_of _ (by decide +kernel)) ggX2_meetBall_X4_at
set_option maxRecDepth 20000 in
theorem ggX2_meetBall_X2_leanOf : GoodIn wsX2_meetBall wsX2_leanOf := goodIn_r _ [25, 26, 27, 18, 19, 20, 9, 21, 11, 43, 44, 45, 46, 47, 48, 49, 50, 51] rfl (by decide +kernel)
set_option maxRecDepth 20000 in
theorem gX2_meetBall_X2_leanOf : GoodIn wsX2_meetBall (wsV RX2 80 RX2 yX2_leanOf wsX2_leanOf) := goodIn_app (goodIn_of _ (by decide +kernel)) ggX2_meetBall_X2_leanOf
set_option maxRecDepth 20000 in
theorem ggX2_meetBall_X4_put : GoodIn wsX2_meetBall wsX4_put := goodIn_r _ [31, 11, 51] rfl (by decide +kernel)
set_option maxRecDepth 20000 in
theorem gX2_meetBall_X4_put : GoodIn wsX2_meetBall (wsV RX2 66 RX4 yX4_put wsX4_put) := goodIn_app (goodIn_of _ (by decide +kernel)) ggX2_meetBall_X4_put
set_option maxRecDepth 20000 in
theorem ggX2_meetBall_X2_canBend : GoodIn wsX2_meetBall wsX2_canBend := goodIn_r _ [35, 26, 18, 19, 20, 9, 21, 11, 36, 37, 38, 43, 44, 45, 46, 47, 48, 49, 50, 51] rfl (by decide +kernel)
set_option maxRecDepth 20000 in
theorem gX2_meetBall_X2_canBend : GoodIn wsX2_meetBall (wsV RX2 97 RX2 yX2_canBend wsX2_canBend) := goodIn_app (goodIn_of _ (by decide +kernel)) ggX2_meetBall_X2_canBend
set_option maxRecDepth 20000 in
theorem ggX2_meetBall_X2_bendBy : GoodIn wsX2_meetBall wsX2_bendBy := goodIn_r _ [42, 26, 6, 7, 8, 9, 10, 11, 43, 44, 45, 46, 47, 48, 49, 50, 51] rfl (by decide +kernel)
set_option maxRecDepth 20000 in
theorem gX2_meetBall_X2_bendBy : GoodIn wsX2_meetBall (wsV RX2 101 RX2 yX2_bendBy wsX2_bendBy) := goodIn_app (goodIn_of _ (by decide +kernel)) ggX2_meetBall_X2_bendBy
theorem dX2_meetBall_0 : decode cX2_meetBall 0 = .ok (.aload_n 0, 1) := by decide +kernel
theorem dX2_meetBall_1 : decode cX2_meetBall 1 = .ok (.getfield 29, 3) := by decide +kernel
theorem dX2_meetBall_4 : decode cX2_meetBall 4 = .ok (.iload_n 1, 1) := by decide +kernel
theorem dX2_meetBall_5 : decode cX2_meetBall 5 = .ok (.iconst 1, 1) := by decide +kernel
theorem dX2_meetBall_6 : decode cX2_meetBall 6 = .ok (.invokevirtual 74, 3) := by decide +kernel
theorem dX2_meetBall_9 : decode cX2_meetBall 9 = .ok (.aload_n 0, 1) := by decide +kernel
theorem dX2_meetBall_10 : decode cX2_meetBall 10 = .ok (.iload_n 1, 1) := by decide +kernel
theorem dX2_meetBall_11 : decode cX2_meetBall 11 = .ok (.invokevirtual 57, 3) := by decide +kernel
theorem dX2_meetBall_14 : decode cX2_meetBall 14 = .ok (.ifCond .eq 4, 3) := by decide +kernel
theorem dX2_meetBall_17 : decode cX2_meetBall 17 = .ok (.return_, 1) := by decide +kernel
theorem dX2_meetBall_18 : decode cX2_meetBall 18 = .ok (.aload_n 0, 1) := by decide +kernel
theorem dX2_meetBall_19 : decode cX2_meetBall 19 = .ok (.dup, 1) := by decide +kernel
theorem dX2_meetBall_20 : decode cX2_meetBall 20 = .ok (.getfield 36, 3) := by decide +kernel
theorem dX2_meetBall_23 : decode cX2_meetBall 23 = .ok (.aload_n 0, 1) := by decide +kernel
theorem dX2_meetBall_24 : decode cX2_meetBall 24 = .ok (.getfield 23, 3) := by decide +kernel
theorem dX2_meetBall_27 : decode cX2_meetBall 27 = .ok (.iload_n 1, 1) := by decide +kernel
theorem dX2_meetBall_28 : decode cX2_meetBall 28 = .ok (.invokevirtual 46, 3) := by decide +kernel
theorem dX2_meetBall_31 : decode cX2_meetBall 31 = .ok (.iadd, 1) := by decide +kernel
theorem dX2_meetBall_32 : decode cX2_meetBall 32 = .ok (.putfield 36, 3) := by decide +kernel
theorem dX2_meetBall_35 : decode cX2_meetBall 35 = .ok (.aload_n 0, 1) := by decide +kernel
theorem dX2_meetBall_36 : decode cX2_meetBall 36 = .ok (.iload_n 1, 1) := by decide +kernel
theorem dX2_meetBall_37 : decode cX2_meetBall 37 = .ok (.invokevirtual 80, 3) := by decide +kernel
theorem dX2_meetBall_40 : decode cX2_meetBall 40 = .ok (.ifCond .ne 21, 3) := by decide +kernel
theorem dX2_meetBall_43 : decode cX2_meetBall 43 = .ok (.aload_n 0, 1) := by decide +kernel
theorem dX2_meetBall_44 : decode cX2_meetBall 44 = .ok (.getfield 26, 3) := by decide +kernel
theorem dX2_meetBall_47 : decode cX2_meetBall 47 = .ok (.iload_n 1, 1) := by decide +kernel
theorem dX2_meetBall_48 : decode cX2_meetBall 48 = .ok (.iconst 1, 1) := by decide +kernel
theorem dX2_meetBall_49 : decode cX2_meetBall 49 = .ok (.aload_n 0, 1) := by decide +kernel
theorem dX2_meetBall_50 : decode cX2_meetBall 50 = .ok (.getfield 26, 3) := by decide +kernel
theorem dX2_meetBall_53 : decode cX2_meetBall 53 = .ok (.iload_n 1, 1) := by decide +kernel
theorem dX2_meetBall_54 : decode cX2_meetBall 54 = .ok (.invokevirtual 46, 3) := by decide +kernel
theorem dX2_meetBall_57 : decode cX2_meetBall 57 = .ok (.isub, 1) := by decide +kernel
theorem dX2_meetBall_58 : decode cX2_meetBall 58 = .ok (.invokevirtual 66, 3) := by decide +kernel
theorem dX2_meetBall_61 : decode cX2_meetBall 61 = .ok (.iload_n 3, 1) := by decide +kernel
theorem dX2_meetBall_62 : decode cX2_meetBall 62 = .ok (.ifCond .eq 28, 3) := by decide +kernel
theorem dX2_meetBall_65 : decode cX2_meetBall 65 = .ok (.aload_n 0, 1) := by decide +kernel
theorem dX2_meetBall_66 : decode cX2_meetBall 66 = .ok (.iload_n 1, 1) := by decide +kernel
theorem dX2_meetBall_67 : decode cX2_meetBall 67 = .ok (.iload_n 2, 1) := by decide +kernel
theorem dX2_meetBall_68 : decode cX2_meetBall 68 = .ok (.invokevirtual 97, 3) := by decide +kernel
theorem dX2_meetBall_71 : decode cX2_meetBall 71 = .ok (.ifCond .eq 19, 3) := by decide +kernel
theorem dX2_meetBall_74 : decode cX2_meetBall 74 = .ok (.aload_n 0, 1) := by decide +kernel
theorem dX2_meetBall_75 : decode cX2_meetBall 75 = .ok (.iload_n 1, 1) := by decide +kernel
theorem dX2_meetBall_76 : decode cX2_meetBall 76 = .ok (.iload_n 2, 1) := by decide +kernel
theorem dX2_meetBall_77 : decode cX2_meetBall 77 = .ok (.invokevirtual 101, 3) := by decide +kernel
theorem dX2_meetBall_80 : decode cX2_meetBall 80 = .ok (.aload_n 0, 1) := by decide +kernel
theorem dX2_meetBall_81 : decode cX2_meetBall 81 = .ok (.dup, 1) := by decide +kernel
theorem dX2_meetBall_82 : decode cX2_meetBall 82 = .ok (.getfield 39, 3) := by decide +kernel
theorem dX2_meetBall_85 : decode cX2_meetBall 85 = .ok (.iconst 1, 1) := by decide +kernel
theorem dX2_meetBall_86 : decode cX2_meetBall 86 = .ok (.iadd, 1) := by decide +kernel
theorem dX2_meetBall_87 : decode cX2_meetBall 87 = .ok (.putfield 39, 3) := by decide +kernel
theorem dX2_meetBall_90 : decode cX2_meetBall 90 = .ok (.return_, 1) := by decide +kernel
set_option maxRecDepth 20000 in
theorem ggX2_readSign_X4_put : GoodIn wsX2_readSign wsX4_put := goodIn_r _ [9, 10, 19] rfl (by decide +kernel)
set_option maxRecDepth 20000 in
theorem gX2_readSign_X4_put : GoodIn wsX2_readSign (wsV RX2 66 RX4 yX4_put wsX4_put) := goodIn_app (goodIn_of _ (by decide +kernel)) ggX2_readSign_X4_put
theorem dX2_readSign_0 : decode cX2_readSign 0 = .ok (.aload_n 0, 1) := by decide +kernel
theorem dX2_readSign_1 : decode cX2_readSign 1 = .ok (.getfield 14, 3) := by decide +kernel
theorem dX2_readSign_4 : decode cX2_readSign 4 = .ok (.iload_n 1, 1) := by decide +kernel
theorem dX2_readSign_5 : decode cX2_readSign 5 = .ok (.iload_n 2, 1) := by decide +kernel
theorem dX2_readSign_6 : decode cX2_readSign 6 = .ok (.bipush 60, 2) := by decide +kernel
theorem dX2_readSign_8 : decode cX2_readSign 8 = .ok (.if_icmp .ne 7, 3) := by decide +kernel
theorem dX2_readSign_11 : decode cX2_readSign 11 = .ok (.iconst (-1), 1) := by decide +kernel
theorem dX2_readSign_12 : decode cX2_readSign 12 = .ok (.goto 14, 3) := by decide +kernel
theorem dX2_readSign_15 : decode cX2_readSign 15 = .ok (.iload_n 2, 1) := by decide +kernel
theorem dX2_readSign_16 : decode cX2_readSign 16 = .ok (.bipush 62, 2) := by decide +kernel
theorem dX2_readSign_18 : decode cX2_readSign 18 = .ok (.if_icmp .ne 7, 3) := by decide +kernel
theorem dX2_readSign_21 : decode cX2_readSign 21 = .ok (.iconst 1, 1) := by decide +kernel
theorem dX2_readSign_22 : decode cX2_readSign 22 = .ok (.goto 4, 3) := by decide +kernel
theorem dX2_readSign_25 : decode cX2_readSign 25 = .ok (.iconst 0, 1) := by decide +kernel
theorem dX2_readSign_26 : decode cX2_readSign 26 = .ok (.invokevirtual 66, 3) := by decide +kernel
theorem dX2_readSign_29 : decode cX2_readSign 29 = .ok (.aload_n 0, 1) := by decide +kernel
theorem dX2_readSign_30 : decode cX2_readSign 30 = .ok (.getfield 20, 3) := by decide +kernel
theorem dX2_readSign_33 : decode cX2_readSign 33 = .ok (.iload_n 1, 1) := by decide +kernel
theorem dX2_readSign_34 : decode cX2_readSign 34 = .ok (.iload_n 2, 1) := by decide +kernel
theorem dX2_readSign_35 : decode cX2_readSign 35 = .ok (.bipush 46, 2) := by decide +kernel
theorem dX2_readSign_37 : decode cX2_readSign 37 = .ok (.if_icmp .ne 7, 3) := by decide +kernel
theorem dX2_readSign_40 : decode cX2_readSign 40 = .ok (.iconst 1, 1) := by decide +kernel
theorem dX2_readSign_41 : decode cX2_readSign 41 = .ok (.goto 4, 3) := by decide +kernel
theorem dX2_readSign_44 : decode cX2_readSign 44 = .ok (.iconst 0, 1) := by decide +kernel
theorem dX2_readSign_45 : decode cX2_readSign 45 = .ok (.invokevirtual 66, 3) := by decide +kernel
theorem dX2_readSign_48 : decode cX2_readSign 48 = .ok (.aload_n 0, 1) := by decide +kernel
theorem dX2_readSign_49 : decode cX2_readSign 49 = .ok (.getfield 23, 3) := by decide +kernel
theorem dX2_readSign_52 : decode cX2_readSign 52 = .ok (.iload_n 1, 1) := by decide +kernel
theorem dX2_readSign_53 : decode cX2_readSign 53 = .ok (.iload_n 2, 1) := by decide +kernel
theorem dX2_readSign_54 : decode cX2_readSign 54 = .ok (.bipush 111, 2) := by decide +kernel
theorem dX2_readSign_56 : decode cX2_readSign 56 = .ok (.if_icmp .ne 7, 3) := by decide +kernel
theorem dX2_readSign_59 : decode cX2_readSign 59 = .ok (.iconst 1, 1) := by decide +kernel
theorem dX2_readSign_60 : decode cX2_readSign 60 = .ok (.goto 4, 3) := by decide +kernel
theorem dX2_readSign_63 : decode cX2_readSign 63 = .ok (.iconst 0, 1) := by decide +kernel
theorem dX2_readSign_64 : decode cX2_readSign 64 = .ok (.invokevirtual 66, 3) := by decide +kernel
theorem dX2_readSign_67 : decode cX2_readSign 67 = .ok (.aload_n 0, 1) := by decide +kernel
theorem dX2_readSign_68 : decode cX2_readSign 68 = .ok (.getfield 26, 3) := by decide +kernel
theorem dX2_readSign_71 : decode cX2_readSign 71 = .ok (.iload_n 1, 1) := by decide +kernel
theorem dX2_readSign_72 : decode cX2_readSign 72 = .ok (.iconst 0, 1) := by decide +kernel
theorem dX2_readSign_73 : decode cX2_readSign 73 = .ok (.invokevirtual 66, 3) := by decide +kernel
theorem dX2_readSign_76 : decode cX2_readSign 76 = .ok (.return_, 1) := by decide +kernel
set_option maxRecDepth 20000 in
theorem ggX2_signOf_X2_isOut : GoodIn wsX2_signOf wsX2_isOut := goodIn_r _ [7, 8, 9, 10, 11, 12, 13, 14, 15, 16, 17, 18, 19, 20, 21, 22, 23] rfl (by decide +kernel)
set_option maxRecDepth 20000 in
theorem gX2_signOf_X2_isOut : GoodIn wsX2_signOf (wsV RX2 57 RX2 yX2_isOut wsX2_isOut) := goodIn_app (goodIn_of _ (by decide +kernel)) ggX2_signOf_X2_isOut
set_option maxRecDepth 20000 in
theorem ggX2_signOf_X4_at : GoodIn wsX2_signOf wsX4_at := goodIn_r _ [13, 14, 23] rfl (by decide +kernel)
set_option maxRecDepth 20000 in
theorem gX2_signOf_X4_at : GoodIn wsX2_signOf (wsV RX2 46 RX4 yX4_at wsX4_at) := goodIn_app (goodIn_of _ (by decide +kernel)) ggX2_signOf_X4_at
theorem dX2_signOf_0 : decode cX2_signOf 0 = .ok (.aload_n 0, 1) := by decide +kernel
theorem dX2_signOf_1 : decode cX2_signOf 1 = .ok (.iload_n 1, 1) := by decide +kernel
theorem dX2_signOf_2 : decode cX2_signOf 2 = .ok (.invokevirtual 57, 3) := by decide +kernel
theorem dX2_signOf_5 : decode cX2_signOf 5 = .ok (.ifCond .eq 6, 3) := by decide +kernel
theorem dX2_signOf_8 : decode cX2_signOf 8 = .ok (.bipush 46, 2) := by decide +kernel
theorem dX2_signOf_10 : decode cX2_signOf 10 = .ok (.ireturn, 1) := by decide +kernel
theorem dX2_signOf_11 : decode cX2_signOf 11 = .ok (.aload_n 0, 1) := by decide +kernel
theorem dX2_signOf_12 : decode cX2_signOf 12 = .ok (.getfield 23, 3) := by decide +kernel
theorem dX2_signOf_15 : decode cX2_signOf 15 = .ok (.iload_n 1, 1) := by decide +kernel
theorem dX2_signOf_16 : decode cX2_signOf 16 = .ok (.invokevirtual 46, 3) := by decide +kernel
theorem dX2_signOf_19 : decode cX2_signOf 19 = .ok (.ifCond .eq 6, 3) := by decide +kernel
theorem dX2_signOf_22 : decode cX2_signOf 22 = .ok (.bipush 111, 2) := by decide +kernel
theorem dX2_signOf_24 : decode cX2_signOf 24 = .ok (.ireturn, 1) := by decide +kernel
theorem dX2_signOf_25 : decode cX2_signOf 25 = .ok (.aload_n 0, 1) := by decide +kernel
theorem dX2_signOf_26 : decode cX2_signOf 26 = .ok (.getfield 14, 3) := by decide +kernel
theorem dX2_signOf_29 : decode cX2_signOf 29 = .ok (.iload_n 1, 1) := by decide +kernel
theorem dX2_signOf_30 : decode cX2_signOf 30 = .ok (.invokevirtual 46, 3) := by decide +kernel
theorem dX2_signOf_33 : decode cX2_signOf 33 = .ok (.istore_n 2, 1) := by decide +kernel
theorem dX2_signOf_34 : decode cX2_signOf 34 = .ok (.iload_n 2, 1) := by decide +kernel
theorem dX2_signOf_35 : decode cX2_signOf 35 = .ok (.ifCond .ge 8, 3) := by decide +kernel
theorem dX2_signOf_38 : decode cX2_signOf 38 = .ok (.bipush 60, 2) := by decide +kernel
theorem dX2_signOf_40 : decode cX2_signOf 40 = .ok (.goto 14, 3) := by decide +kernel
theorem dX2_signOf_43 : decode cX2_signOf 43 = .ok (.iload_n 2, 1) := by decide +kernel
theorem dX2_signOf_44 : decode cX2_signOf 44 = .ok (.ifCond .le 8, 3) := by decide +kernel
theorem dX2_signOf_47 : decode cX2_signOf 47 = .ok (.bipush 62, 2) := by decide +kernel
theorem dX2_signOf_49 : decode cX2_signOf 49 = .ok (.goto 5, 3) := by decide +kernel
theorem dX2_signOf_52 : decode cX2_signOf 52 = .ok (.bipush 124, 2) := by decide +kernel
theorem dX2_signOf_54 : decode cX2_signOf 54 = .ok (.ireturn, 1) := by decide +kernel
