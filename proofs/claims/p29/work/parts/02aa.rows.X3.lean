set_option maxRecDepth 20000 in
theorem ggX3_init_X4_init : GoodIn wsX3_init wsX4_init := goodIn_r _ [11, 12, 2, 3, 13, 14, 15, 16, 17, 18, 19] rfl (by decide +kernel)
set_option maxRecDepth 20000 in
theorem gX3_init_X4_init : GoodIn wsX3_init (wsX4_init) := ggX3_init_X4_init
theorem dX3_init_0 : decode cX3_init 0 = .ok (.aload_n 0, 1) := by decide +kernel
theorem dX3_init_1 : decode cX3_init 1 = .ok (.invokespecial 3, 3) := by decide +kernel
theorem dX3_init_4 : decode cX3_init 4 = .ok (.aload_n 0, 1) := by decide +kernel
theorem dX3_init_5 : decode cX3_init 5 = .ok (.new 9, 3) := by decide +kernel
theorem dX3_init_8 : decode cX3_init 8 = .ok (.dup, 1) := by decide +kernel
theorem dX3_init_9 : decode cX3_init 9 = .ok (.bipush 7, 2) := by decide +kernel
theorem dX3_init_11 : decode cX3_init 11 = .ok (.invokespecial 11, 3) := by decide +kernel
theorem dX3_init_14 : decode cX3_init 14 = .ok (.putfield 14, 3) := by decide +kernel
theorem dX3_init_17 : decode cX3_init 17 = .ok (.aload_n 0, 1) := by decide +kernel
theorem dX3_init_18 : decode cX3_init 18 = .ok (.new 9, 3) := by decide +kernel
theorem dX3_init_21 : decode cX3_init 21 = .ok (.dup, 1) := by decide +kernel
theorem dX3_init_22 : decode cX3_init 22 = .ok (.bipush 7, 2) := by decide +kernel
theorem dX3_init_24 : decode cX3_init 24 = .ok (.invokespecial 11, 3) := by decide +kernel
theorem dX3_init_27 : decode cX3_init 27 = .ok (.putfield 20, 3) := by decide +kernel
theorem dX3_init_30 : decode cX3_init 30 = .ok (.return_, 1) := by decide +kernel
set_option maxRecDepth 20000 in
theorem ggX3_pocketsForward_X3_placesInRow : GoodIn wsX3_pocketsForward wsX3_placesInRow := goodIn_r _ [5, 6, 7, 8, 4, 9, 10, 11, 12, 13, 14, 15, 16, 17, 18, 19, 20, 21, 22, 23, 24, 25, 26, 27, 28, 29, 30, 31, 32, 33, 34, 35, 36, 37, 38, 39, 40, 41, 42, 43, 44, 45, 46, 47, 48, 49, 50, 51, 52, 53, 54, 55, 56, 57] rfl (by decide +kernel)
set_option maxRecDepth 20000 in
theorem gX3_pocketsForward_X3_placesInRow : GoodIn wsX3_pocketsForward (wsV RX3 23 RX3 yX3_placesInRow wsX3_placesInRow) := goodIn_app (goodIn_of _ (by decide +kernel)) ggX3_pocketsForward_X3_placesInRow
theorem dX3_pocketsForward_0 : decode cX3_pocketsForward 0 = .ok (.aload_n 0, 1) := by decide +kernel
theorem dX3_pocketsForward_1 : decode cX3_pocketsForward 1 = .ok (.aload_n 1, 1) := by decide +kernel
theorem dX3_pocketsForward_2 : decode cX3_pocketsForward 2 = .ok (.iconst 5, 1) := by decide +kernel
theorem dX3_pocketsForward_3 : decode cX3_pocketsForward 3 = .ok (.invokevirtual 23, 3) := by decide +kernel
theorem dX3_pocketsForward_6 : decode cX3_pocketsForward 6 = .ok (.ireturn, 1) := by decide +kernel
set_option maxRecDepth 20000 in
theorem ggX3_pocketsBackward_X3_startsTo : GoodIn wsX3_pocketsBackward wsX3_startsTo := goodIn_r _ [5, 6, 7, 8, 9, 10, 11, 4, 12, 13, 14, 15, 16, 17, 18, 19, 20, 21, 22, 23, 24, 25, 26, 27, 28, 29, 30, 31, 32, 33, 34, 35, 36, 37, 38, 39, 40, 41, 42, 43, 44, 45, 46, 47, 48, 49, 50, 51, 52, 53, 54] rfl (by decide +kernel)
set_option maxRecDepth 20000 in
theorem gX3_pocketsBackward_X3_startsTo : GoodIn wsX3_pocketsBackward (wsV RX3 27 RX3 yX3_startsTo wsX3_startsTo) := goodIn_app (goodIn_of _ (by decide +kernel)) ggX3_pocketsBackward_X3_startsTo
set_option maxRecDepth 20000 in
theorem ggX3_pocketsBackward_X6_bit : GoodIn wsX3_pocketsBackward wsX6_bit := goodIn_r _ [8] rfl (by decide +kernel)
set_option maxRecDepth 20000 in
theorem gX3_pocketsBackward_X6_bit_n30 : GoodIn wsX3_pocketsBackward (wsX6_bit) := ggX3_pocketsBackward_X6_bit
theorem dX3_pocketsBackward_0 : decode cX3_pocketsBackward 0 = .ok (.iconst 0, 1) := by decide +kernel
theorem dX3_pocketsBackward_1 : decode cX3_pocketsBackward 1 = .ok (.istore_n 2, 1) := by decide +kernel
theorem dX3_pocketsBackward_2 : decode cX3_pocketsBackward 2 = .ok (.iconst 0, 1) := by decide +kernel
theorem dX3_pocketsBackward_3 : decode cX3_pocketsBackward 3 = .ok (.istore_n 3, 1) := by decide +kernel
theorem dX3_pocketsBackward_4 : decode cX3_pocketsBackward 4 = .ok (.iload_n 3, 1) := by decide +kernel
theorem dX3_pocketsBackward_5 : decode cX3_pocketsBackward 5 = .ok (.bipush 7, 2) := by decide +kernel
theorem dX3_pocketsBackward_7 : decode cX3_pocketsBackward 7 = .ok (.if_icmp .ge 25, 3) := by decide +kernel
theorem dX3_pocketsBackward_10 : decode cX3_pocketsBackward 10 = .ok (.aload_n 0, 1) := by decide +kernel
theorem dX3_pocketsBackward_11 : decode cX3_pocketsBackward 11 = .ok (.aload_n 1, 1) := by decide +kernel
theorem dX3_pocketsBackward_12 : decode cX3_pocketsBackward 12 = .ok (.iload_n 3, 1) := by decide +kernel
theorem dX3_pocketsBackward_13 : decode cX3_pocketsBackward 13 = .ok (.invokevirtual 27, 3) := by decide +kernel
theorem dX3_pocketsBackward_16 : decode cX3_pocketsBackward 16 = .ok (.ifCond .eq 10, 3) := by decide +kernel
theorem dX3_pocketsBackward_19 : decode cX3_pocketsBackward 19 = .ok (.iload_n 2, 1) := by decide +kernel
theorem dX3_pocketsBackward_20 : decode cX3_pocketsBackward 20 = .ok (.iload_n 3, 1) := by decide +kernel
theorem dX3_pocketsBackward_21 : decode cX3_pocketsBackward 21 = .ok (.invokestatic 30, 3) := by decide +kernel
theorem dX3_pocketsBackward_24 : decode cX3_pocketsBackward 24 = .ok (.ior, 1) := by decide +kernel
theorem dX3_pocketsBackward_25 : decode cX3_pocketsBackward 25 = .ok (.istore_n 2, 1) := by decide +kernel
theorem dX3_pocketsBackward_26 : decode cX3_pocketsBackward 26 = .ok (.iinc 3 1, 3) := by decide +kernel
theorem dX3_pocketsBackward_29 : decode cX3_pocketsBackward 29 = .ok (.goto (-25), 3) := by decide +kernel
theorem dX3_pocketsBackward_32 : decode cX3_pocketsBackward 32 = .ok (.iload_n 2, 1) := by decide +kernel
theorem dX3_pocketsBackward_33 : decode cX3_pocketsBackward 33 = .ok (.ireturn, 1) := by decide +kernel
set_option maxRecDepth 20000 in
theorem ggX3_isOpenTo_X3_placesInRow : GoodIn wsX3_isOpenTo wsX3_placesInRow := goodIn_r _ [5, 6, 7, 8, 4, 9, 10, 11, 12, 13, 14, 15, 16, 17, 18, 19, 20, 21, 22, 23, 24, 25, 26, 27, 28, 29, 30, 31, 32, 33, 34, 35, 36, 37, 38, 39, 40, 41, 42, 43, 44, 45, 46, 47, 48, 49, 50, 51, 52, 53, 54, 55, 56, 57] rfl (by decide +kernel)
set_option maxRecDepth 20000 in
theorem gX3_isOpenTo_X3_placesInRow : GoodIn wsX3_isOpenTo (wsV RX3 23 RX3 yX3_placesInRow wsX3_placesInRow) := goodIn_app (goodIn_of _ (by decide +kernel)) ggX3_isOpenTo_X3_placesInRow
set_option maxRecDepth 20000 in
theorem ggX3_isOpenTo_X6_isIn : GoodIn wsX3_isOpenTo wsX6_isIn := goodIn_r _ [12, 13, 14, 11, 15] rfl (by decide +kernel)
set_option maxRecDepth 20000 in
theorem gX3_isOpenTo_X6_isIn_n34 : GoodIn wsX3_isOpenTo (wsX6_isIn) := ggX3_isOpenTo_X6_isIn
theorem dX3_isOpenTo_0 : decode cX3_isOpenTo 0 = .ok (.aload_n 0, 1) := by decide +kernel
theorem dX3_isOpenTo_1 : decode cX3_isOpenTo 1 = .ok (.aload_n 1, 1) := by decide +kernel
theorem dX3_isOpenTo_2 : decode cX3_isOpenTo 2 = .ok (.iload_n 2, 1) := by decide +kernel
theorem dX3_isOpenTo_3 : decode cX3_isOpenTo 3 = .ok (.bipush 7, 2) := by decide +kernel
theorem dX3_isOpenTo_5 : decode cX3_isOpenTo 5 = .ok (.idiv, 1) := by decide +kernel
theorem dX3_isOpenTo_6 : decode cX3_isOpenTo 6 = .ok (.invokevirtual 23, 3) := by decide +kernel
theorem dX3_isOpenTo_9 : decode cX3_isOpenTo 9 = .ok (.iload_n 2, 1) := by decide +kernel
theorem dX3_isOpenTo_10 : decode cX3_isOpenTo 10 = .ok (.bipush 7, 2) := by decide +kernel
theorem dX3_isOpenTo_12 : decode cX3_isOpenTo 12 = .ok (.irem, 1) := by decide +kernel
theorem dX3_isOpenTo_13 : decode cX3_isOpenTo 13 = .ok (.invokestatic 34, 3) := by decide +kernel
theorem dX3_isOpenTo_16 : decode cX3_isOpenTo 16 = .ok (.ireturn, 1) := by decide +kernel
set_option maxRecDepth 20000 in
theorem ggX3_placesInRow_X3_placesBelow : GoodIn wsX3_placesInRow wsX3_placesBelow := goodIn_r _ [5, 6, 7, 8, 9, 10, 11, 12, 13, 14, 15, 16, 17, 18, 19, 20, 21, 22, 23, 24, 25, 26, 27, 28, 29, 30, 31, 32, 33, 34, 35, 36, 37, 38, 39, 40, 41, 42, 43, 44, 45, 46, 47, 48, 49, 50, 51, 52, 53] rfl (by decide +kernel)
set_option maxRecDepth 20000 in
theorem gX3_placesInRow_X3_placesBelow : GoodIn wsX3_placesInRow (wsV RX3 38 RX3 yX3_placesBelow wsX3_placesBelow) := goodIn_app (goodIn_of _ (by decide +kernel)) ggX3_placesInRow_X3_placesBelow
theorem dX3_placesInRow_0 : decode cX3_placesInRow 0 = .ok (.bipush 127, 2) := by decide +kernel
theorem dX3_placesInRow_2 : decode cX3_placesInRow 2 = .ok (.istore_n 3, 1) := by decide +kernel
theorem dX3_placesInRow_3 : decode cX3_placesInRow 3 = .ok (.iconst 0, 1) := by decide +kernel
theorem dX3_placesInRow_4 : decode cX3_placesInRow 4 = .ok (.istore 4, 2) := by decide +kernel
theorem dX3_placesInRow_6 : decode cX3_placesInRow 6 = .ok (.iload 4, 2) := by decide +kernel
theorem dX3_placesInRow_8 : decode cX3_placesInRow 8 = .ok (.iconst 5, 1) := by decide +kernel
theorem dX3_placesInRow_9 : decode cX3_placesInRow 9 = .ok (.if_icmp .ge 24, 3) := by decide +kernel
theorem dX3_placesInRow_12 : decode cX3_placesInRow 12 = .ok (.iload 4, 2) := by decide +kernel
theorem dX3_placesInRow_14 : decode cX3_placesInRow 14 = .ok (.iload_n 2, 1) := by decide +kernel
theorem dX3_placesInRow_15 : decode cX3_placesInRow 15 = .ok (.if_icmp .ge 18, 3) := by decide +kernel
theorem dX3_placesInRow_18 : decode cX3_placesInRow 18 = .ok (.aload_n 0, 1) := by decide +kernel
theorem dX3_placesInRow_19 : decode cX3_placesInRow 19 = .ok (.aload_n 1, 1) := by decide +kernel
theorem dX3_placesInRow_20 : decode cX3_placesInRow 20 = .ok (.iload 4, 2) := by decide +kernel
theorem dX3_placesInRow_22 : decode cX3_placesInRow 22 = .ok (.iload_n 3, 1) := by decide +kernel
theorem dX3_placesInRow_23 : decode cX3_placesInRow 23 = .ok (.invokevirtual 38, 3) := by decide +kernel
theorem dX3_placesInRow_26 : decode cX3_placesInRow 26 = .ok (.istore_n 3, 1) := by decide +kernel
theorem dX3_placesInRow_27 : decode cX3_placesInRow 27 = .ok (.iinc 4 1, 3) := by decide +kernel
theorem dX3_placesInRow_30 : decode cX3_placesInRow 30 = .ok (.goto (-24), 3) := by decide +kernel
theorem dX3_placesInRow_33 : decode cX3_placesInRow 33 = .ok (.iload_n 3, 1) := by decide +kernel
theorem dX3_placesInRow_34 : decode cX3_placesInRow 34 = .ok (.ireturn, 1) := by decide +kernel
set_option maxRecDepth 20000 in
theorem ggX3_placesBelow_X6_isIn : GoodIn wsX3_placesBelow wsX6_isIn := goodIn_r _ [3, 4, 5, 2, 6] rfl (by decide +kernel)
set_option maxRecDepth 20000 in
theorem gX3_placesBelow_X6_isIn_n34 : GoodIn wsX3_placesBelow (wsX6_isIn) := ggX3_placesBelow_X6_isIn
set_option maxRecDepth 20000 in
theorem ggX3_placesBelow_X6_pinAt : GoodIn wsX3_placesBelow wsX6_pinAt := goodIn_r _ [8] rfl (by decide +kernel)
set_option maxRecDepth 20000 in
theorem gX3_placesBelow_X6_pinAt_n42 : GoodIn wsX3_placesBelow (wsX6_pinAt) := ggX3_placesBelow_X6_pinAt
set_option maxRecDepth 20000 in
theorem ggX3_placesBelow_X2_nextPlaces : GoodIn wsX3_placesBelow wsX2_nextPlaces := goodIn_r _ [13, 14, 15, 16, 12, 17, 18, 19, 20, 21, 22, 23, 24, 5, 2, 6, 25, 26, 27, 28, 29, 30, 31, 32, 33, 34, 35, 36, 37, 38, 39, 40, 41, 42, 43, 44, 45, 46, 47, 48] rfl (by decide +kernel)
set_option maxRecDepth 20000 in
theorem gX3_placesBelow_X2_nextPlaces : GoodIn wsX3_placesBelow (wsV RX3 46 RX2 yX2_nextPlaces wsX2_nextPlaces) := goodIn_app (goodIn_of _ (by decide +kernel)) ggX3_placesBelow_X2_nextPlaces
theorem dX3_placesBelow_0 : decode cX3_placesBelow 0 = .ok (.iconst 0, 1) := by decide +kernel
theorem dX3_placesBelow_1 : decode cX3_placesBelow 1 = .ok (.istore 4, 2) := by decide +kernel
theorem dX3_placesBelow_3 : decode cX3_placesBelow 3 = .ok (.iconst 0, 1) := by decide +kernel
theorem dX3_placesBelow_4 : decode cX3_placesBelow 4 = .ok (.istore 5, 2) := by decide +kernel
theorem dX3_placesBelow_6 : decode cX3_placesBelow 6 = .ok (.iload 5, 2) := by decide +kernel
theorem dX3_placesBelow_8 : decode cX3_placesBelow 8 = .ok (.bipush 7, 2) := by decide +kernel
theorem dX3_placesBelow_10 : decode cX3_placesBelow 10 = .ok (.if_icmp .ge 33, 3) := by decide +kernel
theorem dX3_placesBelow_13 : decode cX3_placesBelow 13 = .ok (.iload_n 3, 1) := by decide +kernel
theorem dX3_placesBelow_14 : decode cX3_placesBelow 14 = .ok (.iload 5, 2) := by decide +kernel
theorem dX3_placesBelow_16 : decode cX3_placesBelow 16 = .ok (.invokestatic 34, 3) := by decide +kernel
theorem dX3_placesBelow_19 : decode cX3_placesBelow 19 = .ok (.ifCond .eq 18, 3) := by decide +kernel
theorem dX3_placesBelow_22 : decode cX3_placesBelow 22 = .ok (.iload 4, 2) := by decide +kernel
theorem dX3_placesBelow_24 : decode cX3_placesBelow 24 = .ok (.aload_n 1, 1) := by decide +kernel
theorem dX3_placesBelow_25 : decode cX3_placesBelow 25 = .ok (.iload_n 2, 1) := by decide +kernel
theorem dX3_placesBelow_26 : decode cX3_placesBelow 26 = .ok (.iload 5, 2) := by decide +kernel
theorem dX3_placesBelow_28 : decode cX3_placesBelow 28 = .ok (.invokestatic 42, 3) := by decide +kernel
theorem dX3_placesBelow_31 : decode cX3_placesBelow 31 = .ok (.invokevirtual 46, 3) := by decide +kernel
theorem dX3_placesBelow_34 : decode cX3_placesBelow 34 = .ok (.ior, 1) := by decide +kernel
theorem dX3_placesBelow_35 : decode cX3_placesBelow 35 = .ok (.istore 4, 2) := by decide +kernel
theorem dX3_placesBelow_37 : decode cX3_placesBelow 37 = .ok (.iinc 5 1, 3) := by decide +kernel
theorem dX3_placesBelow_40 : decode cX3_placesBelow 40 = .ok (.goto (-34), 3) := by decide +kernel
theorem dX3_placesBelow_43 : decode cX3_placesBelow 43 = .ok (.iload 4, 2) := by decide +kernel
theorem dX3_placesBelow_45 : decode cX3_placesBelow 45 = .ok (.ireturn, 1) := by decide +kernel
set_option maxRecDepth 20000 in
theorem ggX3_startsTo_X6_bit : GoodIn wsX3_startsTo wsX6_bit := goodIn_r _ [3] rfl (by decide +kernel)
set_option maxRecDepth 20000 in
theorem gX3_startsTo_X6_bit_n30 : GoodIn wsX3_startsTo (wsX6_bit) := ggX3_startsTo_X6_bit
set_option maxRecDepth 20000 in
theorem ggX3_startsTo_X3_placesAbove : GoodIn wsX3_startsTo wsX3_placesAbove := goodIn_r _ [8, 9, 2, 10, 11, 12, 13, 14, 15, 16, 17, 18, 19, 20, 21, 22, 23, 24, 25, 26, 1, 3, 27, 28, 29, 30, 31, 32, 33, 34, 35, 36, 37, 38, 39, 40, 41, 42, 43, 44, 45, 46, 47, 48, 49, 50] rfl (by decide +kernel)
set_option maxRecDepth 20000 in
theorem gX3_startsTo_X3_placesAbove : GoodIn wsX3_startsTo (wsV RX3 51 RX3 yX3_placesAbove wsX3_placesAbove) := goodIn_app (goodIn_of _ (by decide +kernel)) ggX3_startsTo_X3_placesAbove
theorem dX3_startsTo_0 : decode cX3_startsTo 0 = .ok (.iload_n 2, 1) := by decide +kernel
theorem dX3_startsTo_1 : decode cX3_startsTo 1 = .ok (.invokestatic 30, 3) := by decide +kernel
theorem dX3_startsTo_4 : decode cX3_startsTo 4 = .ok (.istore_n 3, 1) := by decide +kernel
theorem dX3_startsTo_5 : decode cX3_startsTo 5 = .ok (.iconst 4, 1) := by decide +kernel
theorem dX3_startsTo_6 : decode cX3_startsTo 6 = .ok (.istore 4, 2) := by decide +kernel
theorem dX3_startsTo_8 : decode cX3_startsTo 8 = .ok (.iload 4, 2) := by decide +kernel
theorem dX3_startsTo_10 : decode cX3_startsTo 10 = .ok (.ifCond .lt 18, 3) := by decide +kernel
theorem dX3_startsTo_13 : decode cX3_startsTo 13 = .ok (.aload_n 0, 1) := by decide +kernel
theorem dX3_startsTo_14 : decode cX3_startsTo 14 = .ok (.aload_n 1, 1) := by decide +kernel
theorem dX3_startsTo_15 : decode cX3_startsTo 15 = .ok (.iload 4, 2) := by decide +kernel
theorem dX3_startsTo_17 : decode cX3_startsTo 17 = .ok (.iload_n 3, 1) := by decide +kernel
theorem dX3_startsTo_18 : decode cX3_startsTo 18 = .ok (.invokevirtual 51, 3) := by decide +kernel
theorem dX3_startsTo_21 : decode cX3_startsTo 21 = .ok (.istore_n 3, 1) := by decide +kernel
theorem dX3_startsTo_22 : decode cX3_startsTo 22 = .ok (.iinc 4 (-1), 3) := by decide +kernel
theorem dX3_startsTo_25 : decode cX3_startsTo 25 = .ok (.goto (-17), 3) := by decide +kernel
theorem dX3_startsTo_28 : decode cX3_startsTo 28 = .ok (.iload_n 3, 1) := by decide +kernel
theorem dX3_startsTo_29 : decode cX3_startsTo 29 = .ok (.ireturn, 1) := by decide +kernel
set_option maxRecDepth 20000 in
theorem ggX3_placesAbove_X6_pinAt : GoodIn wsX3_placesAbove wsX6_pinAt := goodIn_r _ [3] rfl (by decide +kernel)
set_option maxRecDepth 20000 in
theorem gX3_placesAbove_X6_pinAt_n42 : GoodIn wsX3_placesAbove (wsX6_pinAt) := ggX3_placesAbove_X6_pinAt
set_option maxRecDepth 20000 in
theorem ggX3_placesAbove_X2_nextPlaces : GoodIn wsX3_placesAbove wsX2_nextPlaces := goodIn_r _ [8, 9, 10, 11, 7, 12, 13, 14, 15, 16, 17, 18, 19, 20, 2, 21, 22, 23, 24, 25, 26, 27, 28, 29, 30, 31, 32, 33, 34, 35, 36, 37, 38, 39, 40, 41, 42, 43, 44, 45] rfl (by decide +kernel)
set_option maxRecDepth 20000 in
theorem gX3_placesAbove_X2_nextPlaces : GoodIn wsX3_placesAbove (wsV RX3 46 RX2 yX2_nextPlaces wsX2_nextPlaces) := goodIn_app (goodIn_of _ (by decide +kernel)) ggX3_placesAbove_X2_nextPlaces
set_option maxRecDepth 20000 in
theorem ggX3_placesAbove_X6_bit : GoodIn wsX3_placesAbove wsX6_bit := goodIn_r _ [21] rfl (by decide +kernel)
set_option maxRecDepth 20000 in
theorem gX3_placesAbove_X6_bit_n30 : GoodIn wsX3_placesAbove (wsX6_bit) := ggX3_placesAbove_X6_bit
theorem dX3_placesAbove_0 : decode cX3_placesAbove 0 = .ok (.iconst 0, 1) := by decide +kernel
theorem dX3_placesAbove_1 : decode cX3_placesAbove 1 = .ok (.istore 4, 2) := by decide +kernel
theorem dX3_placesAbove_3 : decode cX3_placesAbove 3 = .ok (.iconst 0, 1) := by decide +kernel
theorem dX3_placesAbove_4 : decode cX3_placesAbove 4 = .ok (.istore 5, 2) := by decide +kernel
theorem dX3_placesAbove_6 : decode cX3_placesAbove 6 = .ok (.iload 5, 2) := by decide +kernel
theorem dX3_placesAbove_8 : decode cX3_placesAbove 8 = .ok (.bipush 7, 2) := by decide +kernel
theorem dX3_placesAbove_10 : decode cX3_placesAbove 10 = .ok (.if_icmp .ge 34, 3) := by decide +kernel
theorem dX3_placesAbove_13 : decode cX3_placesAbove 13 = .ok (.aload_n 1, 1) := by decide +kernel
theorem dX3_placesAbove_14 : decode cX3_placesAbove 14 = .ok (.iload_n 2, 1) := by decide +kernel
theorem dX3_placesAbove_15 : decode cX3_placesAbove 15 = .ok (.iload 5, 2) := by decide +kernel
theorem dX3_placesAbove_17 : decode cX3_placesAbove 17 = .ok (.invokestatic 42, 3) := by decide +kernel
theorem dX3_placesAbove_20 : decode cX3_placesAbove 20 = .ok (.invokevirtual 46, 3) := by decide +kernel
theorem dX3_placesAbove_23 : decode cX3_placesAbove 23 = .ok (.iload_n 3, 1) := by decide +kernel
theorem dX3_placesAbove_24 : decode cX3_placesAbove 24 = .ok (.iand, 1) := by decide +kernel
theorem dX3_placesAbove_25 : decode cX3_placesAbove 25 = .ok (.ifCond .eq 13, 3) := by decide +kernel
theorem dX3_placesAbove_28 : decode cX3_placesAbove 28 = .ok (.iload 4, 2) := by decide +kernel
theorem dX3_placesAbove_30 : decode cX3_placesAbove 30 = .ok (.iload 5, 2) := by decide +kernel
theorem dX3_placesAbove_32 : decode cX3_placesAbove 32 = .ok (.invokestatic 30, 3) := by decide +kernel
theorem dX3_placesAbove_35 : decode cX3_placesAbove 35 = .ok (.ior, 1) := by decide +kernel
theorem dX3_placesAbove_36 : decode cX3_placesAbove 36 = .ok (.istore 4, 2) := by decide +kernel
theorem dX3_placesAbove_38 : decode cX3_placesAbove 38 = .ok (.iinc 5 1, 3) := by decide +kernel
theorem dX3_placesAbove_41 : decode cX3_placesAbove 41 = .ok (.goto (-35), 3) := by decide +kernel
theorem dX3_placesAbove_44 : decode cX3_placesAbove 44 = .ok (.iload 4, 2) := by decide +kernel
theorem dX3_placesAbove_46 : decode cX3_placesAbove 46 = .ok (.ireturn, 1) := by decide +kernel
set_option maxRecDepth 20000 in
theorem ggX3_waysRowByRow_X4_fillWith : GoodIn wsX3_waysRowByRow wsX4_fillWith := goodIn_r _ [7, 8, 9, 10, 11, 12, 71] rfl (by decide +kernel)
set_option maxRecDepth 20000 in
theorem gX3_waysRowByRow_X4_fillWith : GoodIn wsX3_waysRowByRow (wsV RX3 54 RX4 yX4_fillWith wsX4_fillWith) := goodIn_app (goodIn_of _ (by decide +kernel)) ggX3_waysRowByRow_X4_fillWith
set_option maxRecDepth 20000 in
theorem ggX3_waysRowByRow_X6_pinAt : GoodIn wsX3_waysRowByRow wsX6_pinAt := goodIn_r _ [15] rfl (by decide +kernel)
set_option maxRecDepth 20000 in
theorem gX3_waysRowByRow_X6_pinAt_n42 : GoodIn wsX3_waysRowByRow (wsX6_pinAt) := ggX3_waysRowByRow_X6_pinAt
set_option maxRecDepth 20000 in
theorem ggX3_waysRowByRow_X2_nextPlaces : GoodIn wsX3_waysRowByRow wsX2_nextPlaces := goodIn_r _ [20, 21, 22, 23, 19, 24, 25, 26, 27, 28, 6, 29, 8, 30, 14, 31, 32, 33, 34, 35, 36, 37, 38, 39, 40, 41, 42, 43, 44, 45, 46, 72, 73, 74, 75, 76, 77, 78, 79, 71] rfl (by decide +kernel)
set_option maxRecDepth 20000 in
theorem gX3_waysRowByRow_X2_nextPlaces : GoodIn wsX3_waysRowByRow (wsV RX3 46 RX2 yX2_nextPlaces wsX2_nextPlaces) := goodIn_app (goodIn_of _ (by decide +kernel)) ggX3_waysRowByRow_X2_nextPlaces
set_option maxRecDepth 20000 in
theorem ggX3_waysRowByRow_X4_at : GoodIn wsX3_waysRowByRow wsX4_at := goodIn_r _ [29, 8, 71] rfl (by decide +kernel)
set_option maxRecDepth 20000 in
theorem gX3_waysRowByRow_X4_at : GoodIn wsX3_waysRowByRow (wsV RX3 57 RX4 yX4_at wsX4_at) := goodIn_app (goodIn_of _ (by decide +kernel)) ggX3_waysRowByRow_X4_at
set_option maxRecDepth 20000 in
theorem ggX3_waysRowByRow_X3_passWaysOn : GoodIn wsX3_waysRowByRow wsX3_passWaysOn := goodIn_r _ [52, 2, 53, 14, 54, 55, 30, 31, 56, 57, 58, 6, 59, 8, 69, 70, 71] rfl (by decide +kernel)
set_option maxRecDepth 20000 in
theorem gX3_waysRowByRow_X3_passWaysOn : GoodIn wsX3_waysRowByRow (wsV RX3 60 RX3 yX3_passWaysOn wsX3_passWaysOn) := goodIn_app (goodIn_of _ (by decide +kernel)) ggX3_waysRowByRow_X3_passWaysOn
set_option maxRecDepth 20000 in
theorem ggX3_waysRowByRow_X4_copyFrom : GoodIn wsX3_waysRowByRow wsX4_copyFrom := goodIn_r _ [63, 8, 64, 41, 42, 43, 65, 66, 67, 68, 71] rfl (by decide +kernel)
set_option maxRecDepth 20000 in
theorem gX3_waysRowByRow_X4_copyFrom : GoodIn wsX3_waysRowByRow (wsV RX3 64 RX4 yX4_copyFrom wsX4_copyFrom) := goodIn_app (goodIn_of _ (by decide +kernel)) ggX3_waysRowByRow_X4_copyFrom
theorem dX3_waysRowByRow_0 : decode cX3_waysRowByRow 0 = .ok (.aload_n 0, 1) := by decide +kernel
theorem dX3_waysRowByRow_1 : decode cX3_waysRowByRow 1 = .ok (.getfield 14, 3) := by decide +kernel
theorem dX3_waysRowByRow_4 : decode cX3_waysRowByRow 4 = .ok (.iconst 1, 1) := by decide +kernel
theorem dX3_waysRowByRow_5 : decode cX3_waysRowByRow 5 = .ok (.invokevirtual 54, 3) := by decide +kernel
theorem dX3_waysRowByRow_8 : decode cX3_waysRowByRow 8 = .ok (.iconst 0, 1) := by decide +kernel
theorem dX3_waysRowByRow_9 : decode cX3_waysRowByRow 9 = .ok (.istore_n 3, 1) := by decide +kernel
theorem dX3_waysRowByRow_10 : decode cX3_waysRowByRow 10 = .ok (.iload_n 3, 1) := by decide +kernel
theorem dX3_waysRowByRow_11 : decode cX3_waysRowByRow 11 = .ok (.iconst 5, 1) := by decide +kernel
theorem dX3_waysRowByRow_12 : decode cX3_waysRowByRow 12 = .ok (.if_icmp .ge 67, 3) := by decide +kernel
theorem dX3_waysRowByRow_15 : decode cX3_waysRowByRow 15 = .ok (.aload_n 0, 1) := by decide +kernel
theorem dX3_waysRowByRow_16 : decode cX3_waysRowByRow 16 = .ok (.getfield 20, 3) := by decide +kernel
theorem dX3_waysRowByRow_19 : decode cX3_waysRowByRow 19 = .ok (.iconst 0, 1) := by decide +kernel
theorem dX3_waysRowByRow_20 : decode cX3_waysRowByRow 20 = .ok (.invokevirtual 54, 3) := by decide +kernel
theorem dX3_waysRowByRow_23 : decode cX3_waysRowByRow 23 = .ok (.iconst 0, 1) := by decide +kernel
theorem dX3_waysRowByRow_24 : decode cX3_waysRowByRow 24 = .ok (.istore 4, 2) := by decide +kernel
theorem dX3_waysRowByRow_26 : decode cX3_waysRowByRow 26 = .ok (.iload 4, 2) := by decide +kernel
theorem dX3_waysRowByRow_28 : decode cX3_waysRowByRow 28 = .ok (.bipush 7, 2) := by decide +kernel
theorem dX3_waysRowByRow_30 : decode cX3_waysRowByRow 30 = .ok (.if_icmp .ge 32, 3) := by decide +kernel
theorem dX3_waysRowByRow_33 : decode cX3_waysRowByRow 33 = .ok (.aload_n 0, 1) := by decide +kernel
theorem dX3_waysRowByRow_34 : decode cX3_waysRowByRow 34 = .ok (.aload_n 1, 1) := by decide +kernel
theorem dX3_waysRowByRow_35 : decode cX3_waysRowByRow 35 = .ok (.iload_n 3, 1) := by decide +kernel
theorem dX3_waysRowByRow_36 : decode cX3_waysRowByRow 36 = .ok (.iload 4, 2) := by decide +kernel
theorem dX3_waysRowByRow_38 : decode cX3_waysRowByRow 38 = .ok (.invokestatic 42, 3) := by decide +kernel
theorem dX3_waysRowByRow_41 : decode cX3_waysRowByRow 41 = .ok (.invokevirtual 46, 3) := by decide +kernel
theorem dX3_waysRowByRow_44 : decode cX3_waysRowByRow 44 = .ok (.aload_n 0, 1) := by decide +kernel
theorem dX3_waysRowByRow_45 : decode cX3_waysRowByRow 45 = .ok (.getfield 14, 3) := by decide +kernel
theorem dX3_waysRowByRow_48 : decode cX3_waysRowByRow 48 = .ok (.iload 4, 2) := by decide +kernel
theorem dX3_waysRowByRow_50 : decode cX3_waysRowByRow 50 = .ok (.invokevirtual 57, 3) := by decide +kernel
theorem dX3_waysRowByRow_53 : decode cX3_waysRowByRow 53 = .ok (.invokevirtual 60, 3) := by decide +kernel
theorem dX3_waysRowByRow_56 : decode cX3_waysRowByRow 56 = .ok (.iinc 4 1, 3) := by decide +kernel
theorem dX3_waysRowByRow_59 : decode cX3_waysRowByRow 59 = .ok (.goto (-33), 3) := by decide +kernel
theorem dX3_waysRowByRow_62 : decode cX3_waysRowByRow 62 = .ok (.aload_n 0, 1) := by decide +kernel
theorem dX3_waysRowByRow_63 : decode cX3_waysRowByRow 63 = .ok (.getfield 14, 3) := by decide +kernel
theorem dX3_waysRowByRow_66 : decode cX3_waysRowByRow 66 = .ok (.aload_n 0, 1) := by decide +kernel
theorem dX3_waysRowByRow_67 : decode cX3_waysRowByRow 67 = .ok (.getfield 20, 3) := by decide +kernel
theorem dX3_waysRowByRow_70 : decode cX3_waysRowByRow 70 = .ok (.invokevirtual 64, 3) := by decide +kernel
theorem dX3_waysRowByRow_73 : decode cX3_waysRowByRow 73 = .ok (.iinc 3 1, 3) := by decide +kernel
theorem dX3_waysRowByRow_76 : decode cX3_waysRowByRow 76 = .ok (.goto (-66), 3) := by decide +kernel
theorem dX3_waysRowByRow_79 : decode cX3_waysRowByRow 79 = .ok (.aload_n 0, 1) := by decide +kernel
theorem dX3_waysRowByRow_80 : decode cX3_waysRowByRow 80 = .ok (.getfield 14, 3) := by decide +kernel
theorem dX3_waysRowByRow_83 : decode cX3_waysRowByRow 83 = .ok (.iload_n 2, 1) := by decide +kernel
theorem dX3_waysRowByRow_84 : decode cX3_waysRowByRow 84 = .ok (.invokevirtual 57, 3) := by decide +kernel
theorem dX3_waysRowByRow_87 : decode cX3_waysRowByRow 87 = .ok (.ireturn, 1) := by decide +kernel
set_option maxRecDepth 20000 in
theorem ggX3_passWaysOn_X6_isIn : GoodIn wsX3_passWaysOn wsX6_isIn := goodIn_r _ [4, 5, 6, 3, 7] rfl (by decide +kernel)
set_option maxRecDepth 20000 in
theorem gX3_passWaysOn_X6_isIn_n34 : GoodIn wsX3_passWaysOn (wsX6_isIn) := ggX3_passWaysOn_X6_isIn
set_option maxRecDepth 20000 in
theorem ggX3_passWaysOn_X4_raise : GoodIn wsX3_passWaysOn wsX4_raise := goodIn_r _ [12, 13, 16] rfl (by decide +kernel)
set_option maxRecDepth 20000 in
theorem gX3_passWaysOn_X4_raise : GoodIn wsX3_passWaysOn (wsV RX3 68 RX4 yX4_raise wsX4_raise) := goodIn_app (goodIn_of _ (by decide +kernel)) ggX3_passWaysOn_X4_raise
theorem dX3_passWaysOn_0 : decode cX3_passWaysOn 0 = .ok (.iconst 0, 1) := by decide +kernel
theorem dX3_passWaysOn_1 : decode cX3_passWaysOn 1 = .ok (.istore_n 3, 1) := by decide +kernel
theorem dX3_passWaysOn_2 : decode cX3_passWaysOn 2 = .ok (.iload_n 3, 1) := by decide +kernel
theorem dX3_passWaysOn_3 : decode cX3_passWaysOn 3 = .ok (.bipush 7, 2) := by decide +kernel
theorem dX3_passWaysOn_5 : decode cX3_passWaysOn 5 = .ok (.if_icmp .ge 26, 3) := by decide +kernel
theorem dX3_passWaysOn_8 : decode cX3_passWaysOn 8 = .ok (.iload_n 1, 1) := by decide +kernel
theorem dX3_passWaysOn_9 : decode cX3_passWaysOn 9 = .ok (.iload_n 3, 1) := by decide +kernel
theorem dX3_passWaysOn_10 : decode cX3_passWaysOn 10 = .ok (.invokestatic 34, 3) := by decide +kernel
theorem dX3_passWaysOn_13 : decode cX3_passWaysOn 13 = .ok (.ifCond .eq 12, 3) := by decide +kernel
theorem dX3_passWaysOn_16 : decode cX3_passWaysOn 16 = .ok (.aload_n 0, 1) := by decide +kernel
theorem dX3_passWaysOn_17 : decode cX3_passWaysOn 17 = .ok (.getfield 20, 3) := by decide +kernel
theorem dX3_passWaysOn_20 : decode cX3_passWaysOn 20 = .ok (.iload_n 3, 1) := by decide +kernel
theorem dX3_passWaysOn_21 : decode cX3_passWaysOn 21 = .ok (.iload_n 2, 1) := by decide +kernel
theorem dX3_passWaysOn_22 : decode cX3_passWaysOn 22 = .ok (.invokevirtual 68, 3) := by decide +kernel
theorem dX3_passWaysOn_25 : decode cX3_passWaysOn 25 = .ok (.iinc 3 1, 3) := by decide +kernel
theorem dX3_passWaysOn_28 : decode cX3_passWaysOn 28 = .ok (.goto (-26), 3) := by decide +kernel
theorem dX3_passWaysOn_31 : decode cX3_passWaysOn 31 = .ok (.return_, 1) := by decide +kernel
