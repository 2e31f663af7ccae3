set_option maxRecDepth 20000 in
theorem ggX1_init_X4_init : GoodIn wsX1_init wsX4_init := goodIn_r _ [11, 12, 2, 3, 13, 14, 15, 16, 17, 18, 19] rfl (by decide +kernel)
set_option maxRecDepth 20000 in
theorem gX1_init_X4_init : GoodIn wsX1_init (wsX4_init) := ggX1_init_X4_init
theorem dX1_init_0 : decode cX1_init 0 = .ok (.aload_n 0, 1) := by decide +kernel
theorem dX1_init_1 : decode cX1_init 1 = .ok (.invokespecial 3, 3) := by decide +kernel
theorem dX1_init_4 : decode cX1_init 4 = .ok (.aload_n 0, 1) := by decide +kernel
theorem dX1_init_5 : decode cX1_init 5 = .ok (.new 9, 3) := by decide +kernel
theorem dX1_init_8 : decode cX1_init 8 = .ok (.dup, 1) := by decide +kernel
theorem dX1_init_9 : decode cX1_init 9 = .ok (.bipush 60, 2) := by decide +kernel
theorem dX1_init_11 : decode cX1_init 11 = .ok (.invokespecial 11, 3) := by decide +kernel
theorem dX1_init_14 : decode cX1_init 14 = .ok (.putfield 14, 3) := by decide +kernel
theorem dX1_init_17 : decode cX1_init 17 = .ok (.aload_n 0, 1) := by decide +kernel
theorem dX1_init_18 : decode cX1_init 18 = .ok (.iconst 0, 1) := by decide +kernel
theorem dX1_init_19 : decode cX1_init 19 = .ok (.putfield 20, 3) := by decide +kernel
theorem dX1_init_22 : decode cX1_init 22 = .ok (.return_, 1) := by decide +kernel
set_option maxRecDepth 20000 in
theorem ggX1_write_X4_put : GoodIn wsX1_write wsX4_put := goodIn_r _ [7, 8, 11] rfl (by decide +kernel)
set_option maxRecDepth 20000 in
theorem gX1_write_X4_put : GoodIn wsX1_write (wsV RX1 24 RX4 yX4_put wsX4_put) := goodIn_app (goodIn_of _ (by decide +kernel)) ggX1_write_X4_put
theorem dX1_write_0 : decode cX1_write 0 = .ok (.aload_n 0, 1) := by decide +kernel
theorem dX1_write_1 : decode cX1_write 1 = .ok (.getfield 14, 3) := by decide +kernel
theorem dX1_write_4 : decode cX1_write 4 = .ok (.aload_n 0, 1) := by decide +kernel
theorem dX1_write_5 : decode cX1_write 5 = .ok (.getfield 20, 3) := by decide +kernel
theorem dX1_write_8 : decode cX1_write 8 = .ok (.iload_n 1, 1) := by decide +kernel
theorem dX1_write_9 : decode cX1_write 9 = .ok (.invokevirtual 24, 3) := by decide +kernel
theorem dX1_write_12 : decode cX1_write 12 = .ok (.aload_n 0, 1) := by decide +kernel
theorem dX1_write_13 : decode cX1_write 13 = .ok (.dup, 1) := by decide +kernel
theorem dX1_write_14 : decode cX1_write 14 = .ok (.getfield 20, 3) := by decide +kernel
theorem dX1_write_17 : decode cX1_write 17 = .ok (.iconst 1, 1) := by decide +kernel
theorem dX1_write_18 : decode cX1_write 18 = .ok (.iadd, 1) := by decide +kernel
theorem dX1_write_19 : decode cX1_write 19 = .ok (.putfield 20, 3) := by decide +kernel
theorem dX1_write_22 : decode cX1_write 22 = .ok (.return_, 1) := by decide +kernel
theorem dX1_wipe_0 : decode cX1_wipe 0 = .ok (.aload_n 0, 1) := by decide +kernel
theorem dX1_wipe_1 : decode cX1_wipe 1 = .ok (.iconst 0, 1) := by decide +kernel
theorem dX1_wipe_2 : decode cX1_wipe 2 = .ok (.putfield 20, 3) := by decide +kernel
theorem dX1_wipe_5 : decode cX1_wipe 5 = .ok (.return_, 1) := by decide +kernel
set_option maxRecDepth 20000 in
theorem ggX1_codeAt_X4_at : GoodIn wsX1_codeAt wsX4_at := goodIn_r _ [7, 8, 11] rfl (by decide +kernel)
set_option maxRecDepth 20000 in
theorem gX1_codeAt_X4_at : GoodIn wsX1_codeAt (wsV RX1 28 RX4 yX4_at wsX4_at) := goodIn_app (goodIn_of _ (by decide +kernel)) ggX1_codeAt_X4_at
theorem dX1_codeAt_0 : decode cX1_codeAt 0 = .ok (.iload_n 1, 1) := by decide +kernel
theorem dX1_codeAt_1 : decode cX1_codeAt 1 = .ok (.aload_n 0, 1) := by decide +kernel
theorem dX1_codeAt_2 : decode cX1_codeAt 2 = .ok (.getfield 20, 3) := by decide +kernel
theorem dX1_codeAt_5 : decode cX1_codeAt 5 = .ok (.if_icmp .ge 14, 3) := by decide +kernel
theorem dX1_codeAt_8 : decode cX1_codeAt 8 = .ok (.aload_n 0, 1) := by decide +kernel
theorem dX1_codeAt_9 : decode cX1_codeAt 9 = .ok (.getfield 14, 3) := by decide +kernel
theorem dX1_codeAt_12 : decode cX1_codeAt 12 = .ok (.iload_n 1, 1) := by decide +kernel
theorem dX1_codeAt_13 : decode cX1_codeAt 13 = .ok (.invokevirtual 28, 3) := by decide +kernel
theorem dX1_codeAt_16 : decode cX1_codeAt 16 = .ok (.goto 4, 3) := by decide +kernel
theorem dX1_codeAt_19 : decode cX1_codeAt 19 = .ok (.iconst 0, 1) := by decide +kernel
theorem dX1_codeAt_20 : decode cX1_codeAt 20 = .ok (.ireturn, 1) := by decide +kernel
set_option maxRecDepth 20000 in
theorem ggX1_faultAsBoard_X1_codeAt : GoodIn wsX1_faultAsBoard wsX1_codeAt := goodIn_r _ [6, 1, 7, 8, 9, 10, 11, 12, 13, 17, 18, 19] rfl (by decide +kernel)
set_option maxRecDepth 20000 in
theorem gX1_faultAsBoard_X1_codeAt : GoodIn wsX1_faultAsBoard (wsV RX1 32 RX1 yX1_codeAt wsX1_codeAt) := goodIn_app (goodIn_of _ (by decide +kernel)) ggX1_faultAsBoard_X1_codeAt
set_option maxRecDepth 20000 in
theorem ggX1_faultAsBoard_X1_isPinSign : GoodIn wsX1_faultAsBoard wsX1_isPinSign := goodIn_r _ [16] rfl (by decide +kernel)
set_option maxRecDepth 20000 in
theorem gX1_faultAsBoard_X1_isPinSign : GoodIn wsX1_faultAsBoard (va_wsS RX1 35 yX1_isPinSign wsX1_isPinSign) := goodIn_app (goodIn_of _ (by decide +kernel)) ggX1_faultAsBoard_X1_isPinSign
theorem dX1_faultAsBoard_0 : decode cX1_faultAsBoard 0 = .ok (.iconst 0, 1) := by decide +kernel
theorem dX1_faultAsBoard_1 : decode cX1_faultAsBoard 1 = .ok (.istore_n 1, 1) := by decide +kernel
theorem dX1_faultAsBoard_2 : decode cX1_faultAsBoard 2 = .ok (.iload_n 1, 1) := by decide +kernel
theorem dX1_faultAsBoard_3 : decode cX1_faultAsBoard 3 = .ok (.aload_n 0, 1) := by decide +kernel
theorem dX1_faultAsBoard_4 : decode cX1_faultAsBoard 4 = .ok (.getfield 20, 3) := by decide +kernel
theorem dX1_faultAsBoard_7 : decode cX1_faultAsBoard 7 = .ok (.if_icmp .ge 28, 3) := by decide +kernel
theorem dX1_faultAsBoard_10 : decode cX1_faultAsBoard 10 = .ok (.iload_n 1, 1) := by decide +kernel
theorem dX1_faultAsBoard_11 : decode cX1_faultAsBoard 11 = .ok (.bipush 35, 2) := by decide +kernel
theorem dX1_faultAsBoard_13 : decode cX1_faultAsBoard 13 = .ok (.if_icmp .ge 14, 3) := by decide +kernel
theorem dX1_faultAsBoard_16 : decode cX1_faultAsBoard 16 = .ok (.aload_n 0, 1) := by decide +kernel
theorem dX1_faultAsBoard_17 : decode cX1_faultAsBoard 17 = .ok (.iload_n 1, 1) := by decide +kernel
theorem dX1_faultAsBoard_18 : decode cX1_faultAsBoard 18 = .ok (.invokevirtual 32, 3) := by decide +kernel
theorem dX1_faultAsBoard_21 : decode cX1_faultAsBoard 21 = .ok (.invokestatic 35, 3) := by decide +kernel
theorem dX1_faultAsBoard_24 : decode cX1_faultAsBoard 24 = .ok (.ifCond .ne 5, 3) := by decide +kernel
theorem dX1_faultAsBoard_27 : decode cX1_faultAsBoard 27 = .ok (.iload_n 1, 1) := by decide +kernel
theorem dX1_faultAsBoard_28 : decode cX1_faultAsBoard 28 = .ok (.ireturn, 1) := by decide +kernel
theorem dX1_faultAsBoard_29 : decode cX1_faultAsBoard 29 = .ok (.iinc 1 1, 3) := by decide +kernel
theorem dX1_faultAsBoard_32 : decode cX1_faultAsBoard 32 = .ok (.goto (-30), 3) := by decide +kernel
theorem dX1_faultAsBoard_35 : decode cX1_faultAsBoard 35 = .ok (.aload_n 0, 1) := by decide +kernel
theorem dX1_faultAsBoard_36 : decode cX1_faultAsBoard 36 = .ok (.getfield 20, 3) := by decide +kernel
theorem dX1_faultAsBoard_39 : decode cX1_faultAsBoard 39 = .ok (.bipush 35, 2) := by decide +kernel
theorem dX1_faultAsBoard_41 : decode cX1_faultAsBoard 41 = .ok (.if_icmp .ge 10, 3) := by decide +kernel
theorem dX1_faultAsBoard_44 : decode cX1_faultAsBoard 44 = .ok (.aload_n 0, 1) := by decide +kernel
theorem dX1_faultAsBoard_45 : decode cX1_faultAsBoard 45 = .ok (.getfield 20, 3) := by decide +kernel
theorem dX1_faultAsBoard_48 : decode cX1_faultAsBoard 48 = .ok (.goto 5, 3) := by decide +kernel
theorem dX1_faultAsBoard_51 : decode cX1_faultAsBoard 51 = .ok (.bipush (-4), 2) := by decide +kernel
theorem dX1_faultAsBoard_53 : decode cX1_faultAsBoard 53 = .ok (.ireturn, 1) := by decide +kernel
set_option maxRecDepth 20000 in
theorem ggX1_faultAsShots_X1_codeAt : GoodIn wsX1_faultAsShots wsX1_codeAt := goodIn_r _ [6, 1, 7, 8, 9, 10, 11, 12, 13, 23, 24, 25] rfl (by decide +kernel)
set_option maxRecDepth 20000 in
theorem gX1_faultAsShots_X1_codeAt : GoodIn wsX1_faultAsShots (wsV RX1 32 RX1 yX1_codeAt wsX1_codeAt) := goodIn_app (goodIn_of _ (by decide +kernel)) ggX1_faultAsShots_X1_codeAt
set_option maxRecDepth 20000 in
theorem ggX1_faultAsShots_X1_mayFollow : GoodIn wsX1_faultAsShots wsX1_mayFollow := goodIn_r _ [16, 17, 18, 5, 19, 20, 21, 22] rfl (by decide +kernel)
set_option maxRecDepth 20000 in
theorem gX1_faultAsShots_X1_mayFollow : GoodIn wsX1_faultAsShots (va_wsS RX1 39 yX1_mayFollow wsX1_mayFollow) := goodIn_app (goodIn_of _ (by decide +kernel)) ggX1_faultAsShots_X1_mayFollow
theorem dX1_faultAsShots_0 : decode cX1_faultAsShots 0 = .ok (.bipush 44, 2) := by decide +kernel
theorem dX1_faultAsShots_2 : decode cX1_faultAsShots 2 = .ok (.istore_n 1, 1) := by decide +kernel
theorem dX1_faultAsShots_3 : decode cX1_faultAsShots 3 = .ok (.iconst 0, 1) := by decide +kernel
theorem dX1_faultAsShots_4 : decode cX1_faultAsShots 4 = .ok (.istore_n 2, 1) := by decide +kernel
theorem dX1_faultAsShots_5 : decode cX1_faultAsShots 5 = .ok (.iload_n 2, 1) := by decide +kernel
theorem dX1_faultAsShots_6 : decode cX1_faultAsShots 6 = .ok (.aload_n 0, 1) := by decide +kernel
theorem dX1_faultAsShots_7 : decode cX1_faultAsShots 7 = .ok (.getfield 20, 3) := by decide +kernel
theorem dX1_faultAsShots_10 : decode cX1_faultAsShots 10 = .ok (.if_icmp .ge 27, 3) := by decide +kernel
theorem dX1_faultAsShots_13 : decode cX1_faultAsShots 13 = .ok (.aload_n 0, 1) := by decide +kernel
theorem dX1_faultAsShots_14 : decode cX1_faultAsShots 14 = .ok (.iload_n 2, 1) := by decide +kernel
theorem dX1_faultAsShots_15 : decode cX1_faultAsShots 15 = .ok (.invokevirtual 32, 3) := by decide +kernel
theorem dX1_faultAsShots_18 : decode cX1_faultAsShots 18 = .ok (.istore_n 3, 1) := by decide +kernel
theorem dX1_faultAsShots_19 : decode cX1_faultAsShots 19 = .ok (.iload_n 1, 1) := by decide +kernel
theorem dX1_faultAsShots_20 : decode cX1_faultAsShots 20 = .ok (.iload_n 3, 1) := by decide +kernel
theorem dX1_faultAsShots_21 : decode cX1_faultAsShots 21 = .ok (.invokestatic 39, 3) := by decide +kernel
theorem dX1_faultAsShots_24 : decode cX1_faultAsShots 24 = .ok (.ifCond .ne 5, 3) := by decide +kernel
theorem dX1_faultAsShots_27 : decode cX1_faultAsShots 27 = .ok (.iload_n 2, 1) := by decide +kernel
theorem dX1_faultAsShots_28 : decode cX1_faultAsShots 28 = .ok (.ireturn, 1) := by decide +kernel
theorem dX1_faultAsShots_29 : decode cX1_faultAsShots 29 = .ok (.iload_n 3, 1) := by decide +kernel
theorem dX1_faultAsShots_30 : decode cX1_faultAsShots 30 = .ok (.istore_n 1, 1) := by decide +kernel
theorem dX1_faultAsShots_31 : decode cX1_faultAsShots 31 = .ok (.iinc 2 1, 3) := by decide +kernel
theorem dX1_faultAsShots_34 : decode cX1_faultAsShots 34 = .ok (.goto (-29), 3) := by decide +kernel
theorem dX1_faultAsShots_37 : decode cX1_faultAsShots 37 = .ok (.iload_n 1, 1) := by decide +kernel
theorem dX1_faultAsShots_38 : decode cX1_faultAsShots 38 = .ok (.bipush 44, 2) := by decide +kernel
theorem dX1_faultAsShots_40 : decode cX1_faultAsShots 40 = .ok (.if_icmp .ne 10, 3) := by decide +kernel
theorem dX1_faultAsShots_43 : decode cX1_faultAsShots 43 = .ok (.aload_n 0, 1) := by decide +kernel
theorem dX1_faultAsShots_44 : decode cX1_faultAsShots 44 = .ok (.getfield 20, 3) := by decide +kernel
theorem dX1_faultAsShots_47 : decode cX1_faultAsShots 47 = .ok (.goto 5, 3) := by decide +kernel
theorem dX1_faultAsShots_50 : decode cX1_faultAsShots 50 = .ok (.bipush (-4), 2) := by decide +kernel
theorem dX1_faultAsShots_52 : decode cX1_faultAsShots 52 = .ok (.ireturn, 1) := by decide +kernel
theorem dX1_isPinSign_0 : decode cX1_isPinSign 0 = .ok (.iload_n 0, 1) := by decide +kernel
theorem dX1_isPinSign_1 : decode cX1_isPinSign 1 = .ok (.bipush 60, 2) := by decide +kernel
theorem dX1_isPinSign_3 : decode cX1_isPinSign 3 = .ok (.if_icmp .eq 27, 3) := by decide +kernel
theorem dX1_isPinSign_6 : decode cX1_isPinSign 6 = .ok (.iload_n 0, 1) := by decide +kernel
theorem dX1_isPinSign_7 : decode cX1_isPinSign 7 = .ok (.bipush 124, 2) := by decide +kernel
theorem dX1_isPinSign_9 : decode cX1_isPinSign 9 = .ok (.if_icmp .eq 21, 3) := by decide +kernel
theorem dX1_isPinSign_12 : decode cX1_isPinSign 12 = .ok (.iload_n 0, 1) := by decide +kernel
theorem dX1_isPinSign_13 : decode cX1_isPinSign 13 = .ok (.bipush 62, 2) := by decide +kernel
theorem dX1_isPinSign_15 : decode cX1_isPinSign 15 = .ok (.if_icmp .eq 15, 3) := by decide +kernel
theorem dX1_isPinSign_18 : decode cX1_isPinSign 18 = .ok (.iload_n 0, 1) := by decide +kernel
theorem dX1_isPinSign_19 : decode cX1_isPinSign 19 = .ok (.bipush 46, 2) := by decide +kernel
theorem dX1_isPinSign_21 : decode cX1_isPinSign 21 = .ok (.if_icmp .eq 9, 3) := by decide +kernel
theorem dX1_isPinSign_24 : decode cX1_isPinSign 24 = .ok (.iload_n 0, 1) := by decide +kernel
theorem dX1_isPinSign_25 : decode cX1_isPinSign 25 = .ok (.bipush 111, 2) := by decide +kernel
theorem dX1_isPinSign_27 : decode cX1_isPinSign 27 = .ok (.if_icmp .ne 7, 3) := by decide +kernel
theorem dX1_isPinSign_30 : decode cX1_isPinSign 30 = .ok (.iconst 1, 1) := by decide +kernel
theorem dX1_isPinSign_31 : decode cX1_isPinSign 31 = .ok (.goto 4, 3) := by decide +kernel
theorem dX1_isPinSign_34 : decode cX1_isPinSign 34 = .ok (.iconst 0, 1) := by decide +kernel
theorem dX1_isPinSign_35 : decode cX1_isPinSign 35 = .ok (.ireturn, 1) := by decide +kernel
set_option maxRecDepth 20000 in
theorem ggX1_isPlace_X6_isWithin : GoodIn wsX1_isPlace wsX6_isWithin := goodIn_r _ [3] rfl (by decide +kernel)
set_option maxRecDepth 20000 in
theorem gX1_isPlace_X6_isWithin_n43 : GoodIn wsX1_isPlace (wsX6_isWithin) := ggX1_isPlace_X6_isWithin
theorem dX1_isPlace_0 : decode cX1_isPlace 0 = .ok (.iload_n 0, 1) := by decide +kernel
theorem dX1_isPlace_1 : decode cX1_isPlace 1 = .ok (.bipush 48, 2) := by decide +kernel
theorem dX1_isPlace_3 : decode cX1_isPlace 3 = .ok (.bipush 54, 2) := by decide +kernel
theorem dX1_isPlace_5 : decode cX1_isPlace 5 = .ok (.invokestatic 43, 3) := by decide +kernel
theorem dX1_isPlace_8 : decode cX1_isPlace 8 = .ok (.ireturn, 1) := by decide +kernel
set_option maxRecDepth 20000 in
theorem ggX1_mayFollow_X1_isPlace : GoodIn wsX1_mayFollow wsX1_isPlace := goodIn_r _ [4, 5, 6, 7] rfl (by decide +kernel)
set_option maxRecDepth 20000 in
theorem gX1_mayFollow_X1_isPlace : GoodIn wsX1_mayFollow (va_wsS RX1 47 yX1_isPlace wsX1_isPlace) := goodIn_app (goodIn_of _ (by decide +kernel)) ggX1_mayFollow_X1_isPlace
theorem dX1_mayFollow_0 : decode cX1_mayFollow 0 = .ok (.iload_n 0, 1) := by decide +kernel
theorem dX1_mayFollow_1 : decode cX1_mayFollow 1 = .ok (.bipush 44, 2) := by decide +kernel
theorem dX1_mayFollow_3 : decode cX1_mayFollow 3 = .ok (.if_icmp .ne 22, 3) := by decide +kernel
theorem dX1_mayFollow_6 : decode cX1_mayFollow 6 = .ok (.iload_n 1, 1) := by decide +kernel
theorem dX1_mayFollow_7 : decode cX1_mayFollow 7 = .ok (.invokestatic 47, 3) := by decide +kernel
theorem dX1_mayFollow_10 : decode cX1_mayFollow 10 = .ok (.ifCond .ne 9, 3) := by decide +kernel
theorem dX1_mayFollow_13 : decode cX1_mayFollow 13 = .ok (.iload_n 1, 1) := by decide +kernel
theorem dX1_mayFollow_14 : decode cX1_mayFollow 14 = .ok (.bipush 101, 2) := by decide +kernel
theorem dX1_mayFollow_16 : decode cX1_mayFollow 16 = .ok (.if_icmp .ne 7, 3) := by decide +kernel
theorem dX1_mayFollow_19 : decode cX1_mayFollow 19 = .ok (.iconst 1, 1) := by decide +kernel
theorem dX1_mayFollow_20 : decode cX1_mayFollow 20 = .ok (.goto 4, 3) := by decide +kernel
theorem dX1_mayFollow_23 : decode cX1_mayFollow 23 = .ok (.iconst 0, 1) := by decide +kernel
theorem dX1_mayFollow_24 : decode cX1_mayFollow 24 = .ok (.ireturn, 1) := by decide +kernel
theorem dX1_mayFollow_25 : decode cX1_mayFollow 25 = .ok (.iload_n 1, 1) := by decide +kernel
theorem dX1_mayFollow_26 : decode cX1_mayFollow 26 = .ok (.bipush 44, 2) := by decide +kernel
theorem dX1_mayFollow_28 : decode cX1_mayFollow 28 = .ok (.if_icmp .eq 16, 3) := by decide +kernel
theorem dX1_mayFollow_31 : decode cX1_mayFollow 31 = .ok (.iload_n 1, 1) := by decide +kernel
theorem dX1_mayFollow_32 : decode cX1_mayFollow 32 = .ok (.bipush 33, 2) := by decide +kernel
theorem dX1_mayFollow_34 : decode cX1_mayFollow 34 = .ok (.if_icmp .ne 14, 3) := by decide +kernel
theorem dX1_mayFollow_37 : decode cX1_mayFollow 37 = .ok (.iload_n 0, 1) := by decide +kernel
theorem dX1_mayFollow_38 : decode cX1_mayFollow 38 = .ok (.invokestatic 47, 3) := by decide +kernel
theorem dX1_mayFollow_41 : decode cX1_mayFollow 41 = .ok (.ifCond .eq 7, 3) := by decide +kernel
theorem dX1_mayFollow_44 : decode cX1_mayFollow 44 = .ok (.iconst 1, 1) := by decide +kernel
theorem dX1_mayFollow_45 : decode cX1_mayFollow 45 = .ok (.goto 4, 3) := by decide +kernel
theorem dX1_mayFollow_48 : decode cX1_mayFollow 48 = .ok (.iconst 0, 1) := by decide +kernel
theorem dX1_mayFollow_49 : decode cX1_mayFollow 49 = .ok (.ireturn, 1) := by decide +kernel
