set_option maxRecDepth 20000 in
theorem ggX7_init_X5_init : GoodIn wsX7_init wsX5_init := goodIn_r _ [13, 14, 2, 3, 4, 15, 20] (by decide +kernel) (by decide +kernel)
set_option maxRecDepth 20000 in
theorem gX7_init_X5_init_n21 : GoodIn wsX7_init (wsX5_init) := ggX7_init_X5_init
theorem dX7_init_0 : decode cX7_init 0 = .ok (.aload_n 0, 1) := by decide +kernel
theorem dX7_init_1 : decode cX7_init 1 = .ok (.invokespecial 3, 3) := by decide +kernel
theorem dX7_init_4 : decode cX7_init 4 = .ok (.aload_n 0, 1) := by decide +kernel
theorem dX7_init_5 : decode cX7_init 5 = .ok (.bipush 21, 2) := by decide +kernel
theorem dX7_init_7 : decode cX7_init 7 = .ok (.newarray .int, 2) := by decide +kernel
theorem dX7_init_9 : decode cX7_init 9 = .ok (.putfield 9, 3) := by decide +kernel
theorem dX7_init_12 : decode cX7_init 12 = .ok (.aload_n 0, 1) := by decide +kernel
theorem dX7_init_13 : decode cX7_init 13 = .ok (.bipush 21, 2) := by decide +kernel
theorem dX7_init_15 : decode cX7_init 15 = .ok (.anewarray 15, 3) := by decide +kernel
theorem dX7_init_18 : decode cX7_init 18 = .ok (.putfield 17, 3) := by decide +kernel
theorem dX7_init_21 : decode cX7_init 21 = .ok (.aload_n 0, 1) := by decide +kernel
theorem dX7_init_22 : decode cX7_init 22 = .ok (.new 15, 3) := by decide +kernel
theorem dX7_init_25 : decode cX7_init 25 = .ok (.dup, 1) := by decide +kernel
theorem dX7_init_26 : decode cX7_init 26 = .ok (.invokespecial 21, 3) := by decide +kernel
theorem dX7_init_29 : decode cX7_init 29 = .ok (.putfield 22, 3) := by decide +kernel
theorem dX7_init_32 : decode cX7_init 32 = .ok (.aload_n 0, 1) := by decide +kernel
theorem dX7_init_33 : decode cX7_init 33 = .ok (.new 15, 3) := by decide +kernel
theorem dX7_init_36 : decode cX7_init 36 = .ok (.dup, 1) := by decide +kernel
theorem dX7_init_37 : decode cX7_init 37 = .ok (.invokespecial 21, 3) := by decide +kernel
theorem dX7_init_40 : decode cX7_init 40 = .ok (.putfield 26, 3) := by decide +kernel
theorem dX7_init_43 : decode cX7_init 43 = .ok (.iconst 0, 1) := by decide +kernel
theorem dX7_init_44 : decode cX7_init 44 = .ok (.istore_n 1, 1) := by decide +kernel
theorem dX7_init_45 : decode cX7_init 45 = .ok (.iload_n 1, 1) := by decide +kernel
theorem dX7_init_46 : decode cX7_init 46 = .ok (.aload_n 0, 1) := by decide +kernel
theorem dX7_init_47 : decode cX7_init 47 = .ok (.getfield 17, 3) := by decide +kernel
theorem dX7_init_50 : decode cX7_init 50 = .ok (.arraylength, 1) := by decide +kernel
theorem dX7_init_51 : decode cX7_init 51 = .ok (.if_icmp .ge 22, 3) := by decide +kernel
theorem dX7_init_54 : decode cX7_init 54 = .ok (.aload_n 0, 1) := by decide +kernel
theorem dX7_init_55 : decode cX7_init 55 = .ok (.getfield 17, 3) := by decide +kernel
theorem dX7_init_58 : decode cX7_init 58 = .ok (.iload_n 1, 1) := by decide +kernel
theorem dX7_init_59 : decode cX7_init 59 = .ok (.new 15, 3) := by decide +kernel
theorem dX7_init_62 : decode cX7_init 62 = .ok (.dup, 1) := by decide +kernel
theorem dX7_init_63 : decode cX7_init 63 = .ok (.invokespecial 21, 3) := by decide +kernel
theorem dX7_init_66 : decode cX7_init 66 = .ok (.aastore, 1) := by decide +kernel
theorem dX7_init_67 : decode cX7_init 67 = .ok (.iinc 1 1, 3) := by decide +kernel
theorem dX7_init_70 : decode cX7_init 70 = .ok (.goto (-25), 3) := by decide +kernel
theorem dX7_init_73 : decode cX7_init 73 = .ok (.return_, 1) := by decide +kernel
set_option maxRecDepth 20000 in
theorem ggX7_setPay_X10_isWithin : GoodIn wsX7_setPay wsX10_isWithin := goodIn_r _ [5] (by decide +kernel) (by decide +kernel)
set_option maxRecDepth 20000 in
theorem gX7_setPay_X10_isWithin_n31 : GoodIn wsX7_setPay (wsX10_isWithin) := ggX7_setPay_X10_isWithin
theorem dX7_setPay_0 : decode cX7_setPay 0 = .ok (.iload_n 1, 1) := by decide +kernel
theorem dX7_setPay_1 : decode cX7_setPay 1 = .ok (.i2l, 1) := by decide +kernel
theorem dX7_setPay_2 : decode cX7_setPay 2 = .ok (.lconst 1, 1) := by decide +kernel
theorem dX7_setPay_3 : decode cX7_setPay 3 = .ok (.ldc2_w 29, 3) := by decide +kernel
theorem dX7_setPay_6 : decode cX7_setPay 6 = .ok (.invokestatic 31, 3) := by decide +kernel
theorem dX7_setPay_9 : decode cX7_setPay 9 = .ok (.ifCond .eq 10, 3) := by decide +kernel
theorem dX7_setPay_12 : decode cX7_setPay 12 = .ok (.aload_n 0, 1) := by decide +kernel
theorem dX7_setPay_13 : decode cX7_setPay 13 = .ok (.getfield 9, 3) := by decide +kernel
theorem dX7_setPay_16 : decode cX7_setPay 16 = .ok (.iload_n 1, 1) := by decide +kernel
theorem dX7_setPay_17 : decode cX7_setPay 17 = .ok (.iload_n 2, 1) := by decide +kernel
theorem dX7_setPay_18 : decode cX7_setPay 18 = .ok (.iastore, 1) := by decide +kernel
theorem dX7_setPay_19 : decode cX7_setPay 19 = .ok (.return_, 1) := by decide +kernel
set_option maxRecDepth 20000 in
theorem ggX7_meanInto_X7_comeBackTo : GoodIn wsX7_meanInto wsX7_comeBackTo := goodIn_r _ [6, 1, 7, 8, 9, 10, 11, 12, 13, 14, 15, 16, 17, 18, 19, 20, 21, 22, 23, 24, 25, 5, 26, 27, 28, 29, 30, 31, 32, 33, 34, 35, 36, 37, 38, 39, 40, 41, 42, 43, 44, 45, 46, 47, 48, 49, 50, 51, 52, 53, 54, 55, 90, 91, 92, 93, 94] (by decide +kernel) (by decide +kernel)
set_option maxRecDepth 20000 in
theorem gX7_meanInto_X7_comeBackTo : GoodIn wsX7_meanInto (wsV RX7 35 RX7 yX7_comeBackTo wsX7_comeBackTo) := goodIn_app (goodIn_of _ (by decide +kernel)) ggX7_meanInto_X7_comeBackTo
set_option maxRecDepth 20000 in
theorem ggX7_meanInto_X7_goAhead : GoodIn wsX7_meanInto wsX7_goAhead := goodIn_r _ [26, 27, 7, 8, 9, 10, 11, 1, 13, 14, 15, 16, 17, 18, 19, 20, 21, 22, 28, 29, 30, 31, 32, 33, 34, 35, 36, 37, 38, 39, 40, 41, 42, 43, 44, 45, 46, 47, 90, 91, 92, 93, 94] (by decide +kernel) (by decide +kernel)
set_option maxRecDepth 20000 in
theorem gX7_meanInto_X7_goAhead : GoodIn wsX7_meanInto (wsV RX7 39 RX7 yX7_goAhead wsX7_goAhead) := goodIn_app (goodIn_of _ (by decide +kernel)) ggX7_meanInto_X7_goAhead
set_option maxRecDepth 20000 in
theorem ggX7_meanInto_X8_put : GoodIn wsX7_meanInto wsX8_put := goodIn_r _ [60, 61, 62, 63, 64, 41, 42, 16, 43, 21, 44, 45, 46, 47, 65, 14, 15, 17, 18, 19, 9, 20, 22, 66, 67, 68, 69, 70, 71, 72, 73, 95, 96, 97, 98, 99, 94] (by decide +kernel) (by decide +kernel)
set_option maxRecDepth 20000 in
theorem gX7_meanInto_X8_put : GoodIn wsX7_meanInto (wsV RX7 43 RX8 yX8_put wsX8_put) := goodIn_app (goodIn_of _ (by decide +kernel)) ggX7_meanInto_X8_put
set_option maxRecDepth 20000 in
theorem ggX7_meanInto_X8_over : GoodIn wsX7_meanInto wsX8_over := goodIn_r _ [77, 61, 62, 78, 79, 80, 16, 81, 22, 21, 82, 83, 59, 84, 85, 86, 87, 88, 89, 53, 54, 55, 95, 96, 97, 98, 99, 94] (by decide +kernel) (by decide +kernel)
set_option maxRecDepth 20000 in
theorem gX7_meanInto_X8_over : GoodIn wsX7_meanInto (wsV RX7 49 RX8 yX8_over wsX8_over) := goodIn_app (goodIn_of _ (by decide +kernel)) ggX7_meanInto_X8_over
theorem dX7_meanInto_0 : decode cX7_meanInto 0 = .ok (.aload_n 0, 1) := by decide +kernel
theorem dX7_meanInto_1 : decode cX7_meanInto 1 = .ok (.iload_n 1, 1) := by decide +kernel
theorem dX7_meanInto_2 : decode cX7_meanInto 2 = .ok (.iconst 1, 1) := by decide +kernel
theorem dX7_meanInto_3 : decode cX7_meanInto 3 = .ok (.invokevirtual 35, 3) := by decide +kernel
theorem dX7_meanInto_6 : decode cX7_meanInto 6 = .ok (.aload_n 0, 1) := by decide +kernel
theorem dX7_meanInto_7 : decode cX7_meanInto 7 = .ok (.iconst 1, 1) := by decide +kernel
theorem dX7_meanInto_8 : decode cX7_meanInto 8 = .ok (.invokevirtual 39, 3) := by decide +kernel
theorem dX7_meanInto_11 : decode cX7_meanInto 11 = .ok (.aload_n 2, 1) := by decide +kernel
theorem dX7_meanInto_12 : decode cX7_meanInto 12 = .ok (.aload_n 0, 1) := by decide +kernel
theorem dX7_meanInto_13 : decode cX7_meanInto 13 = .ok (.getfield 22, 3) := by decide +kernel
theorem dX7_meanInto_16 : decode cX7_meanInto 16 = .ok (.invokevirtual 43, 3) := by decide +kernel
theorem dX7_meanInto_19 : decode cX7_meanInto 19 = .ok (.iconst 2, 1) := by decide +kernel
theorem dX7_meanInto_20 : decode cX7_meanInto 20 = .ok (.istore_n 3, 1) := by decide +kernel
theorem dX7_meanInto_21 : decode cX7_meanInto 21 = .ok (.iload_n 3, 1) := by decide +kernel
theorem dX7_meanInto_22 : decode cX7_meanInto 22 = .ok (.iload_n 1, 1) := by decide +kernel
theorem dX7_meanInto_23 : decode cX7_meanInto 23 = .ok (.if_icmp .gt 14, 3) := by decide +kernel
theorem dX7_meanInto_26 : decode cX7_meanInto 26 = .ok (.aload_n 2, 1) := by decide +kernel
theorem dX7_meanInto_27 : decode cX7_meanInto 27 = .ok (.iload_n 3, 1) := by decide +kernel
theorem dX7_meanInto_28 : decode cX7_meanInto 28 = .ok (.invokevirtual 49, 3) := by decide +kernel
theorem dX7_meanInto_31 : decode cX7_meanInto 31 = .ok (.iinc 3 1, 3) := by decide +kernel
theorem dX7_meanInto_34 : decode cX7_meanInto 34 = .ok (.goto (-13), 3) := by decide +kernel
theorem dX7_meanInto_37 : decode cX7_meanInto 37 = .ok (.return_, 1) := by decide +kernel
set_option maxRecDepth 20000 in
theorem ggX7_isTaken_X10_isWithin : GoodIn wsX7_isTaken wsX10_isWithin := goodIn_r _ [6] (by decide +kernel) (by decide +kernel)
set_option maxRecDepth 20000 in
theorem gX7_isTaken_X10_isWithin_n31 : GoodIn wsX7_isTaken (wsX10_isWithin) := ggX7_isTaken_X10_isWithin
set_option maxRecDepth 20000 in
theorem ggX7_isTaken_X7_comeBackTo : GoodIn wsX7_isTaken wsX7_comeBackTo := goodIn_r _ [11, 3, 12, 13, 14, 15, 2, 16, 17, 18, 19, 20, 21, 22, 23, 24, 25, 26, 27, 28, 29, 10, 30, 31, 32, 33, 34, 35, 36, 37, 38, 39, 40, 41, 42, 43, 44, 45, 46, 47, 48, 49, 50, 51, 52, 53, 54, 55, 56, 57, 58, 59, 60, 61, 62, 63, 64] (by decide +kernel) (by decide +kernel)
set_option maxRecDepth 20000 in
theorem gX7_isTaken_X7_comeBackTo : GoodIn wsX7_isTaken (wsV RX7 35 RX7 yX7_comeBackTo wsX7_comeBackTo) := goodIn_app (goodIn_of _ (by decide +kernel)) ggX7_isTaken_X7_comeBackTo
set_option maxRecDepth 20000 in
theorem ggX7_isTaken_X5_against : GoodIn wsX7_isTaken wsX5_against := goodIn_r _ [35, 25, 36, 37, 38, 39, 64] (by decide +kernel) (by decide +kernel)
set_option maxRecDepth 20000 in
theorem gX7_isTaken_X5_against : GoodIn wsX7_isTaken (wsV RX7 52 RX5 yX5_against wsX5_against) := goodIn_app (goodIn_of _ (by decide +kernel)) ggX7_isTaken_X5_against
theorem dX7_isTaken_0 : decode cX7_isTaken 0 = .ok (.iload_n 2, 1) := by decide +kernel
theorem dX7_isTaken_1 : decode cX7_isTaken 1 = .ok (.iload_n 1, 1) := by decide +kernel
theorem dX7_isTaken_2 : decode cX7_isTaken 2 = .ok (.if_icmp .ge 15, 3) := by decide +kernel
theorem dX7_isTaken_5 : decode cX7_isTaken 5 = .ok (.iload_n 3, 1) := by decide +kernel
theorem dX7_isTaken_6 : decode cX7_isTaken 6 = .ok (.i2l, 1) := by decide +kernel
theorem dX7_isTaken_7 : decode cX7_isTaken 7 = .ok (.lconst 1, 1) := by decide +kernel
theorem dX7_isTaken_8 : decode cX7_isTaken 8 = .ok (.ldc2_w 29, 3) := by decide +kernel
theorem dX7_isTaken_11 : decode cX7_isTaken 11 = .ok (.invokestatic 31, 3) := by decide +kernel
theorem dX7_isTaken_14 : decode cX7_isTaken 14 = .ok (.ifCond .ne 5, 3) := by decide +kernel
theorem dX7_isTaken_17 : decode cX7_isTaken 17 = .ok (.iconst 1, 1) := by decide +kernel
theorem dX7_isTaken_18 : decode cX7_isTaken 18 = .ok (.ireturn, 1) := by decide +kernel
theorem dX7_isTaken_19 : decode cX7_isTaken 19 = .ok (.aload_n 0, 1) := by decide +kernel
theorem dX7_isTaken_20 : decode cX7_isTaken 20 = .ok (.iload_n 1, 1) := by decide +kernel
theorem dX7_isTaken_21 : decode cX7_isTaken 21 = .ok (.iload_n 2, 1) := by decide +kernel
theorem dX7_isTaken_22 : decode cX7_isTaken 22 = .ok (.invokevirtual 35, 3) := by decide +kernel
theorem dX7_isTaken_25 : decode cX7_isTaken 25 = .ok (.aload_n 0, 1) := by decide +kernel
theorem dX7_isTaken_26 : decode cX7_isTaken 26 = .ok (.getfield 17, 3) := by decide +kernel
theorem dX7_isTaken_29 : decode cX7_isTaken 29 = .ok (.iload_n 3, 1) := by decide +kernel
theorem dX7_isTaken_30 : decode cX7_isTaken 30 = .ok (.aaload, 1) := by decide +kernel
theorem dX7_isTaken_31 : decode cX7_isTaken 31 = .ok (.aload_n 0, 1) := by decide +kernel
theorem dX7_isTaken_32 : decode cX7_isTaken 32 = .ok (.getfield 22, 3) := by decide +kernel
theorem dX7_isTaken_35 : decode cX7_isTaken 35 = .ok (.invokevirtual 52, 3) := by decide +kernel
theorem dX7_isTaken_38 : decode cX7_isTaken 38 = .ok (.ifCond .lt 7, 3) := by decide +kernel
theorem dX7_isTaken_41 : decode cX7_isTaken 41 = .ok (.iconst 1, 1) := by decide +kernel
theorem dX7_isTaken_42 : decode cX7_isTaken 42 = .ok (.goto 4, 3) := by decide +kernel
theorem dX7_isTaken_45 : decode cX7_isTaken 45 = .ok (.iconst 0, 1) := by decide +kernel
theorem dX7_isTaken_46 : decode cX7_isTaken 46 = .ok (.ireturn, 1) := by decide +kernel
set_option maxRecDepth 20000 in
theorem ggX7_comeBackTo_X5_put : GoodIn wsX7_comeBackTo wsX5_put := goodIn_r _ [12, 13, 14, 4, 15, 16, 17, 56] (by decide +kernel) (by decide +kernel)
set_option maxRecDepth 20000 in
theorem gX7_comeBackTo_X5_put : GoodIn wsX7_comeBackTo (wsV RX7 56 RX5 yX5_put wsX5_put) := goodIn_app (goodIn_of _ (by decide +kernel)) ggX7_comeBackTo_X5_put
set_option maxRecDepth 20000 in
theorem ggX7_comeBackTo_X7_goAhead : GoodIn wsX7_comeBackTo wsX7_goAhead := goodIn_r _ [22, 23, 2, 3, 4, 5, 6, 1, 8, 9, 10, 11, 12, 13, 14, 15, 16, 17, 24, 25, 26, 27, 28, 29, 30, 31, 32, 33, 34, 35, 36, 37, 38, 39, 40, 41, 42, 43, 52, 53, 54, 55, 56] (by decide +kernel) (by decide +kernel)
set_option maxRecDepth 20000 in
theorem gX7_comeBackTo_X7_goAhead : GoodIn wsX7_comeBackTo (wsV RX7 39 RX7 yX7_goAhead wsX7_goAhead) := goodIn_app (goodIn_of _ (by decide +kernel)) ggX7_comeBackTo_X7_goAhead
set_option maxRecDepth 20000 in
theorem ggX7_comeBackTo_X7_unseeNext : GoodIn wsX7_comeBackTo wsX7_unseeNext := goodIn_r _ [47, 2, 3, 4, 5, 6, 48, 49, 50, 11, 51, 16, 17, 32, 33, 34, 35, 52, 53, 54, 55, 56] (by decide +kernel) (by decide +kernel)
set_option maxRecDepth 20000 in
theorem gX7_comeBackTo_X7_unseeNext : GoodIn wsX7_comeBackTo (wsV RX7 65 RX7 yX7_unseeNext wsX7_unseeNext) := goodIn_app (goodIn_of _ (by decide +kernel)) ggX7_comeBackTo_X7_unseeNext
theorem dX7_comeBackTo_0 : decode cX7_comeBackTo 0 = .ok (.aload_n 0, 1) := by decide +kernel
theorem dX7_comeBackTo_1 : decode cX7_comeBackTo 1 = .ok (.getfield 22, 3) := by decide +kernel
theorem dX7_comeBackTo_4 : decode cX7_comeBackTo 4 = .ok (.lconst 0, 1) := by decide +kernel
theorem dX7_comeBackTo_5 : decode cX7_comeBackTo 5 = .ok (.invokevirtual 56, 3) := by decide +kernel
theorem dX7_comeBackTo_8 : decode cX7_comeBackTo 8 = .ok (.iconst 1, 1) := by decide +kernel
theorem dX7_comeBackTo_9 : decode cX7_comeBackTo 9 = .ok (.istore_n 3, 1) := by decide +kernel
theorem dX7_comeBackTo_10 : decode cX7_comeBackTo 10 = .ok (.iload_n 3, 1) := by decide +kernel
theorem dX7_comeBackTo_11 : decode cX7_comeBackTo 11 = .ok (.iload_n 1, 1) := by decide +kernel
theorem dX7_comeBackTo_12 : decode cX7_comeBackTo 12 = .ok (.bipush 20, 2) := by decide +kernel
theorem dX7_comeBackTo_14 : decode cX7_comeBackTo 14 = .ok (.invokestatic 59, 3) := by decide +kernel
theorem dX7_comeBackTo_17 : decode cX7_comeBackTo 17 = .ok (.if_icmp .gt 25, 3) := by decide +kernel
theorem dX7_comeBackTo_20 : decode cX7_comeBackTo 20 = .ok (.aload_n 0, 1) := by decide +kernel
theorem dX7_comeBackTo_21 : decode cX7_comeBackTo 21 = .ok (.getfield 17, 3) := by decide +kernel
theorem dX7_comeBackTo_24 : decode cX7_comeBackTo 24 = .ok (.iload_n 3, 1) := by decide +kernel
theorem dX7_comeBackTo_25 : decode cX7_comeBackTo 25 = .ok (.aaload, 1) := by decide +kernel
theorem dX7_comeBackTo_26 : decode cX7_comeBackTo 26 = .ok (.aload_n 0, 1) := by decide +kernel
theorem dX7_comeBackTo_27 : decode cX7_comeBackTo 27 = .ok (.getfield 9, 3) := by decide +kernel
theorem dX7_comeBackTo_30 : decode cX7_comeBackTo 30 = .ok (.iload_n 3, 1) := by decide +kernel
theorem dX7_comeBackTo_31 : decode cX7_comeBackTo 31 = .ok (.iaload, 1) := by decide +kernel
theorem dX7_comeBackTo_32 : decode cX7_comeBackTo 32 = .ok (.i2l, 1) := by decide +kernel
theorem dX7_comeBackTo_33 : decode cX7_comeBackTo 33 = .ok (.invokevirtual 56, 3) := by decide +kernel
theorem dX7_comeBackTo_36 : decode cX7_comeBackTo 36 = .ok (.iinc 3 1, 3) := by decide +kernel
theorem dX7_comeBackTo_39 : decode cX7_comeBackTo 39 = .ok (.goto (-29), 3) := by decide +kernel
theorem dX7_comeBackTo_42 : decode cX7_comeBackTo 42 = .ok (.iload_n 1, 1) := by decide +kernel
theorem dX7_comeBackTo_43 : decode cX7_comeBackTo 43 = .ok (.bipush 20, 2) := by decide +kernel
theorem dX7_comeBackTo_45 : decode cX7_comeBackTo 45 = .ok (.invokestatic 59, 3) := by decide +kernel
theorem dX7_comeBackTo_48 : decode cX7_comeBackTo 48 = .ok (.iconst 1, 1) := by decide +kernel
theorem dX7_comeBackTo_49 : decode cX7_comeBackTo 49 = .ok (.isub, 1) := by decide +kernel
theorem dX7_comeBackTo_50 : decode cX7_comeBackTo 50 = .ok (.istore_n 3, 1) := by decide +kernel
theorem dX7_comeBackTo_51 : decode cX7_comeBackTo 51 = .ok (.iload_n 3, 1) := by decide +kernel
theorem dX7_comeBackTo_52 : decode cX7_comeBackTo 52 = .ok (.iload_n 2, 1) := by decide +kernel
theorem dX7_comeBackTo_53 : decode cX7_comeBackTo 53 = .ok (.if_icmp .lt 21, 3) := by decide +kernel
theorem dX7_comeBackTo_56 : decode cX7_comeBackTo 56 = .ok (.aload_n 0, 1) := by decide +kernel
theorem dX7_comeBackTo_57 : decode cX7_comeBackTo 57 = .ok (.iload_n 3, 1) := by decide +kernel
theorem dX7_comeBackTo_58 : decode cX7_comeBackTo 58 = .ok (.iconst 1, 1) := by decide +kernel
theorem dX7_comeBackTo_59 : decode cX7_comeBackTo 59 = .ok (.iadd, 1) := by decide +kernel
theorem dX7_comeBackTo_60 : decode cX7_comeBackTo 60 = .ok (.invokevirtual 39, 3) := by decide +kernel
theorem dX7_comeBackTo_63 : decode cX7_comeBackTo 63 = .ok (.aload_n 0, 1) := by decide +kernel
theorem dX7_comeBackTo_64 : decode cX7_comeBackTo 64 = .ok (.iload_n 3, 1) := by decide +kernel
theorem dX7_comeBackTo_65 : decode cX7_comeBackTo 65 = .ok (.invokevirtual 65, 3) := by decide +kernel
theorem dX7_comeBackTo_68 : decode cX7_comeBackTo 68 = .ok (.iinc 3 (-1), 3) := by decide +kernel
theorem dX7_comeBackTo_71 : decode cX7_comeBackTo 71 = .ok (.goto (-20), 3) := by decide +kernel
theorem dX7_comeBackTo_74 : decode cX7_comeBackTo 74 = .ok (.return_, 1) := by decide +kernel
set_option maxRecDepth 20000 in
theorem ggX7_goAhead_X5_put : GoodIn wsX7_goAhead wsX5_put := goodIn_r _ [12, 13, 14, 4, 15, 16, 17, 42] (by decide +kernel) (by decide +kernel)
set_option maxRecDepth 20000 in
theorem gX7_goAhead_X5_put : GoodIn wsX7_goAhead (wsV RX7 56 RX5 yX5_put wsX5_put) := goodIn_app (goodIn_of _ (by decide +kernel)) ggX7_goAhead_X5_put
set_option maxRecDepth 20000 in
theorem ggX7_goAhead_X5_against : GoodIn wsX7_goAhead wsX5_against := goodIn_r _ [21, 16, 22, 23, 24, 25, 42] (by decide +kernel) (by decide +kernel)
set_option maxRecDepth 20000 in
theorem gX7_goAhead_X5_against : GoodIn wsX7_goAhead (wsV RX7 52 RX5 yX5_against wsX5_against) := goodIn_app (goodIn_of _ (by decide +kernel)) ggX7_goAhead_X5_against
set_option maxRecDepth 20000 in
theorem ggX7_goAhead_X5_addTimes : GoodIn wsX7_goAhead wsX5_addTimes := goodIn_r _ [29, 16, 17, 42] (by decide +kernel) (by decide +kernel)
set_option maxRecDepth 20000 in
theorem gX7_goAhead_X5_addTimes : GoodIn wsX7_goAhead (wsV RX7 68 RX5 yX5_addTimes wsX5_addTimes) := goodIn_app (goodIn_of _ (by decide +kernel)) ggX7_goAhead_X5_addTimes
set_option maxRecDepth 20000 in
theorem ggX7_goAhead_X5_copy : GoodIn wsX7_goAhead wsX5_copy := goodIn_r _ [33, 16, 34, 35, 36, 37, 42] (by decide +kernel) (by decide +kernel)
set_option maxRecDepth 20000 in
theorem gX7_goAhead_X5_copy : GoodIn wsX7_goAhead (wsV RX7 72 RX5 yX5_copy wsX5_copy) := goodIn_app (goodIn_of _ (by decide +kernel)) ggX7_goAhead_X5_copy
theorem dX7_goAhead_0 : decode cX7_goAhead 0 = .ok (.aload_n 0, 1) := by decide +kernel
theorem dX7_goAhead_1 : decode cX7_goAhead 1 = .ok (.getfield 26, 3) := by decide +kernel
theorem dX7_goAhead_4 : decode cX7_goAhead 4 = .ok (.lconst 0, 1) := by decide +kernel
theorem dX7_goAhead_5 : decode cX7_goAhead 5 = .ok (.invokevirtual 56, 3) := by decide +kernel
theorem dX7_goAhead_8 : decode cX7_goAhead 8 = .ok (.iconst 1, 1) := by decide +kernel
theorem dX7_goAhead_9 : decode cX7_goAhead 9 = .ok (.istore_n 2, 1) := by decide +kernel
theorem dX7_goAhead_10 : decode cX7_goAhead 10 = .ok (.iload_n 2, 1) := by decide +kernel
theorem dX7_goAhead_11 : decode cX7_goAhead 11 = .ok (.iload_n 1, 1) := by decide +kernel
theorem dX7_goAhead_12 : decode cX7_goAhead 12 = .ok (.bipush 20, 2) := by decide +kernel
theorem dX7_goAhead_14 : decode cX7_goAhead 14 = .ok (.invokestatic 59, 3) := by decide +kernel
theorem dX7_goAhead_17 : decode cX7_goAhead 17 = .ok (.if_icmp .gt 46, 3) := by decide +kernel
theorem dX7_goAhead_20 : decode cX7_goAhead 20 = .ok (.aload_n 0, 1) := by decide +kernel
theorem dX7_goAhead_21 : decode cX7_goAhead 21 = .ok (.getfield 26, 3) := by decide +kernel
theorem dX7_goAhead_24 : decode cX7_goAhead 24 = .ok (.aload_n 0, 1) := by decide +kernel
theorem dX7_goAhead_25 : decode cX7_goAhead 25 = .ok (.getfield 17, 3) := by decide +kernel
theorem dX7_goAhead_28 : decode cX7_goAhead 28 = .ok (.iload_n 2, 1) := by decide +kernel
theorem dX7_goAhead_29 : decode cX7_goAhead 29 = .ok (.aaload, 1) := by decide +kernel
theorem dX7_goAhead_30 : decode cX7_goAhead 30 = .ok (.aload_n 0, 1) := by decide +kernel
theorem dX7_goAhead_31 : decode cX7_goAhead 31 = .ok (.getfield 22, 3) := by decide +kernel
theorem dX7_goAhead_34 : decode cX7_goAhead 34 = .ok (.invokevirtual 52, 3) := by decide +kernel
theorem dX7_goAhead_37 : decode cX7_goAhead 37 = .ok (.ifCond .lt 12, 3) := by decide +kernel
theorem dX7_goAhead_40 : decode cX7_goAhead 40 = .ok (.aload_n 0, 1) := by decide +kernel
theorem dX7_goAhead_41 : decode cX7_goAhead 41 = .ok (.getfield 17, 3) := by decide +kernel
theorem dX7_goAhead_44 : decode cX7_goAhead 44 = .ok (.iload_n 2, 1) := by decide +kernel
theorem dX7_goAhead_45 : decode cX7_goAhead 45 = .ok (.aaload, 1) := by decide +kernel
theorem dX7_goAhead_46 : decode cX7_goAhead 46 = .ok (.goto 7, 3) := by decide +kernel
theorem dX7_goAhead_49 : decode cX7_goAhead 49 = .ok (.aload_n 0, 1) := by decide +kernel
theorem dX7_goAhead_50 : decode cX7_goAhead 50 = .ok (.getfield 22, 3) := by decide +kernel
theorem dX7_goAhead_53 : decode cX7_goAhead 53 = .ok (.lconst 1, 1) := by decide +kernel
theorem dX7_goAhead_54 : decode cX7_goAhead 54 = .ok (.invokevirtual 68, 3) := by decide +kernel
theorem dX7_goAhead_57 : decode cX7_goAhead 57 = .ok (.iinc 2 1, 3) := by decide +kernel
theorem dX7_goAhead_60 : decode cX7_goAhead 60 = .ok (.goto (-50), 3) := by decide +kernel
theorem dX7_goAhead_63 : decode cX7_goAhead 63 = .ok (.aload_n 0, 1) := by decide +kernel
theorem dX7_goAhead_64 : decode cX7_goAhead 64 = .ok (.getfield 22, 3) := by decide +kernel
theorem dX7_goAhead_67 : decode cX7_goAhead 67 = .ok (.aload_n 0, 1) := by decide +kernel
theorem dX7_goAhead_68 : decode cX7_goAhead 68 = .ok (.getfield 26, 3) := by decide +kernel
theorem dX7_goAhead_71 : decode cX7_goAhead 71 = .ok (.invokevirtual 72, 3) := by decide +kernel
theorem dX7_goAhead_74 : decode cX7_goAhead 74 = .ok (.return_, 1) := by decide +kernel
set_option maxRecDepth 20000 in
theorem ggX7_unseeNext_X5_times : GoodIn wsX7_unseeNext wsX5_times := goodIn_r _ [10, 11, 12, 21] (by decide +kernel) (by decide +kernel)
set_option maxRecDepth 20000 in
theorem gX7_unseeNext_X5_times : GoodIn wsX7_unseeNext (wsV RX7 75 RX5 yX5_times wsX5_times) := goodIn_app (goodIn_of _ (by decide +kernel)) ggX7_unseeNext_X5_times
set_option maxRecDepth 20000 in
theorem ggX7_unseeNext_X5_addTimes : GoodIn wsX7_unseeNext wsX5_addTimes := goodIn_r _ [16, 11, 12, 21] (by decide +kernel) (by decide +kernel)
set_option maxRecDepth 20000 in
theorem gX7_unseeNext_X5_addTimes : GoodIn wsX7_unseeNext (wsV RX7 68 RX5 yX5_addTimes wsX5_addTimes) := goodIn_app (goodIn_of _ (by decide +kernel)) ggX7_unseeNext_X5_addTimes
theorem dX7_unseeNext_0 : decode cX7_unseeNext 0 = .ok (.iconst 1, 1) := by decide +kernel
theorem dX7_unseeNext_1 : decode cX7_unseeNext 1 = .ok (.istore_n 2, 1) := by decide +kernel
theorem dX7_unseeNext_2 : decode cX7_unseeNext 2 = .ok (.iload_n 2, 1) := by decide +kernel
theorem dX7_unseeNext_3 : decode cX7_unseeNext 3 = .ok (.iload_n 1, 1) := by decide +kernel
theorem dX7_unseeNext_4 : decode cX7_unseeNext 4 = .ok (.bipush 19, 2) := by decide +kernel
theorem dX7_unseeNext_6 : decode cX7_unseeNext 6 = .ok (.invokestatic 59, 3) := by decide +kernel
theorem dX7_unseeNext_9 : decode cX7_unseeNext 9 = .ok (.if_icmp .gt 43, 3) := by decide +kernel
theorem dX7_unseeNext_12 : decode cX7_unseeNext 12 = .ok (.aload_n 0, 1) := by decide +kernel
theorem dX7_unseeNext_13 : decode cX7_unseeNext 13 = .ok (.getfield 17, 3) := by decide +kernel
theorem dX7_unseeNext_16 : decode cX7_unseeNext 16 = .ok (.iload_n 2, 1) := by decide +kernel
theorem dX7_unseeNext_17 : decode cX7_unseeNext 17 = .ok (.aaload, 1) := by decide +kernel
theorem dX7_unseeNext_18 : decode cX7_unseeNext 18 = .ok (.iload_n 1, 1) := by decide +kernel
theorem dX7_unseeNext_19 : decode cX7_unseeNext 19 = .ok (.iconst 1, 1) := by decide +kernel
theorem dX7_unseeNext_20 : decode cX7_unseeNext 20 = .ok (.iadd, 1) := by decide +kernel
theorem dX7_unseeNext_21 : decode cX7_unseeNext 21 = .ok (.iload_n 2, 1) := by decide +kernel
theorem dX7_unseeNext_22 : decode cX7_unseeNext 22 = .ok (.isub, 1) := by decide +kernel
theorem dX7_unseeNext_23 : decode cX7_unseeNext 23 = .ok (.i2l, 1) := by decide +kernel
theorem dX7_unseeNext_24 : decode cX7_unseeNext 24 = .ok (.invokevirtual 75, 3) := by decide +kernel
theorem dX7_unseeNext_27 : decode cX7_unseeNext 27 = .ok (.aload_n 0, 1) := by decide +kernel
theorem dX7_unseeNext_28 : decode cX7_unseeNext 28 = .ok (.getfield 17, 3) := by decide +kernel
theorem dX7_unseeNext_31 : decode cX7_unseeNext 31 = .ok (.iload_n 2, 1) := by decide +kernel
theorem dX7_unseeNext_32 : decode cX7_unseeNext 32 = .ok (.aaload, 1) := by decide +kernel
theorem dX7_unseeNext_33 : decode cX7_unseeNext 33 = .ok (.aload_n 0, 1) := by decide +kernel
theorem dX7_unseeNext_34 : decode cX7_unseeNext 34 = .ok (.getfield 17, 3) := by decide +kernel
theorem dX7_unseeNext_37 : decode cX7_unseeNext 37 = .ok (.iload_n 2, 1) := by decide +kernel
theorem dX7_unseeNext_38 : decode cX7_unseeNext 38 = .ok (.iconst 1, 1) := by decide +kernel
theorem dX7_unseeNext_39 : decode cX7_unseeNext 39 = .ok (.iadd, 1) := by decide +kernel
theorem dX7_unseeNext_40 : decode cX7_unseeNext 40 = .ok (.aaload, 1) := by decide +kernel
theorem dX7_unseeNext_41 : decode cX7_unseeNext 41 = .ok (.iload_n 2, 1) := by decide +kernel
theorem dX7_unseeNext_42 : decode cX7_unseeNext 42 = .ok (.i2l, 1) := by decide +kernel
theorem dX7_unseeNext_43 : decode cX7_unseeNext 43 = .ok (.invokevirtual 68, 3) := by decide +kernel
theorem dX7_unseeNext_46 : decode cX7_unseeNext 46 = .ok (.iinc 2 1, 3) := by decide +kernel
theorem dX7_unseeNext_49 : decode cX7_unseeNext 49 = .ok (.goto (-47), 3) := by decide +kernel
theorem dX7_unseeNext_52 : decode cX7_unseeNext 52 = .ok (.return_, 1) := by decide +kernel
