set_option maxRecDepth 20000 in
theorem ggX3_init_X0_init : GoodIn wsX3_init wsX0_init := goodIn_r _ [11, 12, 2, 3, 13, 14, 15, 16, 17, 18, 19, 20, 21] (by decide +kernel) (by decide +kernel)
set_option maxRecDepth 20000 in
theorem gX3_init_X0_init_n11 : GoodIn wsX3_init (wsX0_init) := ggX3_init_X0_init
theorem dX3_init_0 : decode cX3_init 0 = .ok (.aload_n 0, 1) := by decide +kernel
theorem dX3_init_1 : decode cX3_init 1 = .ok (.invokespecial 3, 3) := by decide +kernel
theorem dX3_init_4 : decode cX3_init 4 = .ok (.aload_n 0, 1) := by decide +kernel
theorem dX3_init_5 : decode cX3_init 5 = .ok (.new 9, 3) := by decide +kernel
theorem dX3_init_8 : decode cX3_init 8 = .ok (.dup, 1) := by decide +kernel
theorem dX3_init_9 : decode cX3_init 9 = .ok (.invokespecial 11, 3) := by decide +kernel
theorem dX3_init_12 : decode cX3_init 12 = .ok (.putfield 12, 3) := by decide +kernel
theorem dX3_init_15 : decode cX3_init 15 = .ok (.aload_n 0, 1) := by decide +kernel
theorem dX3_init_16 : decode cX3_init 16 = .ok (.bipush 10, 2) := by decide +kernel
theorem dX3_init_18 : decode cX3_init 18 = .ok (.anewarray 9, 3) := by decide +kernel
theorem dX3_init_21 : decode cX3_init 21 = .ok (.putfield 18, 3) := by decide +kernel
theorem dX3_init_24 : decode cX3_init 24 = .ok (.aload_n 0, 1) := by decide +kernel
theorem dX3_init_25 : decode cX3_init 25 = .ok (.iconst 0, 1) := by decide +kernel
theorem dX3_init_26 : decode cX3_init 26 = .ok (.putfield 22, 3) := by decide +kernel
theorem dX3_init_29 : decode cX3_init 29 = .ok (.iconst 0, 1) := by decide +kernel
theorem dX3_init_30 : decode cX3_init 30 = .ok (.istore_n 1, 1) := by decide +kernel
theorem dX3_init_31 : decode cX3_init 31 = .ok (.iload_n 1, 1) := by decide +kernel
theorem dX3_init_32 : decode cX3_init 32 = .ok (.aload_n 0, 1) := by decide +kernel
theorem dX3_init_33 : decode cX3_init 33 = .ok (.getfield 18, 3) := by decide +kernel
theorem dX3_init_36 : decode cX3_init 36 = .ok (.arraylength, 1) := by decide +kernel
theorem dX3_init_37 : decode cX3_init 37 = .ok (.if_icmp .ge 19, 3) := by decide +kernel
theorem dX3_init_40 : decode cX3_init 40 = .ok (.aload_n 0, 1) := by decide +kernel
theorem dX3_init_41 : decode cX3_init 41 = .ok (.getfield 18, 3) := by decide +kernel
theorem dX3_init_44 : decode cX3_init 44 = .ok (.iload_n 1, 1) := by decide +kernel
theorem dX3_init_45 : decode cX3_init 45 = .ok (.aload_n 0, 1) := by decide +kernel
theorem dX3_init_46 : decode cX3_init 46 = .ok (.getfield 12, 3) := by decide +kernel
theorem dX3_init_49 : decode cX3_init 49 = .ok (.aastore, 1) := by decide +kernel
theorem dX3_init_50 : decode cX3_init 50 = .ok (.iinc 1 1, 3) := by decide +kernel
theorem dX3_init_53 : decode cX3_init 53 = .ok (.goto (-22), 3) := by decide +kernel
theorem dX3_init_56 : decode cX3_init 56 = .ok (.return_, 1) := by decide +kernel
theorem dX3_size_0 : decode cX3_size 0 = .ok (.aload_n 0, 1) := by decide +kernel
theorem dX3_size_1 : decode cX3_size 1 = .ok (.getfield 22, 3) := by decide +kernel
theorem dX3_size_4 : decode cX3_size 4 = .ok (.ireturn, 1) := by decide +kernel
theorem dX3_clear_0 : decode cX3_clear 0 = .ok (.aload_n 0, 1) := by decide +kernel
theorem dX3_clear_1 : decode cX3_clear 1 = .ok (.iconst 0, 1) := by decide +kernel
theorem dX3_clear_2 : decode cX3_clear 2 = .ok (.putfield 22, 3) := by decide +kernel
theorem dX3_clear_5 : decode cX3_clear 5 = .ok (.return_, 1) := by decide +kernel
theorem dX3_join_0 : decode cX3_join 0 = .ok (.aload_n 0, 1) := by decide +kernel
theorem dX3_join_1 : decode cX3_join 1 = .ok (.getfield 22, 3) := by decide +kernel
theorem dX3_join_4 : decode cX3_join 4 = .ok (.bipush 10, 2) := by decide +kernel
theorem dX3_join_6 : decode cX3_join 6 = .ok (.if_icmp .ge 23, 3) := by decide +kernel
theorem dX3_join_9 : decode cX3_join 9 = .ok (.aload_n 0, 1) := by decide +kernel
theorem dX3_join_10 : decode cX3_join 10 = .ok (.getfield 18, 3) := by decide +kernel
theorem dX3_join_13 : decode cX3_join 13 = .ok (.aload_n 0, 1) := by decide +kernel
theorem dX3_join_14 : decode cX3_join 14 = .ok (.getfield 22, 3) := by decide +kernel
theorem dX3_join_17 : decode cX3_join 17 = .ok (.aload_n 1, 1) := by decide +kernel
theorem dX3_join_18 : decode cX3_join 18 = .ok (.aastore, 1) := by decide +kernel
theorem dX3_join_19 : decode cX3_join 19 = .ok (.aload_n 0, 1) := by decide +kernel
theorem dX3_join_20 : decode cX3_join 20 = .ok (.dup, 1) := by decide +kernel
theorem dX3_join_21 : decode cX3_join 21 = .ok (.getfield 22, 3) := by decide +kernel
theorem dX3_join_24 : decode cX3_join 24 = .ok (.iconst 1, 1) := by decide +kernel
theorem dX3_join_25 : decode cX3_join 25 = .ok (.iadd, 1) := by decide +kernel
theorem dX3_join_26 : decode cX3_join 26 = .ok (.putfield 22, 3) := by decide +kernel
theorem dX3_join_29 : decode cX3_join 29 = .ok (.return_, 1) := by decide +kernel
set_option maxRecDepth 20000 in
theorem ggX3_at_X10_isWithin : GoodIn wsX3_at wsX10_isWithin := goodIn_r _ [6] (by decide +kernel) (by decide +kernel)
set_option maxRecDepth 20000 in
theorem gX3_at_X10_isWithin_n26 : GoodIn wsX3_at (wsX10_isWithin) := ggX3_at_X10_isWithin
theorem dX3_at_0 : decode cX3_at 0 = .ok (.iload_n 1, 1) := by decide +kernel
theorem dX3_at_1 : decode cX3_at 1 = .ok (.i2l, 1) := by decide +kernel
theorem dX3_at_2 : decode cX3_at 2 = .ok (.lconst 0, 1) := by decide +kernel
theorem dX3_at_3 : decode cX3_at 3 = .ok (.aload_n 0, 1) := by decide +kernel
theorem dX3_at_4 : decode cX3_at 4 = .ok (.getfield 22, 3) := by decide +kernel
theorem dX3_at_7 : decode cX3_at 7 = .ok (.iconst 1, 1) := by decide +kernel
theorem dX3_at_8 : decode cX3_at 8 = .ok (.isub, 1) := by decide +kernel
theorem dX3_at_9 : decode cX3_at 9 = .ok (.i2l, 1) := by decide +kernel
theorem dX3_at_10 : decode cX3_at 10 = .ok (.invokestatic 26, 3) := by decide +kernel
theorem dX3_at_13 : decode cX3_at 13 = .ok (.ifCond .eq 12, 3) := by decide +kernel
theorem dX3_at_16 : decode cX3_at 16 = .ok (.aload_n 0, 1) := by decide +kernel
theorem dX3_at_17 : decode cX3_at 17 = .ok (.getfield 18, 3) := by decide +kernel
theorem dX3_at_20 : decode cX3_at 20 = .ok (.iload_n 1, 1) := by decide +kernel
theorem dX3_at_21 : decode cX3_at 21 = .ok (.aaload, 1) := by decide +kernel
theorem dX3_at_22 : decode cX3_at 22 = .ok (.goto 7, 3) := by decide +kernel
theorem dX3_at_25 : decode cX3_at 25 = .ok (.aload_n 0, 1) := by decide +kernel
theorem dX3_at_26 : decode cX3_at 26 = .ok (.getfield 12, 3) := by decide +kernel
theorem dX3_at_29 : decode cX3_at 29 = .ok (.areturn, 1) := by decide +kernel
set_option maxRecDepth 20000 in
theorem ggX3_leastFrom_X3_at : GoodIn wsX3_leastFrom wsX3_at := goodIn_r _ [6, 1, 7, 8, 9, 10, 11, 19, 20, 21] (by decide +kernel) (by decide +kernel)
set_option maxRecDepth 20000 in
theorem gX3_leastFrom_X3_at : GoodIn wsX3_leastFrom (wsV RX3 30 RX3 yX3_at wsX3_at) := goodIn_app (goodIn_of _ (by decide +kernel)) ggX3_leastFrom_X3_at
set_option maxRecDepth 20000 in
theorem ggX3_leastFrom_X0_leastFrom : GoodIn wsX3_leastFrom wsX0_leastFrom := goodIn_r _ [16, 17, 18, 22, 23, 24, 25] (by decide +kernel) (by decide +kernel)
set_option maxRecDepth 20000 in
theorem gX3_leastFrom_X0_leastFrom : GoodIn wsX3_leastFrom (wsV RX3 34 RX0 yX0_leastFrom wsX0_leastFrom) := goodIn_app (goodIn_of _ (by decide +kernel)) ggX3_leastFrom_X0_leastFrom
theorem dX3_leastFrom_0 : decode cX3_leastFrom 0 = .ok (.iconst (-1), 1) := by decide +kernel
theorem dX3_leastFrom_1 : decode cX3_leastFrom 1 = .ok (.istore_n 2, 1) := by decide +kernel
theorem dX3_leastFrom_2 : decode cX3_leastFrom 2 = .ok (.iconst 0, 1) := by decide +kernel
theorem dX3_leastFrom_3 : decode cX3_leastFrom 3 = .ok (.istore_n 3, 1) := by decide +kernel
theorem dX3_leastFrom_4 : decode cX3_leastFrom 4 = .ok (.iload_n 3, 1) := by decide +kernel
theorem dX3_leastFrom_5 : decode cX3_leastFrom 5 = .ok (.aload_n 0, 1) := by decide +kernel
theorem dX3_leastFrom_6 : decode cX3_leastFrom 6 = .ok (.getfield 22, 3) := by decide +kernel
theorem dX3_leastFrom_9 : decode cX3_leastFrom 9 = .ok (.if_icmp .ge 40, 3) := by decide +kernel
theorem dX3_leastFrom_12 : decode cX3_leastFrom 12 = .ok (.aload_n 0, 1) := by decide +kernel
theorem dX3_leastFrom_13 : decode cX3_leastFrom 13 = .ok (.iload_n 3, 1) := by decide +kernel
theorem dX3_leastFrom_14 : decode cX3_leastFrom 14 = .ok (.invokevirtual 30, 3) := by decide +kernel
theorem dX3_leastFrom_17 : decode cX3_leastFrom 17 = .ok (.iload_n 1, 1) := by decide +kernel
theorem dX3_leastFrom_18 : decode cX3_leastFrom 18 = .ok (.invokevirtual 34, 3) := by decide +kernel
theorem dX3_leastFrom_21 : decode cX3_leastFrom 21 = .ok (.istore 4, 2) := by decide +kernel
theorem dX3_leastFrom_23 : decode cX3_leastFrom 23 = .ok (.iload 4, 2) := by decide +kernel
theorem dX3_leastFrom_25 : decode cX3_leastFrom 25 = .ok (.iconst (-1), 1) := by decide +kernel
theorem dX3_leastFrom_26 : decode cX3_leastFrom 26 = .ok (.if_icmp .eq 17, 3) := by decide +kernel
theorem dX3_leastFrom_29 : decode cX3_leastFrom 29 = .ok (.iload_n 2, 1) := by decide +kernel
theorem dX3_leastFrom_30 : decode cX3_leastFrom 30 = .ok (.iconst (-1), 1) := by decide +kernel
theorem dX3_leastFrom_31 : decode cX3_leastFrom 31 = .ok (.if_icmp .eq 9, 3) := by decide +kernel
theorem dX3_leastFrom_34 : decode cX3_leastFrom 34 = .ok (.iload 4, 2) := by decide +kernel
theorem dX3_leastFrom_36 : decode cX3_leastFrom 36 = .ok (.iload_n 2, 1) := by decide +kernel
theorem dX3_leastFrom_37 : decode cX3_leastFrom 37 = .ok (.if_icmp .ge 6, 3) := by decide +kernel
theorem dX3_leastFrom_40 : decode cX3_leastFrom 40 = .ok (.iload 4, 2) := by decide +kernel
theorem dX3_leastFrom_42 : decode cX3_leastFrom 42 = .ok (.istore_n 2, 1) := by decide +kernel
theorem dX3_leastFrom_43 : decode cX3_leastFrom 43 = .ok (.iinc 3 1, 3) := by decide +kernel
theorem dX3_leastFrom_46 : decode cX3_leastFrom 46 = .ok (.goto (-42), 3) := by decide +kernel
theorem dX3_leastFrom_49 : decode cX3_leastFrom 49 = .ok (.iload_n 2, 1) := by decide +kernel
theorem dX3_leastFrom_50 : decode cX3_leastFrom 50 = .ok (.ireturn, 1) := by decide +kernel
set_option maxRecDepth 20000 in
theorem ggX3_waysUpTo_X5_put : GoodIn wsX3_waysUpTo wsX5_put := goodIn_r _ [6, 7, 8, 9, 10, 11, 12, 38] (by decide +kernel) (by decide +kernel)
set_option maxRecDepth 20000 in
theorem gX3_waysUpTo_X5_put : GoodIn wsX3_waysUpTo (wsV RX3 38 RX5 yX5_put wsX5_put) := goodIn_app (goodIn_of _ (by decide +kernel)) ggX3_waysUpTo_X5_put
set_option maxRecDepth 20000 in
theorem ggX3_waysUpTo_X3_at : GoodIn wsX3_waysUpTo wsX3_at := goodIn_r _ [17, 1, 18, 19, 20, 21, 22, 35, 36, 37] (by decide +kernel) (by decide +kernel)
set_option maxRecDepth 20000 in
theorem gX3_waysUpTo_X3_at : GoodIn wsX3_waysUpTo (wsV RX3 30 RX3 yX3_at wsX3_at) := goodIn_app (goodIn_of _ (by decide +kernel)) ggX3_waysUpTo_X3_at
set_option maxRecDepth 20000 in
theorem ggX3_waysUpTo_X0_below : GoodIn wsX3_waysUpTo wsX0_below := goodIn_r _ [27, 28, 29, 30, 39, 40, 41, 42] (by decide +kernel) (by decide +kernel)
set_option maxRecDepth 20000 in
theorem gX3_waysUpTo_X0_below : GoodIn wsX3_waysUpTo (wsV RX3 44 RX0 yX0_below wsX0_below) := goodIn_app (goodIn_of _ (by decide +kernel)) ggX3_waysUpTo_X0_below
set_option maxRecDepth 20000 in
theorem ggX3_waysUpTo_X5_times : GoodIn wsX3_waysUpTo wsX5_times := goodIn_r _ [34, 11, 12, 38] (by decide +kernel) (by decide +kernel)
set_option maxRecDepth 20000 in
theorem gX3_waysUpTo_X5_times : GoodIn wsX3_waysUpTo (wsV RX3 47 RX5 yX5_times wsX5_times) := goodIn_app (goodIn_of _ (by decide +kernel)) ggX3_waysUpTo_X5_times
theorem dX3_waysUpTo_0 : decode cX3_waysUpTo 0 = .ok (.aload_n 2, 1) := by decide +kernel
theorem dX3_waysUpTo_1 : decode cX3_waysUpTo 1 = .ok (.lconst 1, 1) := by decide +kernel
theorem dX3_waysUpTo_2 : decode cX3_waysUpTo 2 = .ok (.invokevirtual 38, 3) := by decide +kernel
theorem dX3_waysUpTo_5 : decode cX3_waysUpTo 5 = .ok (.iconst 0, 1) := by decide +kernel
theorem dX3_waysUpTo_6 : decode cX3_waysUpTo 6 = .ok (.istore_n 3, 1) := by decide +kernel
theorem dX3_waysUpTo_7 : decode cX3_waysUpTo 7 = .ok (.iload_n 3, 1) := by decide +kernel
theorem dX3_waysUpTo_8 : decode cX3_waysUpTo 8 = .ok (.aload_n 0, 1) := by decide +kernel
theorem dX3_waysUpTo_9 : decode cX3_waysUpTo 9 = .ok (.getfield 22, 3) := by decide +kernel
theorem dX3_waysUpTo_12 : decode cX3_waysUpTo 12 = .ok (.if_icmp .ge 25, 3) := by decide +kernel
theorem dX3_waysUpTo_15 : decode cX3_waysUpTo 15 = .ok (.aload_n 2, 1) := by decide +kernel
theorem dX3_waysUpTo_16 : decode cX3_waysUpTo 16 = .ok (.aload_n 0, 1) := by decide +kernel
theorem dX3_waysUpTo_17 : decode cX3_waysUpTo 17 = .ok (.iload_n 3, 1) := by decide +kernel
theorem dX3_waysUpTo_18 : decode cX3_waysUpTo 18 = .ok (.invokevirtual 30, 3) := by decide +kernel
theorem dX3_waysUpTo_21 : decode cX3_waysUpTo 21 = .ok (.iload_n 1, 1) := by decide +kernel
theorem dX3_waysUpTo_22 : decode cX3_waysUpTo 22 = .ok (.iconst 1, 1) := by decide +kernel
theorem dX3_waysUpTo_23 : decode cX3_waysUpTo 23 = .ok (.iadd, 1) := by decide +kernel
theorem dX3_waysUpTo_24 : decode cX3_waysUpTo 24 = .ok (.invokevirtual 44, 3) := by decide +kernel
theorem dX3_waysUpTo_27 : decode cX3_waysUpTo 27 = .ok (.i2l, 1) := by decide +kernel
theorem dX3_waysUpTo_28 : decode cX3_waysUpTo 28 = .ok (.invokevirtual 47, 3) := by decide +kernel
theorem dX3_waysUpTo_31 : decode cX3_waysUpTo 31 = .ok (.iinc 3 1, 3) := by decide +kernel
theorem dX3_waysUpTo_34 : decode cX3_waysUpTo 34 = .ok (.goto (-27), 3) := by decide +kernel
theorem dX3_waysUpTo_37 : decode cX3_waysUpTo 37 = .ok (.return_, 1) := by decide +kernel
set_option maxRecDepth 20000 in
theorem ggX3_divide_X8_put : GoodIn wsX3_divide wsX8_put := goodIn_r _ [6, 7, 8, 9, 10, 11, 12, 13, 14, 15, 16, 17, 18, 19, 20, 21, 22, 23, 24, 25, 26, 27, 28, 29, 30, 31, 32, 33, 34, 35, 36, 75, 76, 77, 78, 79, 80] (by decide +kernel) (by decide +kernel)
set_option maxRecDepth 20000 in
theorem gX3_divide_X8_put : GoodIn wsX3_divide (wsV RX3 50 RX8 yX8_put wsX8_put) := goodIn_app (goodIn_of _ (by decide +kernel)) ggX3_divide_X8_put
set_option maxRecDepth 20000 in
theorem ggX3_divide_X3_at : GoodIn wsX3_divide wsX3_at := goodIn_r _ [41, 1, 42, 43, 44, 45, 46, 72, 73, 74] (by decide +kernel) (by decide +kernel)
set_option maxRecDepth 20000 in
theorem gX3_divide_X3_at : GoodIn wsX3_divide (wsV RX3 30 RX3 yX3_at wsX3_at) := goodIn_app (goodIn_of _ (by decide +kernel)) ggX3_divide_X3_at
set_option maxRecDepth 20000 in
theorem ggX3_divide_X0_total : GoodIn wsX3_divide wsX0_total := goodIn_r _ [51, 52, 81, 82, 83, 84] (by decide +kernel) (by decide +kernel)
set_option maxRecDepth 20000 in
theorem gX3_divide_X0_total : GoodIn wsX3_divide (wsV RX3 55 RX0 yX0_total wsX0_total) := goodIn_app (goodIn_of _ (by decide +kernel)) ggX3_divide_X0_total
set_option maxRecDepth 20000 in
theorem ggX3_divide_X8_over : GoodIn wsX3_divide wsX8_over := goodIn_r _ [56, 7, 8, 57, 58, 59, 13, 60, 28, 15, 61, 62, 5, 63, 64, 65, 66, 67, 68, 69, 70, 71, 75, 76, 77, 78, 79, 80] (by decide +kernel) (by decide +kernel)
set_option maxRecDepth 20000 in
theorem gX3_divide_X8_over : GoodIn wsX3_divide (wsV RX3 59 RX8 yX8_over wsX8_over) := goodIn_app (goodIn_of _ (by decide +kernel)) ggX3_divide_X8_over
theorem dX3_divide_0 : decode cX3_divide 0 = .ok (.aload_n 2, 1) := by decide +kernel
theorem dX3_divide_1 : decode cX3_divide 1 = .ok (.aload_n 1, 1) := by decide +kernel
theorem dX3_divide_2 : decode cX3_divide 2 = .ok (.invokevirtual 50, 3) := by decide +kernel
theorem dX3_divide_5 : decode cX3_divide 5 = .ok (.iconst 0, 1) := by decide +kernel
theorem dX3_divide_6 : decode cX3_divide 6 = .ok (.istore_n 3, 1) := by decide +kernel
theorem dX3_divide_7 : decode cX3_divide 7 = .ok (.iload_n 3, 1) := by decide +kernel
theorem dX3_divide_8 : decode cX3_divide 8 = .ok (.aload_n 0, 1) := by decide +kernel
theorem dX3_divide_9 : decode cX3_divide 9 = .ok (.getfield 22, 3) := by decide +kernel
theorem dX3_divide_12 : decode cX3_divide 12 = .ok (.if_icmp .ge 21, 3) := by decide +kernel
theorem dX3_divide_15 : decode cX3_divide 15 = .ok (.aload_n 2, 1) := by decide +kernel
theorem dX3_divide_16 : decode cX3_divide 16 = .ok (.aload_n 0, 1) := by decide +kernel
theorem dX3_divide_17 : decode cX3_divide 17 = .ok (.iload_n 3, 1) := by decide +kernel
theorem dX3_divide_18 : decode cX3_divide 18 = .ok (.invokevirtual 30, 3) := by decide +kernel
theorem dX3_divide_21 : decode cX3_divide 21 = .ok (.invokevirtual 55, 3) := by decide +kernel
theorem dX3_divide_24 : decode cX3_divide 24 = .ok (.invokevirtual 59, 3) := by decide +kernel
theorem dX3_divide_27 : decode cX3_divide 27 = .ok (.iinc 3 1, 3) := by decide +kernel
theorem dX3_divide_30 : decode cX3_divide 30 = .ok (.goto (-23), 3) := by decide +kernel
theorem dX3_divide_33 : decode cX3_divide 33 = .ok (.return_, 1) := by decide +kernel
