set_option maxRecDepth 20000 in
theorem ggX8_init_X5_init : GoodIn wsX8_init wsX5_init := goodIn_r _ [13, 14, 2, 3, 15, 16, 26] (by decide +kernel) (by decide +kernel)
set_option maxRecDepth 20000 in
theorem gX8_init_X5_init_n9 : GoodIn wsX8_init (wsX5_init) := ggX8_init_X5_init
set_option maxRecDepth 20000 in
theorem ggX8_init_X5_put : GoodIn wsX8_init wsX5_put := goodIn_r _ [20, 21, 22, 23, 24, 16, 25, 26] (by decide +kernel) (by decide +kernel)
set_option maxRecDepth 20000 in
theorem gX8_init_X5_put : GoodIn wsX8_init (wsV RX8 29 RX5 yX5_put wsX5_put) := goodIn_app (goodIn_of _ (by decide +kernel)) ggX8_init_X5_put
theorem dX8_init_0 : decode cX8_init 0 = .ok (.aload_n 0, 1) := by decide +kernel
theorem dX8_init_1 : decode cX8_init 1 = .ok (.invokespecial 1, 3) := by decide +kernel
theorem dX8_init_4 : decode cX8_init 4 = .ok (.aload_n 0, 1) := by decide +kernel
theorem dX8_init_5 : decode cX8_init 5 = .ok (.new 7, 3) := by decide +kernel
theorem dX8_init_8 : decode cX8_init 8 = .ok (.dup, 1) := by decide +kernel
theorem dX8_init_9 : decode cX8_init 9 = .ok (.invokespecial 9, 3) := by decide +kernel
theorem dX8_init_12 : decode cX8_init 12 = .ok (.putfield 10, 3) := by decide +kernel
theorem dX8_init_15 : decode cX8_init 15 = .ok (.aload_n 0, 1) := by decide +kernel
theorem dX8_init_16 : decode cX8_init 16 = .ok (.new 7, 3) := by decide +kernel
theorem dX8_init_19 : decode cX8_init 19 = .ok (.dup, 1) := by decide +kernel
theorem dX8_init_20 : decode cX8_init 20 = .ok (.invokespecial 9, 3) := by decide +kernel
theorem dX8_init_23 : decode cX8_init 23 = .ok (.putfield 16, 3) := by decide +kernel
theorem dX8_init_26 : decode cX8_init 26 = .ok (.aload_n 0, 1) := by decide +kernel
theorem dX8_init_27 : decode cX8_init 27 = .ok (.new 7, 3) := by decide +kernel
theorem dX8_init_30 : decode cX8_init 30 = .ok (.dup, 1) := by decide +kernel
theorem dX8_init_31 : decode cX8_init 31 = .ok (.invokespecial 9, 3) := by decide +kernel
theorem dX8_init_34 : decode cX8_init 34 = .ok (.putfield 19, 3) := by decide +kernel
theorem dX8_init_37 : decode cX8_init 37 = .ok (.aload_n 0, 1) := by decide +kernel
theorem dX8_init_38 : decode cX8_init 38 = .ok (.new 7, 3) := by decide +kernel
theorem dX8_init_41 : decode cX8_init 41 = .ok (.dup, 1) := by decide +kernel
theorem dX8_init_42 : decode cX8_init 42 = .ok (.invokespecial 9, 3) := by decide +kernel
theorem dX8_init_45 : decode cX8_init 45 = .ok (.putfield 22, 3) := by decide +kernel
theorem dX8_init_48 : decode cX8_init 48 = .ok (.aload_n 0, 1) := by decide +kernel
theorem dX8_init_49 : decode cX8_init 49 = .ok (.iconst 0, 1) := by decide +kernel
theorem dX8_init_50 : decode cX8_init 50 = .ok (.putfield 25, 3) := by decide +kernel
theorem dX8_init_53 : decode cX8_init 53 = .ok (.aload_n 0, 1) := by decide +kernel
theorem dX8_init_54 : decode cX8_init 54 = .ok (.getfield 16, 3) := by decide +kernel
theorem dX8_init_57 : decode cX8_init 57 = .ok (.lconst 1, 1) := by decide +kernel
theorem dX8_init_58 : decode cX8_init 58 = .ok (.invokevirtual 29, 3) := by decide +kernel
theorem dX8_init_61 : decode cX8_init 61 = .ok (.return_, 1) := by decide +kernel
set_option maxRecDepth 20000 in
theorem ggX8_put_X5_copy : GoodIn wsX8_put wsX5_copy := goodIn_r _ [8, 9, 10, 11, 12, 13, 36] (by decide +kernel) (by decide +kernel)
set_option maxRecDepth 20000 in
theorem gX8_put_X5_copy : GoodIn wsX8_put (wsV RX8 33 RX5 yX5_copy wsX5_copy) := goodIn_app (goodIn_of _ (by decide +kernel)) ggX8_put_X5_copy
set_option maxRecDepth 20000 in
theorem ggX8_put_X5_put : GoodIn wsX8_put wsX5_put := goodIn_r _ [17, 18, 19, 20, 21, 9, 22, 36] (by decide +kernel) (by decide +kernel)
set_option maxRecDepth 20000 in
theorem gX8_put_X5_put : GoodIn wsX8_put (wsV RX8 29 RX5 yX5_put wsX5_put) := goodIn_app (goodIn_of _ (by decide +kernel)) ggX8_put_X5_put
set_option maxRecDepth 20000 in
theorem ggX8_put_X5_isZero : GoodIn wsX8_put wsX5_isZero := goodIn_r _ [26, 9, 27, 28, 29, 7, 30, 36] (by decide +kernel) (by decide +kernel)
set_option maxRecDepth 20000 in
theorem gX8_put_X5_isZero : GoodIn wsX8_put (wsV RX8 37 RX5 yX5_isZero wsX5_isZero) := goodIn_app (goodIn_of _ (by decide +kernel)) ggX8_put_X5_isZero
theorem dX8_put_0 : decode cX8_put 0 = .ok (.aload_n 0, 1) := by decide +kernel
theorem dX8_put_1 : decode cX8_put 1 = .ok (.getfield 10, 3) := by decide +kernel
theorem dX8_put_4 : decode cX8_put 4 = .ok (.aload_n 1, 1) := by decide +kernel
theorem dX8_put_5 : decode cX8_put 5 = .ok (.invokevirtual 33, 3) := by decide +kernel
theorem dX8_put_8 : decode cX8_put 8 = .ok (.aload_n 0, 1) := by decide +kernel
theorem dX8_put_9 : decode cX8_put 9 = .ok (.getfield 16, 3) := by decide +kernel
theorem dX8_put_12 : decode cX8_put 12 = .ok (.lconst 1, 1) := by decide +kernel
theorem dX8_put_13 : decode cX8_put 13 = .ok (.invokevirtual 29, 3) := by decide +kernel
theorem dX8_put_16 : decode cX8_put 16 = .ok (.aload_n 0, 1) := by decide +kernel
theorem dX8_put_17 : decode cX8_put 17 = .ok (.aload_n 1, 1) := by decide +kernel
theorem dX8_put_18 : decode cX8_put 18 = .ok (.invokevirtual 37, 3) := by decide +kernel
theorem dX8_put_21 : decode cX8_put 21 = .ok (.ifCond .eq 7, 3) := by decide +kernel
theorem dX8_put_24 : decode cX8_put 24 = .ok (.iconst 0, 1) := by decide +kernel
theorem dX8_put_25 : decode cX8_put 25 = .ok (.goto 4, 3) := by decide +kernel
theorem dX8_put_28 : decode cX8_put 28 = .ok (.iconst 1, 1) := by decide +kernel
theorem dX8_put_29 : decode cX8_put 29 = .ok (.putfield 25, 3) := by decide +kernel
theorem dX8_put_32 : decode cX8_put 32 = .ok (.return_, 1) := by decide +kernel
set_option maxRecDepth 20000 in
theorem ggX8_putSmall_X5_put : GoodIn wsX8_putSmall wsX5_put := goodIn_r _ [11, 12, 13, 4, 14, 15, 16, 68] (by decide +kernel) (by decide +kernel)
set_option maxRecDepth 20000 in
theorem gX8_putSmall_X5_put : GoodIn wsX8_putSmall (wsV RX8 29 RX5 yX5_put wsX5_put) := goodIn_app (goodIn_of _ (by decide +kernel)) ggX8_putSmall_X5_put
set_option maxRecDepth 20000 in
theorem ggX8_putSmall_X8_put : GoodIn wsX8_putSmall wsX8_put := goodIn_r _ [21, 22, 23, 6, 24, 25, 26, 10, 27, 15, 28, 29, 30, 31, 7, 8, 9, 11, 12, 13, 4, 14, 16, 32, 33, 34, 35, 36, 37, 38, 39, 63, 64, 65, 66, 67, 68] (by decide +kernel) (by decide +kernel)
set_option maxRecDepth 20000 in
theorem gX8_putSmall_X8_put : GoodIn wsX8_putSmall (wsV RX8 47 RX8 yX8_put wsX8_put) := goodIn_app (goodIn_of _ (by decide +kernel)) ggX8_putSmall_X8_put
set_option maxRecDepth 20000 in
theorem ggX8_putSmall_X8_over : GoodIn wsX8_putSmall wsX8_over := goodIn_r _ [43, 22, 23, 44, 45, 46, 10, 47, 16, 15, 48, 49, 20, 50, 51, 52, 53, 54, 55, 56, 57, 58, 63, 64, 65, 66, 67, 68] (by decide +kernel) (by decide +kernel)
set_option maxRecDepth 20000 in
theorem gX8_putSmall_X8_over : GoodIn wsX8_putSmall (wsV RX8 49 RX8 yX8_over wsX8_over) := goodIn_app (goodIn_of _ (by decide +kernel)) ggX8_putSmall_X8_over
set_option maxRecDepth 20000 in
theorem ggX8_putSmall_J6_compare_7cf53 : GoodIn wsX8_putSmall wsJ6_compare_7cf53 := goodIn_r _ [62] (by decide +kernel) (by decide +kernel)
set_option maxRecDepth 20000 in
theorem gX8_putSmall_J6_compare_7cf53 : GoodIn wsX8_putSmall (va_wsS RX8 53 yJ6_compare_7cf53 wsJ6_compare_7cf53) := goodIn_app (goodIn_of _ (by decide +kernel)) ggX8_putSmall_J6_compare_7cf53
theorem dX8_putSmall_0 : decode cX8_putSmall 0 = .ok (.aload_n 0, 1) := by decide +kernel
theorem dX8_putSmall_1 : decode cX8_putSmall 1 = .ok (.getfield 19, 3) := by decide +kernel
theorem dX8_putSmall_4 : decode cX8_putSmall 4 = .ok (.iload_n 1, 1) := by decide +kernel
theorem dX8_putSmall_5 : decode cX8_putSmall 5 = .ok (.i2l, 1) := by decide +kernel
theorem dX8_putSmall_6 : decode cX8_putSmall 6 = .ok (.invokestatic 41, 3) := by decide +kernel
theorem dX8_putSmall_9 : decode cX8_putSmall 9 = .ok (.invokevirtual 29, 3) := by decide +kernel
theorem dX8_putSmall_12 : decode cX8_putSmall 12 = .ok (.aload_n 0, 1) := by decide +kernel
theorem dX8_putSmall_13 : decode cX8_putSmall 13 = .ok (.aload_n 0, 1) := by decide +kernel
theorem dX8_putSmall_14 : decode cX8_putSmall 14 = .ok (.getfield 19, 3) := by decide +kernel
theorem dX8_putSmall_17 : decode cX8_putSmall 17 = .ok (.invokevirtual 47, 3) := by decide +kernel
theorem dX8_putSmall_20 : decode cX8_putSmall 20 = .ok (.aload_n 0, 1) := by decide +kernel
theorem dX8_putSmall_21 : decode cX8_putSmall 21 = .ok (.iload_n 2, 1) := by decide +kernel
theorem dX8_putSmall_22 : decode cX8_putSmall 22 = .ok (.invokevirtual 49, 3) := by decide +kernel
theorem dX8_putSmall_25 : decode cX8_putSmall 25 = .ok (.aload_n 0, 1) := by decide +kernel
theorem dX8_putSmall_26 : decode cX8_putSmall 26 = .ok (.iload_n 1, 1) := by decide +kernel
theorem dX8_putSmall_27 : decode cX8_putSmall 27 = .ok (.iconst 0, 1) := by decide +kernel
theorem dX8_putSmall_28 : decode cX8_putSmall 28 = .ok (.invokestatic 53, 3) := by decide +kernel
theorem dX8_putSmall_31 : decode cX8_putSmall 31 = .ok (.putfield 25, 3) := by decide +kernel
theorem dX8_putSmall_34 : decode cX8_putSmall 34 = .ok (.return_, 1) := by decide +kernel
set_option maxRecDepth 20000 in
theorem ggX8_over_X5_rest : GoodIn wsX8_over wsX5_rest := goodIn_r _ [7, 8, 9, 27] (by decide +kernel) (by decide +kernel)
set_option maxRecDepth 20000 in
theorem gX8_over_X5_rest : GoodIn wsX8_over (wsV RX8 59 RX5 yX5_rest wsX5_rest) := goodIn_app (goodIn_of _ (by decide +kernel)) ggX8_over_X5_rest
set_option maxRecDepth 20000 in
theorem ggX8_over_X8_commonDivisor : GoodIn wsX8_over wsX8_commonDivisor := goodIn_r _ [13] (by decide +kernel) (by decide +kernel)
set_option maxRecDepth 20000 in
theorem gX8_over_X8_commonDivisor : GoodIn wsX8_over (va_wsS RX8 63 yX8_commonDivisor wsX8_commonDivisor) := goodIn_app (goodIn_of _ (by decide +kernel)) ggX8_over_X8_commonDivisor
set_option maxRecDepth 20000 in
theorem ggX8_over_X5_divide : GoodIn wsX8_over wsX5_divide := goodIn_r _ [17, 8, 9, 27] (by decide +kernel) (by decide +kernel)
set_option maxRecDepth 20000 in
theorem gX8_over_X5_divide : GoodIn wsX8_over (wsV RX8 66 RX5 yX5_divide wsX5_divide) := goodIn_app (goodIn_of _ (by decide +kernel)) ggX8_over_X5_divide
set_option maxRecDepth 20000 in
theorem ggX8_over_X5_times : GoodIn wsX8_over wsX5_times := goodIn_r _ [21, 9, 8, 27] (by decide +kernel) (by decide +kernel)
set_option maxRecDepth 20000 in
theorem gX8_over_X5_times : GoodIn wsX8_over (wsV RX8 69 RX5 yX5_times wsX5_times) := goodIn_app (goodIn_of _ (by decide +kernel)) ggX8_over_X5_times
theorem dX8_over_0 : decode cX8_over 0 = .ok (.iload_n 1, 1) := by decide +kernel
theorem dX8_over_1 : decode cX8_over 1 = .ok (.iconst 1, 1) := by decide +kernel
theorem dX8_over_2 : decode cX8_over 2 = .ok (.if_icmp .ge 4, 3) := by decide +kernel
theorem dX8_over_5 : decode cX8_over 5 = .ok (.return_, 1) := by decide +kernel
theorem dX8_over_6 : decode cX8_over 6 = .ok (.iload_n 1, 1) := by decide +kernel
theorem dX8_over_7 : decode cX8_over 7 = .ok (.aload_n 0, 1) := by decide +kernel
theorem dX8_over_8 : decode cX8_over 8 = .ok (.getfield 10, 3) := by decide +kernel
theorem dX8_over_11 : decode cX8_over 11 = .ok (.iload_n 1, 1) := by decide +kernel
theorem dX8_over_12 : decode cX8_over 12 = .ok (.invokevirtual 59, 3) := by decide +kernel
theorem dX8_over_15 : decode cX8_over 15 = .ok (.invokestatic 63, 3) := by decide +kernel
theorem dX8_over_18 : decode cX8_over 18 = .ok (.istore_n 2, 1) := by decide +kernel
theorem dX8_over_19 : decode cX8_over 19 = .ok (.iload_n 2, 1) := by decide +kernel
theorem dX8_over_20 : decode cX8_over 20 = .ok (.iconst 1, 1) := by decide +kernel
theorem dX8_over_21 : decode cX8_over 21 = .ok (.if_icmp .ge 4, 3) := by decide +kernel
theorem dX8_over_24 : decode cX8_over 24 = .ok (.return_, 1) := by decide +kernel
theorem dX8_over_25 : decode cX8_over 25 = .ok (.aload_n 0, 1) := by decide +kernel
theorem dX8_over_26 : decode cX8_over 26 = .ok (.getfield 10, 3) := by decide +kernel
theorem dX8_over_29 : decode cX8_over 29 = .ok (.iload_n 2, 1) := by decide +kernel
theorem dX8_over_30 : decode cX8_over 30 = .ok (.invokevirtual 66, 3) := by decide +kernel
theorem dX8_over_33 : decode cX8_over 33 = .ok (.aload_n 0, 1) := by decide +kernel
theorem dX8_over_34 : decode cX8_over 34 = .ok (.getfield 16, 3) := by decide +kernel
theorem dX8_over_37 : decode cX8_over 37 = .ok (.iload_n 1, 1) := by decide +kernel
theorem dX8_over_38 : decode cX8_over 38 = .ok (.iload_n 2, 1) := by decide +kernel
theorem dX8_over_39 : decode cX8_over 39 = .ok (.idiv, 1) := by decide +kernel
theorem dX8_over_40 : decode cX8_over 40 = .ok (.i2l, 1) := by decide +kernel
theorem dX8_over_41 : decode cX8_over 41 = .ok (.invokevirtual 69, 3) := by decide +kernel
theorem dX8_over_44 : decode cX8_over 44 = .ok (.return_, 1) := by decide +kernel
theorem dX8_commonDivisor_0 : decode cX8_commonDivisor 0 = .ok (.iload_n 0, 1) := by decide +kernel
theorem dX8_commonDivisor_1 : decode cX8_commonDivisor 1 = .ok (.istore_n 2, 1) := by decide +kernel
theorem dX8_commonDivisor_2 : decode cX8_commonDivisor 2 = .ok (.iload_n 1, 1) := by decide +kernel
theorem dX8_commonDivisor_3 : decode cX8_commonDivisor 3 = .ok (.istore_n 3, 1) := by decide +kernel
theorem dX8_commonDivisor_4 : decode cX8_commonDivisor 4 = .ok (.iconst 0, 1) := by decide +kernel
theorem dX8_commonDivisor_5 : decode cX8_commonDivisor 5 = .ok (.istore 4, 2) := by decide +kernel
theorem dX8_commonDivisor_7 : decode cX8_commonDivisor 7 = .ok (.iload 4, 2) := by decide +kernel
theorem dX8_commonDivisor_9 : decode cX8_commonDivisor 9 = .ok (.bipush 64, 2) := by decide +kernel
theorem dX8_commonDivisor_11 : decode cX8_commonDivisor 11 = .ok (.if_icmp .ge 23, 3) := by decide +kernel
theorem dX8_commonDivisor_14 : decode cX8_commonDivisor 14 = .ok (.iload_n 3, 1) := by decide +kernel
theorem dX8_commonDivisor_15 : decode cX8_commonDivisor 15 = .ok (.ifCond .eq 19, 3) := by decide +kernel
theorem dX8_commonDivisor_18 : decode cX8_commonDivisor 18 = .ok (.iload_n 2, 1) := by decide +kernel
theorem dX8_commonDivisor_19 : decode cX8_commonDivisor 19 = .ok (.iload_n 3, 1) := by decide +kernel
theorem dX8_commonDivisor_20 : decode cX8_commonDivisor 20 = .ok (.irem, 1) := by decide +kernel
theorem dX8_commonDivisor_21 : decode cX8_commonDivisor 21 = .ok (.istore 5, 2) := by decide +kernel
theorem dX8_commonDivisor_23 : decode cX8_commonDivisor 23 = .ok (.iload_n 3, 1) := by decide +kernel
theorem dX8_commonDivisor_24 : decode cX8_commonDivisor 24 = .ok (.istore_n 2, 1) := by decide +kernel
theorem dX8_commonDivisor_25 : decode cX8_commonDivisor 25 = .ok (.iload 5, 2) := by decide +kernel
theorem dX8_commonDivisor_27 : decode cX8_commonDivisor 27 = .ok (.istore_n 3, 1) := by decide +kernel
theorem dX8_commonDivisor_28 : decode cX8_commonDivisor 28 = .ok (.iinc 4 1, 3) := by decide +kernel
theorem dX8_commonDivisor_31 : decode cX8_commonDivisor 31 = .ok (.goto (-24), 3) := by decide +kernel
theorem dX8_commonDivisor_34 : decode cX8_commonDivisor 34 = .ok (.iload_n 2, 1) := by decide +kernel
theorem dX8_commonDivisor_35 : decode cX8_commonDivisor 35 = .ok (.ireturn, 1) := by decide +kernel
theorem dX8_sign_0 : decode cX8_sign 0 = .ok (.aload_n 0, 1) := by decide +kernel
theorem dX8_sign_1 : decode cX8_sign 1 = .ok (.getfield 25, 3) := by decide +kernel
theorem dX8_sign_4 : decode cX8_sign 4 = .ok (.ireturn, 1) := by decide +kernel
theorem dX8_digits_0 : decode cX8_digits 0 = .ok (.iload_n 1, 1) := by decide +kernel
theorem dX8_digits_1 : decode cX8_digits 1 = .ok (.ifCond .eq 10, 3) := by decide +kernel
theorem dX8_digits_4 : decode cX8_digits 4 = .ok (.aload_n 0, 1) := by decide +kernel
theorem dX8_digits_5 : decode cX8_digits 5 = .ok (.getfield 16, 3) := by decide +kernel
theorem dX8_digits_8 : decode cX8_digits 8 = .ok (.goto 7, 3) := by decide +kernel
theorem dX8_digits_11 : decode cX8_digits 11 = .ok (.aload_n 0, 1) := by decide +kernel
theorem dX8_digits_12 : decode cX8_digits 12 = .ok (.getfield 10, 3) := by decide +kernel
theorem dX8_digits_15 : decode cX8_digits 15 = .ok (.areturn, 1) := by decide +kernel
set_option maxRecDepth 20000 in
theorem ggX8_against_J6_compare_7cf53 : GoodIn wsX8_against wsJ6_compare_7cf53 := goodIn_r _ [13] (by decide +kernel) (by decide +kernel)
set_option maxRecDepth 20000 in
theorem gX8_against_J6_compare_7cf53 : GoodIn wsX8_against (va_wsS RX8 53 yJ6_compare_7cf53 wsJ6_compare_7cf53) := goodIn_app (goodIn_of _ (by decide +kernel)) ggX8_against_J6_compare_7cf53
set_option maxRecDepth 20000 in
theorem ggX8_against_X5_copy : GoodIn wsX8_against wsX5_copy := goodIn_r _ [18, 19, 20, 21, 22, 23, 39] (by decide +kernel) (by decide +kernel)
set_option maxRecDepth 20000 in
theorem gX8_against_X5_copy : GoodIn wsX8_against (wsV RX8 33 RX5 yX5_copy wsX5_copy) := goodIn_app (goodIn_of _ (by decide +kernel)) ggX8_against_X5_copy
set_option maxRecDepth 20000 in
theorem ggX8_against_X5_times : GoodIn wsX8_against wsX5_times := goodIn_r _ [27, 19, 28, 39] (by decide +kernel) (by decide +kernel)
set_option maxRecDepth 20000 in
theorem gX8_against_X5_times : GoodIn wsX8_against (wsV RX8 69 RX5 yX5_times wsX5_times) := goodIn_app (goodIn_of _ (by decide +kernel)) ggX8_against_X5_times
set_option maxRecDepth 20000 in
theorem ggX8_against_X5_against : GoodIn wsX8_against wsX5_against := goodIn_r _ [32, 19, 33, 11, 12, 13, 39] (by decide +kernel) (by decide +kernel)
set_option maxRecDepth 20000 in
theorem gX8_against_X5_against : GoodIn wsX8_against (wsV RX8 72 RX5 yX5_against wsX5_against) := goodIn_app (goodIn_of _ (by decide +kernel)) ggX8_against_X5_against
theorem dX8_against_0 : decode cX8_against 0 = .ok (.iload_n 1, 1) := by decide +kernel
theorem dX8_against_1 : decode cX8_against 1 = .ok (.iconst 0, 1) := by decide +kernel
theorem dX8_against_2 : decode cX8_against 2 = .ok (.invokestatic 53, 3) := by decide +kernel
theorem dX8_against_5 : decode cX8_against 5 = .ok (.istore_n 3, 1) := by decide +kernel
theorem dX8_against_6 : decode cX8_against 6 = .ok (.aload_n 0, 1) := by decide +kernel
theorem dX8_against_7 : decode cX8_against 7 = .ok (.getfield 25, 3) := by decide +kernel
theorem dX8_against_10 : decode cX8_against 10 = .ok (.iload_n 3, 1) := by decide +kernel
theorem dX8_against_11 : decode cX8_against 11 = .ok (.if_icmp .eq 12, 3) := by decide +kernel
theorem dX8_against_14 : decode cX8_against 14 = .ok (.aload_n 0, 1) := by decide +kernel
theorem dX8_against_15 : decode cX8_against 15 = .ok (.getfield 25, 3) := by decide +kernel
theorem dX8_against_18 : decode cX8_against 18 = .ok (.iload_n 3, 1) := by decide +kernel
theorem dX8_against_19 : decode cX8_against 19 = .ok (.invokestatic 53, 3) := by decide +kernel
theorem dX8_against_22 : decode cX8_against 22 = .ok (.ireturn, 1) := by decide +kernel
theorem dX8_against_23 : decode cX8_against 23 = .ok (.aload_n 0, 1) := by decide +kernel
theorem dX8_against_24 : decode cX8_against 24 = .ok (.getfield 19, 3) := by decide +kernel
theorem dX8_against_27 : decode cX8_against 27 = .ok (.aload_n 0, 1) := by decide +kernel
theorem dX8_against_28 : decode cX8_against 28 = .ok (.getfield 10, 3) := by decide +kernel
theorem dX8_against_31 : decode cX8_against 31 = .ok (.invokevirtual 33, 3) := by decide +kernel
theorem dX8_against_34 : decode cX8_against 34 = .ok (.aload_n 0, 1) := by decide +kernel
theorem dX8_against_35 : decode cX8_against 35 = .ok (.getfield 19, 3) := by decide +kernel
theorem dX8_against_38 : decode cX8_against 38 = .ok (.iload_n 2, 1) := by decide +kernel
theorem dX8_against_39 : decode cX8_against 39 = .ok (.i2l, 1) := by decide +kernel
theorem dX8_against_40 : decode cX8_against 40 = .ok (.invokevirtual 69, 3) := by decide +kernel
theorem dX8_against_43 : decode cX8_against 43 = .ok (.aload_n 0, 1) := by decide +kernel
theorem dX8_against_44 : decode cX8_against 44 = .ok (.getfield 22, 3) := by decide +kernel
theorem dX8_against_47 : decode cX8_against 47 = .ok (.aload_n 0, 1) := by decide +kernel
theorem dX8_against_48 : decode cX8_against 48 = .ok (.getfield 16, 3) := by decide +kernel
theorem dX8_against_51 : decode cX8_against 51 = .ok (.invokevirtual 33, 3) := by decide +kernel
theorem dX8_against_54 : decode cX8_against 54 = .ok (.aload_n 0, 1) := by decide +kernel
theorem dX8_against_55 : decode cX8_against 55 = .ok (.getfield 22, 3) := by decide +kernel
theorem dX8_against_58 : decode cX8_against 58 = .ok (.iload_n 1, 1) := by decide +kernel
theorem dX8_against_59 : decode cX8_against 59 = .ok (.i2l, 1) := by decide +kernel
theorem dX8_against_60 : decode cX8_against 60 = .ok (.invokestatic 41, 3) := by decide +kernel
theorem dX8_against_63 : decode cX8_against 63 = .ok (.invokevirtual 69, 3) := by decide +kernel
theorem dX8_against_66 : decode cX8_against 66 = .ok (.aload_n 0, 1) := by decide +kernel
theorem dX8_against_67 : decode cX8_against 67 = .ok (.getfield 25, 3) := by decide +kernel
theorem dX8_against_70 : decode cX8_against 70 = .ok (.aload_n 0, 1) := by decide +kernel
theorem dX8_against_71 : decode cX8_against 71 = .ok (.getfield 19, 3) := by decide +kernel
theorem dX8_against_74 : decode cX8_against 74 = .ok (.aload_n 0, 1) := by decide +kernel
theorem dX8_against_75 : decode cX8_against 75 = .ok (.getfield 22, 3) := by decide +kernel
theorem dX8_against_78 : decode cX8_against 78 = .ok (.invokevirtual 72, 3) := by decide +kernel
theorem dX8_against_81 : decode cX8_against 81 = .ok (.imul, 1) := by decide +kernel
theorem dX8_against_82 : decode cX8_against 82 = .ok (.ireturn, 1) := by decide +kernel
