theorem dX5_init_0 : decode cX5_init 0 = .ok (.aload_n 0, 1) := by decide +kernel
theorem dX5_init_1 : decode cX5_init 1 = .ok (.invokespecial 1, 3) := by decide +kernel
theorem dX5_init_4 : decode cX5_init 4 = .ok (.aload_n 0, 1) := by decide +kernel
theorem dX5_init_5 : decode cX5_init 5 = .ok (.bipush 6, 2) := by decide +kernel
theorem dX5_init_7 : decode cX5_init 7 = .ok (.newarray .int, 2) := by decide +kernel
theorem dX5_init_9 : decode cX5_init 9 = .ok (.putfield 9, 3) := by decide +kernel
theorem dX5_init_12 : decode cX5_init 12 = .ok (.return_, 1) := by decide +kernel
theorem dX5_put_0 : decode cX5_put 0 = .ok (.lconst 0, 1) := by decide +kernel
theorem dX5_put_1 : decode cX5_put 1 = .ok (.lload_n 1, 1) := by decide +kernel
theorem dX5_put_2 : decode cX5_put 2 = .ok (.invokestatic 13, 3) := by decide +kernel
theorem dX5_put_5 : decode cX5_put 5 = .ok (.lstore_n 3, 1) := by decide +kernel
theorem dX5_put_6 : decode cX5_put 6 = .ok (.iconst 0, 1) := by decide +kernel
theorem dX5_put_7 : decode cX5_put 7 = .ok (.istore 5, 2) := by decide +kernel
theorem dX5_put_9 : decode cX5_put 9 = .ok (.iload 5, 2) := by decide +kernel
theorem dX5_put_11 : decode cX5_put 11 = .ok (.bipush 6, 2) := by decide +kernel
theorem dX5_put_13 : decode cX5_put 13 = .ok (.if_icmp .ge 28, 3) := by decide +kernel
theorem dX5_put_16 : decode cX5_put 16 = .ok (.aload_n 0, 1) := by decide +kernel
theorem dX5_put_17 : decode cX5_put 17 = .ok (.getfield 9, 3) := by decide +kernel
theorem dX5_put_20 : decode cX5_put 20 = .ok (.iload 5, 2) := by decide +kernel
theorem dX5_put_22 : decode cX5_put 22 = .ok (.lload_n 3, 1) := by decide +kernel
theorem dX5_put_23 : decode cX5_put 23 = .ok (.ldc2_w 19, 3) := by decide +kernel
theorem dX5_put_26 : decode cX5_put 26 = .ok (.lrem, 1) := by decide +kernel
theorem dX5_put_27 : decode cX5_put 27 = .ok (.l2i, 1) := by decide +kernel
theorem dX5_put_28 : decode cX5_put 28 = .ok (.iastore, 1) := by decide +kernel
theorem dX5_put_29 : decode cX5_put 29 = .ok (.lload_n 3, 1) := by decide +kernel
theorem dX5_put_30 : decode cX5_put 30 = .ok (.ldc2_w 19, 3) := by decide +kernel
theorem dX5_put_33 : decode cX5_put 33 = .ok (.ldiv, 1) := by decide +kernel
theorem dX5_put_34 : decode cX5_put 34 = .ok (.lstore_n 3, 1) := by decide +kernel
theorem dX5_put_35 : decode cX5_put 35 = .ok (.iinc 5 1, 3) := by decide +kernel
theorem dX5_put_38 : decode cX5_put 38 = .ok (.goto (-29), 3) := by decide +kernel
theorem dX5_put_41 : decode cX5_put 41 = .ok (.return_, 1) := by decide +kernel
theorem dX5_copy_0 : decode cX5_copy 0 = .ok (.aload_n 1, 1) := by decide +kernel
theorem dX5_copy_1 : decode cX5_copy 1 = .ok (.getfield 9, 3) := by decide +kernel
theorem dX5_copy_4 : decode cX5_copy 4 = .ok (.iconst 0, 1) := by decide +kernel
theorem dX5_copy_5 : decode cX5_copy 5 = .ok (.aload_n 0, 1) := by decide +kernel
theorem dX5_copy_6 : decode cX5_copy 6 = .ok (.getfield 9, 3) := by decide +kernel
theorem dX5_copy_9 : decode cX5_copy 9 = .ok (.iconst 0, 1) := by decide +kernel
theorem dX5_copy_10 : decode cX5_copy 10 = .ok (.bipush 6, 2) := by decide +kernel
theorem dX5_copy_12 : decode cX5_copy 12 = .ok (.invokestatic 21, 3) := by decide +kernel
theorem dX5_copy_15 : decode cX5_copy 15 = .ok (.return_, 1) := by decide +kernel
theorem dX5_times_0 : decode cX5_times 0 = .ok (.lconst 0, 1) := by decide +kernel
theorem dX5_times_1 : decode cX5_times 1 = .ok (.lstore_n 3, 1) := by decide +kernel
theorem dX5_times_2 : decode cX5_times 2 = .ok (.iconst 0, 1) := by decide +kernel
theorem dX5_times_3 : decode cX5_times 3 = .ok (.istore 5, 2) := by decide +kernel
theorem dX5_times_5 : decode cX5_times 5 = .ok (.iload 5, 2) := by decide +kernel
theorem dX5_times_7 : decode cX5_times 7 = .ok (.bipush 6, 2) := by decide +kernel
theorem dX5_times_9 : decode cX5_times 9 = .ok (.if_icmp .ge 41, 3) := by decide +kernel
theorem dX5_times_12 : decode cX5_times 12 = .ok (.lload_n 3, 1) := by decide +kernel
theorem dX5_times_13 : decode cX5_times 13 = .ok (.aload_n 0, 1) := by decide +kernel
theorem dX5_times_14 : decode cX5_times 14 = .ok (.getfield 9, 3) := by decide +kernel
theorem dX5_times_17 : decode cX5_times 17 = .ok (.iload 5, 2) := by decide +kernel
theorem dX5_times_19 : decode cX5_times 19 = .ok (.iaload, 1) := by decide +kernel
theorem dX5_times_20 : decode cX5_times 20 = .ok (.i2l, 1) := by decide +kernel
theorem dX5_times_21 : decode cX5_times 21 = .ok (.lload_n 1, 1) := by decide +kernel
theorem dX5_times_22 : decode cX5_times 22 = .ok (.lmul, 1) := by decide +kernel
theorem dX5_times_23 : decode cX5_times 23 = .ok (.ladd, 1) := by decide +kernel
theorem dX5_times_24 : decode cX5_times 24 = .ok (.lstore_n 3, 1) := by decide +kernel
theorem dX5_times_25 : decode cX5_times 25 = .ok (.aload_n 0, 1) := by decide +kernel
theorem dX5_times_26 : decode cX5_times 26 = .ok (.getfield 9, 3) := by decide +kernel
theorem dX5_times_29 : decode cX5_times 29 = .ok (.iload 5, 2) := by decide +kernel
theorem dX5_times_31 : decode cX5_times 31 = .ok (.lload_n 3, 1) := by decide +kernel
theorem dX5_times_32 : decode cX5_times 32 = .ok (.ldc2_w 19, 3) := by decide +kernel
theorem dX5_times_35 : decode cX5_times 35 = .ok (.lrem, 1) := by decide +kernel
theorem dX5_times_36 : decode cX5_times 36 = .ok (.l2i, 1) := by decide +kernel
theorem dX5_times_37 : decode cX5_times 37 = .ok (.iastore, 1) := by decide +kernel
theorem dX5_times_38 : decode cX5_times 38 = .ok (.lload_n 3, 1) := by decide +kernel
theorem dX5_times_39 : decode cX5_times 39 = .ok (.ldc2_w 19, 3) := by decide +kernel
theorem dX5_times_42 : decode cX5_times 42 = .ok (.ldiv, 1) := by decide +kernel
theorem dX5_times_43 : decode cX5_times 43 = .ok (.lstore_n 3, 1) := by decide +kernel
theorem dX5_times_44 : decode cX5_times 44 = .ok (.iinc 5 1, 3) := by decide +kernel
theorem dX5_times_47 : decode cX5_times 47 = .ok (.goto (-42), 3) := by decide +kernel
theorem dX5_times_50 : decode cX5_times 50 = .ok (.return_, 1) := by decide +kernel
theorem dX5_addTimes_0 : decode cX5_addTimes 0 = .ok (.lconst 0, 1) := by decide +kernel
theorem dX5_addTimes_1 : decode cX5_addTimes 1 = .ok (.lstore 4, 2) := by decide +kernel
theorem dX5_addTimes_3 : decode cX5_addTimes 3 = .ok (.iconst 0, 1) := by decide +kernel
theorem dX5_addTimes_4 : decode cX5_addTimes 4 = .ok (.istore 6, 2) := by decide +kernel
theorem dX5_addTimes_6 : decode cX5_addTimes 6 = .ok (.iload 6, 2) := by decide +kernel
theorem dX5_addTimes_8 : decode cX5_addTimes 8 = .ok (.bipush 6, 2) := by decide +kernel
theorem dX5_addTimes_10 : decode cX5_addTimes 10 = .ok (.if_icmp .ge 55, 3) := by decide +kernel
theorem dX5_addTimes_13 : decode cX5_addTimes 13 = .ok (.lload 4, 2) := by decide +kernel
theorem dX5_addTimes_15 : decode cX5_addTimes 15 = .ok (.aload_n 0, 1) := by decide +kernel
theorem dX5_addTimes_16 : decode cX5_addTimes 16 = .ok (.getfield 9, 3) := by decide +kernel
theorem dX5_addTimes_19 : decode cX5_addTimes 19 = .ok (.iload 6, 2) := by decide +kernel
theorem dX5_addTimes_21 : decode cX5_addTimes 21 = .ok (.iaload, 1) := by decide +kernel
theorem dX5_addTimes_22 : decode cX5_addTimes 22 = .ok (.i2l, 1) := by decide +kernel
theorem dX5_addTimes_23 : decode cX5_addTimes 23 = .ok (.aload_n 1, 1) := by decide +kernel
theorem dX5_addTimes_24 : decode cX5_addTimes 24 = .ok (.getfield 9, 3) := by decide +kernel
theorem dX5_addTimes_27 : decode cX5_addTimes 27 = .ok (.iload 6, 2) := by decide +kernel
theorem dX5_addTimes_29 : decode cX5_addTimes 29 = .ok (.iaload, 1) := by decide +kernel
theorem dX5_addTimes_30 : decode cX5_addTimes 30 = .ok (.i2l, 1) := by decide +kernel
theorem dX5_addTimes_31 : decode cX5_addTimes 31 = .ok (.lload_n 2, 1) := by decide +kernel
theorem dX5_addTimes_32 : decode cX5_addTimes 32 = .ok (.lmul, 1) := by decide +kernel
theorem dX5_addTimes_33 : decode cX5_addTimes 33 = .ok (.ladd, 1) := by decide +kernel
theorem dX5_addTimes_34 : decode cX5_addTimes 34 = .ok (.ladd, 1) := by decide +kernel
theorem dX5_addTimes_35 : decode cX5_addTimes 35 = .ok (.lstore 4, 2) := by decide +kernel
theorem dX5_addTimes_37 : decode cX5_addTimes 37 = .ok (.aload_n 0, 1) := by decide +kernel
theorem dX5_addTimes_38 : decode cX5_addTimes 38 = .ok (.getfield 9, 3) := by decide +kernel
theorem dX5_addTimes_41 : decode cX5_addTimes 41 = .ok (.iload 6, 2) := by decide +kernel
theorem dX5_addTimes_43 : decode cX5_addTimes 43 = .ok (.lload 4, 2) := by decide +kernel
theorem dX5_addTimes_45 : decode cX5_addTimes 45 = .ok (.ldc2_w 19, 3) := by decide +kernel
theorem dX5_addTimes_48 : decode cX5_addTimes 48 = .ok (.lrem, 1) := by decide +kernel
theorem dX5_addTimes_49 : decode cX5_addTimes 49 = .ok (.l2i, 1) := by decide +kernel
theorem dX5_addTimes_50 : decode cX5_addTimes 50 = .ok (.iastore, 1) := by decide +kernel
theorem dX5_addTimes_51 : decode cX5_addTimes 51 = .ok (.lload 4, 2) := by decide +kernel
theorem dX5_addTimes_53 : decode cX5_addTimes 53 = .ok (.ldc2_w 19, 3) := by decide +kernel
theorem dX5_addTimes_56 : decode cX5_addTimes 56 = .ok (.ldiv, 1) := by decide +kernel
theorem dX5_addTimes_57 : decode cX5_addTimes 57 = .ok (.lstore 4, 2) := by decide +kernel
theorem dX5_addTimes_59 : decode cX5_addTimes 59 = .ok (.iinc 6 1, 3) := by decide +kernel
theorem dX5_addTimes_62 : decode cX5_addTimes 62 = .ok (.goto (-56), 3) := by decide +kernel
theorem dX5_addTimes_65 : decode cX5_addTimes 65 = .ok (.return_, 1) := by decide +kernel
set_option maxRecDepth 20000 in
theorem ggX5_takeTimes_J9_floorMod_f86c9 : GoodIn wsX5_takeTimes wsJ9_floorMod_f86c9 := goodIn_r _ [6] (by decide +kernel) (by decide +kernel)
set_option maxRecDepth 20000 in
theorem gX5_takeTimes_J9_floorMod_f86c9 : GoodIn wsX5_takeTimes (va_wsS RX5 27 yJ9_floorMod_f86c9 wsJ9_floorMod_f86c9) := goodIn_app (goodIn_of _ (by decide +kernel)) ggX5_takeTimes_J9_floorMod_f86c9
set_option maxRecDepth 20000 in
theorem ggX5_takeTimes_J9_floorDiv_f86c9 : GoodIn wsX5_takeTimes wsJ9_floorDiv_f86c9 := goodIn_r _ [9] (by decide +kernel) (by decide +kernel)
set_option maxRecDepth 20000 in
theorem gX5_takeTimes_J9_floorDiv_f86c9 : GoodIn wsX5_takeTimes (va_wsS RX5 30 yJ9_floorDiv_f86c9 wsJ9_floorDiv_f86c9) := goodIn_app (goodIn_of _ (by decide +kernel)) ggX5_takeTimes_J9_floorDiv_f86c9
theorem dX5_takeTimes_0 : decode cX5_takeTimes 0 = .ok (.lconst 0, 1) := by decide +kernel
theorem dX5_takeTimes_1 : decode cX5_takeTimes 1 = .ok (.lstore 4, 2) := by decide +kernel
theorem dX5_takeTimes_3 : decode cX5_takeTimes 3 = .ok (.iconst 0, 1) := by decide +kernel
theorem dX5_takeTimes_4 : decode cX5_takeTimes 4 = .ok (.istore 6, 2) := by decide +kernel
theorem dX5_takeTimes_6 : decode cX5_takeTimes 6 = .ok (.iload 6, 2) := by decide +kernel
theorem dX5_takeTimes_8 : decode cX5_takeTimes 8 = .ok (.bipush 6, 2) := by decide +kernel
theorem dX5_takeTimes_10 : decode cX5_takeTimes 10 = .ok (.if_icmp .ge 59, 3) := by decide +kernel
theorem dX5_takeTimes_13 : decode cX5_takeTimes 13 = .ok (.lload 4, 2) := by decide +kernel
theorem dX5_takeTimes_15 : decode cX5_takeTimes 15 = .ok (.aload_n 0, 1) := by decide +kernel
theorem dX5_takeTimes_16 : decode cX5_takeTimes 16 = .ok (.getfield 9, 3) := by decide +kernel
theorem dX5_takeTimes_19 : decode cX5_takeTimes 19 = .ok (.iload 6, 2) := by decide +kernel
theorem dX5_takeTimes_21 : decode cX5_takeTimes 21 = .ok (.iaload, 1) := by decide +kernel
theorem dX5_takeTimes_22 : decode cX5_takeTimes 22 = .ok (.i2l, 1) := by decide +kernel
theorem dX5_takeTimes_23 : decode cX5_takeTimes 23 = .ok (.aload_n 1, 1) := by decide +kernel
theorem dX5_takeTimes_24 : decode cX5_takeTimes 24 = .ok (.getfield 9, 3) := by decide +kernel
theorem dX5_takeTimes_27 : decode cX5_takeTimes 27 = .ok (.iload 6, 2) := by decide +kernel
theorem dX5_takeTimes_29 : decode cX5_takeTimes 29 = .ok (.iaload, 1) := by decide +kernel
theorem dX5_takeTimes_30 : decode cX5_takeTimes 30 = .ok (.i2l, 1) := by decide +kernel
theorem dX5_takeTimes_31 : decode cX5_takeTimes 31 = .ok (.lload_n 2, 1) := by decide +kernel
theorem dX5_takeTimes_32 : decode cX5_takeTimes 32 = .ok (.lmul, 1) := by decide +kernel
theorem dX5_takeTimes_33 : decode cX5_takeTimes 33 = .ok (.lsub, 1) := by decide +kernel
theorem dX5_takeTimes_34 : decode cX5_takeTimes 34 = .ok (.ladd, 1) := by decide +kernel
theorem dX5_takeTimes_35 : decode cX5_takeTimes 35 = .ok (.lstore 4, 2) := by decide +kernel
theorem dX5_takeTimes_37 : decode cX5_takeTimes 37 = .ok (.aload_n 0, 1) := by decide +kernel
theorem dX5_takeTimes_38 : decode cX5_takeTimes 38 = .ok (.getfield 9, 3) := by decide +kernel
theorem dX5_takeTimes_41 : decode cX5_takeTimes 41 = .ok (.iload 6, 2) := by decide +kernel
theorem dX5_takeTimes_43 : decode cX5_takeTimes 43 = .ok (.lload 4, 2) := by decide +kernel
theorem dX5_takeTimes_45 : decode cX5_takeTimes 45 = .ok (.ldc2_w 19, 3) := by decide +kernel
theorem dX5_takeTimes_48 : decode cX5_takeTimes 48 = .ok (.invokestatic 27, 3) := by decide +kernel
theorem dX5_takeTimes_51 : decode cX5_takeTimes 51 = .ok (.l2i, 1) := by decide +kernel
theorem dX5_takeTimes_52 : decode cX5_takeTimes 52 = .ok (.iastore, 1) := by decide +kernel
theorem dX5_takeTimes_53 : decode cX5_takeTimes 53 = .ok (.lload 4, 2) := by decide +kernel
theorem dX5_takeTimes_55 : decode cX5_takeTimes 55 = .ok (.ldc2_w 19, 3) := by decide +kernel
theorem dX5_takeTimes_58 : decode cX5_takeTimes 58 = .ok (.invokestatic 30, 3) := by decide +kernel
theorem dX5_takeTimes_61 : decode cX5_takeTimes 61 = .ok (.lstore 4, 2) := by decide +kernel
theorem dX5_takeTimes_63 : decode cX5_takeTimes 63 = .ok (.iinc 6 1, 3) := by decide +kernel
theorem dX5_takeTimes_66 : decode cX5_takeTimes 66 = .ok (.goto (-60), 3) := by decide +kernel
theorem dX5_takeTimes_69 : decode cX5_takeTimes 69 = .ok (.return_, 1) := by decide +kernel
theorem dX5_divide_0 : decode cX5_divide 0 = .ok (.iload_n 1, 1) := by decide +kernel
theorem dX5_divide_1 : decode cX5_divide 1 = .ok (.iconst 1, 1) := by decide +kernel
theorem dX5_divide_2 : decode cX5_divide 2 = .ok (.if_icmp .ge 4, 3) := by decide +kernel
theorem dX5_divide_5 : decode cX5_divide 5 = .ok (.return_, 1) := by decide +kernel
theorem dX5_divide_6 : decode cX5_divide 6 = .ok (.lconst 0, 1) := by decide +kernel
theorem dX5_divide_7 : decode cX5_divide 7 = .ok (.lstore_n 2, 1) := by decide +kernel
theorem dX5_divide_8 : decode cX5_divide 8 = .ok (.iconst 5, 1) := by decide +kernel
theorem dX5_divide_9 : decode cX5_divide 9 = .ok (.istore 4, 2) := by decide +kernel
theorem dX5_divide_11 : decode cX5_divide 11 = .ok (.iload 4, 2) := by decide +kernel
theorem dX5_divide_13 : decode cX5_divide 13 = .ok (.ifCond .lt 41, 3) := by decide +kernel
theorem dX5_divide_16 : decode cX5_divide 16 = .ok (.lload_n 2, 1) := by decide +kernel
theorem dX5_divide_17 : decode cX5_divide 17 = .ok (.ldc2_w 19, 3) := by decide +kernel
theorem dX5_divide_20 : decode cX5_divide 20 = .ok (.lmul, 1) := by decide +kernel
theorem dX5_divide_21 : decode cX5_divide 21 = .ok (.aload_n 0, 1) := by decide +kernel
theorem dX5_divide_22 : decode cX5_divide 22 = .ok (.getfield 9, 3) := by decide +kernel
theorem dX5_divide_25 : decode cX5_divide 25 = .ok (.iload 4, 2) := by decide +kernel
theorem dX5_divide_27 : decode cX5_divide 27 = .ok (.iaload, 1) := by decide +kernel
theorem dX5_divide_28 : decode cX5_divide 28 = .ok (.i2l, 1) := by decide +kernel
theorem dX5_divide_29 : decode cX5_divide 29 = .ok (.ladd, 1) := by decide +kernel
theorem dX5_divide_30 : decode cX5_divide 30 = .ok (.lstore_n 2, 1) := by decide +kernel
theorem dX5_divide_31 : decode cX5_divide 31 = .ok (.aload_n 0, 1) := by decide +kernel
theorem dX5_divide_32 : decode cX5_divide 32 = .ok (.getfield 9, 3) := by decide +kernel
theorem dX5_divide_35 : decode cX5_divide 35 = .ok (.iload 4, 2) := by decide +kernel
theorem dX5_divide_37 : decode cX5_divide 37 = .ok (.lload_n 2, 1) := by decide +kernel
theorem dX5_divide_38 : decode cX5_divide 38 = .ok (.iload_n 1, 1) := by decide +kernel
theorem dX5_divide_39 : decode cX5_divide 39 = .ok (.i2l, 1) := by decide +kernel
theorem dX5_divide_40 : decode cX5_divide 40 = .ok (.ldiv, 1) := by decide +kernel
theorem dX5_divide_41 : decode cX5_divide 41 = .ok (.l2i, 1) := by decide +kernel
theorem dX5_divide_42 : decode cX5_divide 42 = .ok (.iastore, 1) := by decide +kernel
theorem dX5_divide_43 : decode cX5_divide 43 = .ok (.lload_n 2, 1) := by decide +kernel
theorem dX5_divide_44 : decode cX5_divide 44 = .ok (.iload_n 1, 1) := by decide +kernel
theorem dX5_divide_45 : decode cX5_divide 45 = .ok (.i2l, 1) := by decide +kernel
theorem dX5_divide_46 : decode cX5_divide 46 = .ok (.lrem, 1) := by decide +kernel
theorem dX5_divide_47 : decode cX5_divide 47 = .ok (.lstore_n 2, 1) := by decide +kernel
theorem dX5_divide_48 : decode cX5_divide 48 = .ok (.iinc 4 (-1), 3) := by decide +kernel
theorem dX5_divide_51 : decode cX5_divide 51 = .ok (.goto (-40), 3) := by decide +kernel
theorem dX5_divide_54 : decode cX5_divide 54 = .ok (.return_, 1) := by decide +kernel
theorem dX5_rest_0 : decode cX5_rest 0 = .ok (.iload_n 1, 1) := by decide +kernel
theorem dX5_rest_1 : decode cX5_rest 1 = .ok (.iconst 1, 1) := by decide +kernel
theorem dX5_rest_2 : decode cX5_rest 2 = .ok (.if_icmp .ge 5, 3) := by decide +kernel
theorem dX5_rest_5 : decode cX5_rest 5 = .ok (.iconst 0, 1) := by decide +kernel
theorem dX5_rest_6 : decode cX5_rest 6 = .ok (.ireturn, 1) := by decide +kernel
theorem dX5_rest_7 : decode cX5_rest 7 = .ok (.lconst 0, 1) := by decide +kernel
theorem dX5_rest_8 : decode cX5_rest 8 = .ok (.lstore_n 2, 1) := by decide +kernel
theorem dX5_rest_9 : decode cX5_rest 9 = .ok (.iconst 5, 1) := by decide +kernel
theorem dX5_rest_10 : decode cX5_rest 10 = .ok (.istore 4, 2) := by decide +kernel
theorem dX5_rest_12 : decode cX5_rest 12 = .ok (.iload 4, 2) := by decide +kernel
theorem dX5_rest_14 : decode cX5_rest 14 = .ok (.ifCond .lt 27, 3) := by decide +kernel
theorem dX5_rest_17 : decode cX5_rest 17 = .ok (.lload_n 2, 1) := by decide +kernel
theorem dX5_rest_18 : decode cX5_rest 18 = .ok (.ldc2_w 19, 3) := by decide +kernel
theorem dX5_rest_21 : decode cX5_rest 21 = .ok (.lmul, 1) := by decide +kernel
theorem dX5_rest_22 : decode cX5_rest 22 = .ok (.aload_n 0, 1) := by decide +kernel
theorem dX5_rest_23 : decode cX5_rest 23 = .ok (.getfield 9, 3) := by decide +kernel
theorem dX5_rest_26 : decode cX5_rest 26 = .ok (.iload 4, 2) := by decide +kernel
theorem dX5_rest_28 : decode cX5_rest 28 = .ok (.iaload, 1) := by decide +kernel
theorem dX5_rest_29 : decode cX5_rest 29 = .ok (.i2l, 1) := by decide +kernel
theorem dX5_rest_30 : decode cX5_rest 30 = .ok (.ladd, 1) := by decide +kernel
theorem dX5_rest_31 : decode cX5_rest 31 = .ok (.iload_n 1, 1) := by decide +kernel
theorem dX5_rest_32 : decode cX5_rest 32 = .ok (.i2l, 1) := by decide +kernel
theorem dX5_rest_33 : decode cX5_rest 33 = .ok (.lrem, 1) := by decide +kernel
theorem dX5_rest_34 : decode cX5_rest 34 = .ok (.lstore_n 2, 1) := by decide +kernel
theorem dX5_rest_35 : decode cX5_rest 35 = .ok (.iinc 4 (-1), 3) := by decide +kernel
theorem dX5_rest_38 : decode cX5_rest 38 = .ok (.goto (-26), 3) := by decide +kernel
theorem dX5_rest_41 : decode cX5_rest 41 = .ok (.lload_n 2, 1) := by decide +kernel
theorem dX5_rest_42 : decode cX5_rest 42 = .ok (.l2i, 1) := by decide +kernel
theorem dX5_rest_43 : decode cX5_rest 43 = .ok (.ireturn, 1) := by decide +kernel
set_option maxRecDepth 20000 in
theorem ggX5_against_J6_compare_7cf53 : GoodIn wsX5_against wsJ6_compare_7cf53 := goodIn_r _ [5] (by decide +kernel) (by decide +kernel)
set_option maxRecDepth 20000 in
theorem gX5_against_J6_compare_7cf53 : GoodIn wsX5_against (va_wsS RX5 33 yJ6_compare_7cf53 wsJ6_compare_7cf53) := goodIn_app (goodIn_of _ (by decide +kernel)) ggX5_against_J6_compare_7cf53
theorem dX5_against_0 : decode cX5_against 0 = .ok (.iconst 5, 1) := by decide +kernel
theorem dX5_against_1 : decode cX5_against 1 = .ok (.istore_n 2, 1) := by decide +kernel
theorem dX5_against_2 : decode cX5_against 2 = .ok (.iload_n 2, 1) := by decide +kernel
theorem dX5_against_3 : decode cX5_against 3 = .ok (.ifCond .lt 40, 3) := by decide +kernel
theorem dX5_against_6 : decode cX5_against 6 = .ok (.aload_n 0, 1) := by decide +kernel
theorem dX5_against_7 : decode cX5_against 7 = .ok (.getfield 9, 3) := by decide +kernel
theorem dX5_against_10 : decode cX5_against 10 = .ok (.iload_n 2, 1) := by decide +kernel
theorem dX5_against_11 : decode cX5_against 11 = .ok (.iaload, 1) := by decide +kernel
theorem dX5_against_12 : decode cX5_against 12 = .ok (.aload_n 1, 1) := by decide +kernel
theorem dX5_against_13 : decode cX5_against 13 = .ok (.getfield 9, 3) := by decide +kernel
theorem dX5_against_16 : decode cX5_against 16 = .ok (.iload_n 2, 1) := by decide +kernel
theorem dX5_against_17 : decode cX5_against 17 = .ok (.iaload, 1) := by decide +kernel
theorem dX5_against_18 : decode cX5_against 18 = .ok (.if_icmp .eq 19, 3) := by decide +kernel
theorem dX5_against_21 : decode cX5_against 21 = .ok (.aload_n 0, 1) := by decide +kernel
theorem dX5_against_22 : decode cX5_against 22 = .ok (.getfield 9, 3) := by decide +kernel
theorem dX5_against_25 : decode cX5_against 25 = .ok (.iload_n 2, 1) := by decide +kernel
theorem dX5_against_26 : decode cX5_against 26 = .ok (.iaload, 1) := by decide +kernel
theorem dX5_against_27 : decode cX5_against 27 = .ok (.aload_n 1, 1) := by decide +kernel
theorem dX5_against_28 : decode cX5_against 28 = .ok (.getfield 9, 3) := by decide +kernel
theorem dX5_against_31 : decode cX5_against 31 = .ok (.iload_n 2, 1) := by decide +kernel
theorem dX5_against_32 : decode cX5_against 32 = .ok (.iaload, 1) := by decide +kernel
theorem dX5_against_33 : decode cX5_against 33 = .ok (.invokestatic 33, 3) := by decide +kernel
theorem dX5_against_36 : decode cX5_against 36 = .ok (.ireturn, 1) := by decide +kernel
theorem dX5_against_37 : decode cX5_against 37 = .ok (.iinc 2 (-1), 3) := by decide +kernel
theorem dX5_against_40 : decode cX5_against 40 = .ok (.goto (-38), 3) := by decide +kernel
theorem dX5_against_43 : decode cX5_against 43 = .ok (.iconst 0, 1) := by decide +kernel
theorem dX5_against_44 : decode cX5_against 44 = .ok (.ireturn, 1) := by decide +kernel
set_option maxRecDepth 20000 in
theorem ggX5_isZero_X5_partCount : GoodIn wsX5_isZero wsX5_partCount := goodIn_r _ [6, 1, 7] (by decide +kernel) (by decide +kernel)
set_option maxRecDepth 20000 in
theorem gX5_isZero_X5_partCount : GoodIn wsX5_isZero (wsV RX5 39 RX5 yX5_partCount wsX5_partCount) := goodIn_app (goodIn_of _ (by decide +kernel)) ggX5_isZero_X5_partCount
theorem dX5_isZero_0 : decode cX5_isZero 0 = .ok (.aload_n 0, 1) := by decide +kernel
theorem dX5_isZero_1 : decode cX5_isZero 1 = .ok (.invokevirtual 39, 3) := by decide +kernel
theorem dX5_isZero_4 : decode cX5_isZero 4 = .ok (.iconst 1, 1) := by decide +kernel
theorem dX5_isZero_5 : decode cX5_isZero 5 = .ok (.if_icmp .ne 16, 3) := by decide +kernel
theorem dX5_isZero_8 : decode cX5_isZero 8 = .ok (.aload_n 0, 1) := by decide +kernel
theorem dX5_isZero_9 : decode cX5_isZero 9 = .ok (.getfield 9, 3) := by decide +kernel
theorem dX5_isZero_12 : decode cX5_isZero 12 = .ok (.iconst 0, 1) := by decide +kernel
theorem dX5_isZero_13 : decode cX5_isZero 13 = .ok (.iaload, 1) := by decide +kernel
theorem dX5_isZero_14 : decode cX5_isZero 14 = .ok (.ifCond .ne 7, 3) := by decide +kernel
theorem dX5_isZero_17 : decode cX5_isZero 17 = .ok (.iconst 1, 1) := by decide +kernel
theorem dX5_isZero_18 : decode cX5_isZero 18 = .ok (.goto 4, 3) := by decide +kernel
theorem dX5_isZero_21 : decode cX5_isZero 21 = .ok (.iconst 0, 1) := by decide +kernel
theorem dX5_isZero_22 : decode cX5_isZero 22 = .ok (.ireturn, 1) := by decide +kernel
theorem dX5_partCount_0 : decode cX5_partCount 0 = .ok (.bipush 6, 2) := by decide +kernel
theorem dX5_partCount_2 : decode cX5_partCount 2 = .ok (.istore_n 1, 1) := by decide +kernel
theorem dX5_partCount_3 : decode cX5_partCount 3 = .ok (.iload_n 1, 1) := by decide +kernel
theorem dX5_partCount_4 : decode cX5_partCount 4 = .ok (.iconst 1, 1) := by decide +kernel
theorem dX5_partCount_5 : decode cX5_partCount 5 = .ok (.if_icmp .le 20, 3) := by decide +kernel
theorem dX5_partCount_8 : decode cX5_partCount 8 = .ok (.aload_n 0, 1) := by decide +kernel
theorem dX5_partCount_9 : decode cX5_partCount 9 = .ok (.getfield 9, 3) := by decide +kernel
theorem dX5_partCount_12 : decode cX5_partCount 12 = .ok (.iload_n 1, 1) := by decide +kernel
theorem dX5_partCount_13 : decode cX5_partCount 13 = .ok (.iconst 1, 1) := by decide +kernel
theorem dX5_partCount_14 : decode cX5_partCount 14 = .ok (.isub, 1) := by decide +kernel
theorem dX5_partCount_15 : decode cX5_partCount 15 = .ok (.iaload, 1) := by decide +kernel
theorem dX5_partCount_16 : decode cX5_partCount 16 = .ok (.ifCond .ne 9, 3) := by decide +kernel
theorem dX5_partCount_19 : decode cX5_partCount 19 = .ok (.iinc 1 (-1), 3) := by decide +kernel
theorem dX5_partCount_22 : decode cX5_partCount 22 = .ok (.goto (-19), 3) := by decide +kernel
theorem dX5_partCount_25 : decode cX5_partCount 25 = .ok (.iload_n 1, 1) := by decide +kernel
theorem dX5_partCount_26 : decode cX5_partCount 26 = .ok (.ireturn, 1) := by decide +kernel
set_option maxRecDepth 20000 in
theorem ggX5_partAt_X10_isWithin : GoodIn wsX5_partAt wsX10_isWithin := goodIn_r _ [5] (by decide +kernel) (by decide +kernel)
set_option maxRecDepth 20000 in
theorem gX5_partAt_X10_isWithin_n45 : GoodIn wsX5_partAt (wsX10_isWithin) := ggX5_partAt_X10_isWithin
theorem dX5_partAt_0 : decode cX5_partAt 0 = .ok (.iload_n 1, 1) := by decide +kernel
theorem dX5_partAt_1 : decode cX5_partAt 1 = .ok (.i2l, 1) := by decide +kernel
theorem dX5_partAt_2 : decode cX5_partAt 2 = .ok (.lconst 0, 1) := by decide +kernel
theorem dX5_partAt_3 : decode cX5_partAt 3 = .ok (.ldc2_w 43, 3) := by decide +kernel
theorem dX5_partAt_6 : decode cX5_partAt 6 = .ok (.invokestatic 45, 3) := by decide +kernel
theorem dX5_partAt_9 : decode cX5_partAt 9 = .ok (.ifCond .eq 12, 3) := by decide +kernel
theorem dX5_partAt_12 : decode cX5_partAt 12 = .ok (.aload_n 0, 1) := by decide +kernel
theorem dX5_partAt_13 : decode cX5_partAt 13 = .ok (.getfield 9, 3) := by decide +kernel
theorem dX5_partAt_16 : decode cX5_partAt 16 = .ok (.iload_n 1, 1) := by decide +kernel
theorem dX5_partAt_17 : decode cX5_partAt 17 = .ok (.iaload, 1) := by decide +kernel
theorem dX5_partAt_18 : decode cX5_partAt 18 = .ok (.goto 4, 3) := by decide +kernel
theorem dX5_partAt_21 : decode cX5_partAt 21 = .ok (.iconst 0, 1) := by decide +kernel
theorem dX5_partAt_22 : decode cX5_partAt 22 = .ok (.ireturn, 1) := by decide +kernel
