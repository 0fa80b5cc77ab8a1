set_option maxRecDepth 20000 in
theorem ggX4_init_X5_init : GoodIn wsX4_init wsX5_init := goodIn_r _ [15, 16, 2, 3, 4, 17, 24] (by decide +kernel) (by decide +kernel)
set_option maxRecDepth 20000 in
theorem gX4_init_X5_init_n24 : GoodIn wsX4_init (wsX5_init) := ggX4_init_X5_init
theorem dX4_init_0 : decode cX4_init 0 = .ok (.aload_n 0, 1) := by decide +kernel
theorem dX4_init_1 : decode cX4_init 1 = .ok (.invokespecial 3, 3) := by decide +kernel
theorem dX4_init_4 : decode cX4_init 4 = .ok (.aload_n 0, 1) := by decide +kernel
theorem dX4_init_5 : decode cX4_init 5 = .ok (.bipush 20, 2) := by decide +kernel
theorem dX4_init_7 : decode cX4_init 7 = .ok (.newarray .int, 2) := by decide +kernel
theorem dX4_init_9 : decode cX4_init 9 = .ok (.putfield 9, 3) := by decide +kernel
theorem dX4_init_12 : decode cX4_init 12 = .ok (.aload_n 0, 1) := by decide +kernel
theorem dX4_init_13 : decode cX4_init 13 = .ok (.bipush 20, 2) := by decide +kernel
theorem dX4_init_15 : decode cX4_init 15 = .ok (.newarray .int, 2) := by decide +kernel
theorem dX4_init_17 : decode cX4_init 17 = .ok (.putfield 15, 3) := by decide +kernel
theorem dX4_init_20 : decode cX4_init 20 = .ok (.aload_n 0, 1) := by decide +kernel
theorem dX4_init_21 : decode cX4_init 21 = .ok (.iconst 0, 1) := by decide +kernel
theorem dX4_init_22 : decode cX4_init 22 = .ok (.putfield 18, 3) := by decide +kernel
theorem dX4_init_25 : decode cX4_init 25 = .ok (.aload_n 0, 1) := by decide +kernel
theorem dX4_init_26 : decode cX4_init 26 = .ok (.new 22, 3) := by decide +kernel
theorem dX4_init_29 : decode cX4_init 29 = .ok (.dup, 1) := by decide +kernel
theorem dX4_init_30 : decode cX4_init 30 = .ok (.invokespecial 24, 3) := by decide +kernel
theorem dX4_init_33 : decode cX4_init 33 = .ok (.putfield 25, 3) := by decide +kernel
theorem dX4_init_36 : decode cX4_init 36 = .ok (.aload_n 0, 1) := by decide +kernel
theorem dX4_init_37 : decode cX4_init 37 = .ok (.new 22, 3) := by decide +kernel
theorem dX4_init_40 : decode cX4_init 40 = .ok (.dup, 1) := by decide +kernel
theorem dX4_init_41 : decode cX4_init 41 = .ok (.invokespecial 24, 3) := by decide +kernel
theorem dX4_init_44 : decode cX4_init 44 = .ok (.putfield 29, 3) := by decide +kernel
theorem dX4_init_47 : decode cX4_init 47 = .ok (.aload_n 0, 1) := by decide +kernel
theorem dX4_init_48 : decode cX4_init 48 = .ok (.new 22, 3) := by decide +kernel
theorem dX4_init_51 : decode cX4_init 51 = .ok (.dup, 1) := by decide +kernel
theorem dX4_init_52 : decode cX4_init 52 = .ok (.invokespecial 24, 3) := by decide +kernel
theorem dX4_init_55 : decode cX4_init 55 = .ok (.putfield 32, 3) := by decide +kernel
theorem dX4_init_58 : decode cX4_init 58 = .ok (.return_, 1) := by decide +kernel
theorem dX4_size_0 : decode cX4_size 0 = .ok (.aload_n 0, 1) := by decide +kernel
theorem dX4_size_1 : decode cX4_size 1 = .ok (.getfield 18, 3) := by decide +kernel
theorem dX4_size_4 : decode cX4_size 4 = .ok (.ireturn, 1) := by decide +kernel
theorem dX4_join_0 : decode cX4_join 0 = .ok (.aload_n 0, 1) := by decide +kernel
theorem dX4_join_1 : decode cX4_join 1 = .ok (.getfield 18, 3) := by decide +kernel
theorem dX4_join_4 : decode cX4_join 4 = .ok (.bipush 20, 2) := by decide +kernel
theorem dX4_join_6 : decode cX4_join 6 = .ok (.if_icmp .lt 6, 3) := by decide +kernel
theorem dX4_join_9 : decode cX4_join 9 = .ok (.bipush (-8), 2) := by decide +kernel
theorem dX4_join_11 : decode cX4_join 11 = .ok (.ireturn, 1) := by decide +kernel
theorem dX4_join_12 : decode cX4_join 12 = .ok (.aload_n 0, 1) := by decide +kernel
theorem dX4_join_13 : decode cX4_join 13 = .ok (.getfield 9, 3) := by decide +kernel
theorem dX4_join_16 : decode cX4_join 16 = .ok (.aload_n 0, 1) := by decide +kernel
theorem dX4_join_17 : decode cX4_join 17 = .ok (.getfield 18, 3) := by decide +kernel
theorem dX4_join_20 : decode cX4_join 20 = .ok (.iload_n 1, 1) := by decide +kernel
theorem dX4_join_21 : decode cX4_join 21 = .ok (.iastore, 1) := by decide +kernel
theorem dX4_join_22 : decode cX4_join 22 = .ok (.aload_n 0, 1) := by decide +kernel
theorem dX4_join_23 : decode cX4_join 23 = .ok (.getfield 15, 3) := by decide +kernel
theorem dX4_join_26 : decode cX4_join 26 = .ok (.aload_n 0, 1) := by decide +kernel
theorem dX4_join_27 : decode cX4_join 27 = .ok (.getfield 18, 3) := by decide +kernel
theorem dX4_join_30 : decode cX4_join 30 = .ok (.iload_n 2, 1) := by decide +kernel
theorem dX4_join_31 : decode cX4_join 31 = .ok (.iastore, 1) := by decide +kernel
theorem dX4_join_32 : decode cX4_join 32 = .ok (.aload_n 0, 1) := by decide +kernel
theorem dX4_join_33 : decode cX4_join 33 = .ok (.dup, 1) := by decide +kernel
theorem dX4_join_34 : decode cX4_join 34 = .ok (.getfield 18, 3) := by decide +kernel
theorem dX4_join_37 : decode cX4_join 37 = .ok (.iconst 1, 1) := by decide +kernel
theorem dX4_join_38 : decode cX4_join 38 = .ok (.iadd, 1) := by decide +kernel
theorem dX4_join_39 : decode cX4_join 39 = .ok (.putfield 18, 3) := by decide +kernel
theorem dX4_join_42 : decode cX4_join 42 = .ok (.aload_n 0, 1) := by decide +kernel
theorem dX4_join_43 : decode cX4_join 43 = .ok (.getfield 18, 3) := by decide +kernel
theorem dX4_join_46 : decode cX4_join 46 = .ok (.iconst 1, 1) := by decide +kernel
theorem dX4_join_47 : decode cX4_join 47 = .ok (.isub, 1) := by decide +kernel
theorem dX4_join_48 : decode cX4_join 48 = .ok (.ireturn, 1) := by decide +kernel
theorem dX4_clear_0 : decode cX4_clear 0 = .ok (.aload_n 0, 1) := by decide +kernel
theorem dX4_clear_1 : decode cX4_clear 1 = .ok (.getfield 18, 3) := by decide +kernel
theorem dX4_clear_4 : decode cX4_clear 4 = .ok (.istore_n 1, 1) := by decide +kernel
theorem dX4_clear_5 : decode cX4_clear 5 = .ok (.aload_n 0, 1) := by decide +kernel
theorem dX4_clear_6 : decode cX4_clear 6 = .ok (.iconst 0, 1) := by decide +kernel
theorem dX4_clear_7 : decode cX4_clear 7 = .ok (.putfield 18, 3) := by decide +kernel
theorem dX4_clear_10 : decode cX4_clear 10 = .ok (.iload_n 1, 1) := by decide +kernel
theorem dX4_clear_11 : decode cX4_clear 11 = .ok (.ireturn, 1) := by decide +kernel
set_option maxRecDepth 20000 in
theorem ggX4_bestStart_X5_put : GoodIn wsX4_bestStart wsX5_put := goodIn_r _ [10, 11, 12, 13, 14, 15, 16, 87] (by decide +kernel) (by decide +kernel)
set_option maxRecDepth 20000 in
theorem gX4_bestStart_X5_put : GoodIn wsX4_bestStart (wsV RX4 35 RX5 yX5_put wsX5_put) := goodIn_app (goodIn_of _ (by decide +kernel)) ggX4_bestStart_X5_put
set_option maxRecDepth 20000 in
theorem ggX4_bestStart_X4_startAt : GoodIn wsX4_bestStart wsX4_startAt := goodIn_r _ [21, 5, 22, 2, 3, 4, 23, 24, 25, 9, 26, 15, 16, 27, 28, 29, 30, 81, 82, 83, 84, 85, 86, 87] (by decide +kernel) (by decide +kernel)
set_option maxRecDepth 20000 in
theorem gX4_bestStart_X4_startAt : GoodIn wsX4_bestStart (wsV RX4 39 RX4 yX4_startAt wsX4_startAt) := goodIn_app (goodIn_of _ (by decide +kernel)) ggX4_bestStart_X4_startAt
set_option maxRecDepth 20000 in
theorem ggX4_bestStart_X5_against : GoodIn wsX4_bestStart wsX5_against := goodIn_r _ [34, 15, 35, 36, 37, 38, 87] (by decide +kernel) (by decide +kernel)
set_option maxRecDepth 20000 in
theorem gX4_bestStart_X5_against : GoodIn wsX4_bestStart (wsV RX4 43 RX5 yX5_against wsX5_against) := goodIn_app (goodIn_of _ (by decide +kernel)) ggX4_bestStart_X5_against
set_option maxRecDepth 20000 in
theorem ggX4_bestStart_X5_copy : GoodIn wsX4_bestStart wsX5_copy := goodIn_r _ [42, 15, 43, 44, 45, 46, 87] (by decide +kernel) (by decide +kernel)
set_option maxRecDepth 20000 in
theorem gX4_bestStart_X5_copy : GoodIn wsX4_bestStart (wsV RX4 47 RX5 yX5_copy wsX5_copy) := goodIn_app (goodIn_of _ (by decide +kernel)) ggX4_bestStart_X5_copy
set_option maxRecDepth 20000 in
theorem ggX4_bestStart_X8_put : GoodIn wsX4_bestStart wsX8_put := goodIn_r _ [51, 52, 53, 54, 55, 40, 41, 9, 42, 15, 43, 44, 45, 46, 56, 7, 8, 10, 11, 12, 13, 14, 16, 57, 58, 59, 60, 61, 62, 63, 64, 88, 89, 90, 91, 92, 87] (by decide +kernel) (by decide +kernel)
set_option maxRecDepth 20000 in
theorem gX4_bestStart_X8_put : GoodIn wsX4_bestStart (wsV RX4 51 RX8 yX8_put wsX8_put) := goodIn_app (goodIn_of _ (by decide +kernel)) ggX4_bestStart_X8_put
set_option maxRecDepth 20000 in
theorem ggX4_bestStart_X8_over : GoodIn wsX4_bestStart wsX8_over := goodIn_r _ [68, 52, 53, 69, 70, 71, 9, 72, 16, 15, 73, 74, 50, 75, 76, 77, 78, 79, 80, 24, 25, 26, 88, 89, 90, 91, 92, 87] (by decide +kernel) (by decide +kernel)
set_option maxRecDepth 20000 in
theorem gX4_bestStart_X8_over : GoodIn wsX4_bestStart (wsV RX4 55 RX8 yX8_over wsX8_over) := goodIn_app (goodIn_of _ (by decide +kernel)) ggX4_bestStart_X8_over
theorem dX4_bestStart_0 : decode cX4_bestStart 0 = .ok (.aload_n 0, 1) := by decide +kernel
theorem dX4_bestStart_1 : decode cX4_bestStart 1 = .ok (.getfield 18, 3) := by decide +kernel
theorem dX4_bestStart_4 : decode cX4_bestStart 4 = .ok (.ifCond .ne 5, 3) := by decide +kernel
theorem dX4_bestStart_7 : decode cX4_bestStart 7 = .ok (.iconst (-1), 1) := by decide +kernel
theorem dX4_bestStart_8 : decode cX4_bestStart 8 = .ok (.ireturn, 1) := by decide +kernel
theorem dX4_bestStart_9 : decode cX4_bestStart 9 = .ok (.aload_n 0, 1) := by decide +kernel
theorem dX4_bestStart_10 : decode cX4_bestStart 10 = .ok (.getfield 18, 3) := by decide +kernel
theorem dX4_bestStart_13 : decode cX4_bestStart 13 = .ok (.iconst 1, 1) := by decide +kernel
theorem dX4_bestStart_14 : decode cX4_bestStart 14 = .ok (.isub, 1) := by decide +kernel
theorem dX4_bestStart_15 : decode cX4_bestStart 15 = .ok (.istore_n 2, 1) := by decide +kernel
theorem dX4_bestStart_16 : decode cX4_bestStart 16 = .ok (.aload_n 0, 1) := by decide +kernel
theorem dX4_bestStart_17 : decode cX4_bestStart 17 = .ok (.getfield 25, 3) := by decide +kernel
theorem dX4_bestStart_20 : decode cX4_bestStart 20 = .ok (.lconst 0, 1) := by decide +kernel
theorem dX4_bestStart_21 : decode cX4_bestStart 21 = .ok (.invokevirtual 35, 3) := by decide +kernel
theorem dX4_bestStart_24 : decode cX4_bestStart 24 = .ok (.aload_n 0, 1) := by decide +kernel
theorem dX4_bestStart_25 : decode cX4_bestStart 25 = .ok (.getfield 29, 3) := by decide +kernel
theorem dX4_bestStart_28 : decode cX4_bestStart 28 = .ok (.lconst 1, 1) := by decide +kernel
theorem dX4_bestStart_29 : decode cX4_bestStart 29 = .ok (.invokevirtual 35, 3) := by decide +kernel
theorem dX4_bestStart_32 : decode cX4_bestStart 32 = .ok (.aload_n 0, 1) := by decide +kernel
theorem dX4_bestStart_33 : decode cX4_bestStart 33 = .ok (.getfield 32, 3) := by decide +kernel
theorem dX4_bestStart_36 : decode cX4_bestStart 36 = .ok (.lconst 0, 1) := by decide +kernel
theorem dX4_bestStart_37 : decode cX4_bestStart 37 = .ok (.invokevirtual 35, 3) := by decide +kernel
theorem dX4_bestStart_40 : decode cX4_bestStart 40 = .ok (.aload_n 0, 1) := by decide +kernel
theorem dX4_bestStart_41 : decode cX4_bestStart 41 = .ok (.getfield 18, 3) := by decide +kernel
theorem dX4_bestStart_44 : decode cX4_bestStart 44 = .ok (.iconst 1, 1) := by decide +kernel
theorem dX4_bestStart_45 : decode cX4_bestStart 45 = .ok (.isub, 1) := by decide +kernel
theorem dX4_bestStart_46 : decode cX4_bestStart 46 = .ok (.istore_n 3, 1) := by decide +kernel
theorem dX4_bestStart_47 : decode cX4_bestStart 47 = .ok (.iload_n 3, 1) := by decide +kernel
theorem dX4_bestStart_48 : decode cX4_bestStart 48 = .ok (.ifCond .lt 41, 3) := by decide +kernel
theorem dX4_bestStart_51 : decode cX4_bestStart 51 = .ok (.aload_n 0, 1) := by decide +kernel
theorem dX4_bestStart_52 : decode cX4_bestStart 52 = .ok (.iload_n 3, 1) := by decide +kernel
theorem dX4_bestStart_53 : decode cX4_bestStart 53 = .ok (.invokevirtual 39, 3) := by decide +kernel
theorem dX4_bestStart_56 : decode cX4_bestStart 56 = .ok (.aload_n 0, 1) := by decide +kernel
theorem dX4_bestStart_57 : decode cX4_bestStart 57 = .ok (.getfield 25, 3) := by decide +kernel
theorem dX4_bestStart_60 : decode cX4_bestStart 60 = .ok (.aload_n 0, 1) := by decide +kernel
theorem dX4_bestStart_61 : decode cX4_bestStart 61 = .ok (.getfield 32, 3) := by decide +kernel
theorem dX4_bestStart_64 : decode cX4_bestStart 64 = .ok (.invokevirtual 43, 3) := by decide +kernel
theorem dX4_bestStart_67 : decode cX4_bestStart 67 = .ok (.ifCond .le 16, 3) := by decide +kernel
theorem dX4_bestStart_70 : decode cX4_bestStart 70 = .ok (.aload_n 0, 1) := by decide +kernel
theorem dX4_bestStart_71 : decode cX4_bestStart 71 = .ok (.getfield 32, 3) := by decide +kernel
theorem dX4_bestStart_74 : decode cX4_bestStart 74 = .ok (.aload_n 0, 1) := by decide +kernel
theorem dX4_bestStart_75 : decode cX4_bestStart 75 = .ok (.getfield 25, 3) := by decide +kernel
theorem dX4_bestStart_78 : decode cX4_bestStart 78 = .ok (.invokevirtual 47, 3) := by decide +kernel
theorem dX4_bestStart_81 : decode cX4_bestStart 81 = .ok (.iload_n 3, 1) := by decide +kernel
theorem dX4_bestStart_82 : decode cX4_bestStart 82 = .ok (.istore_n 2, 1) := by decide +kernel
theorem dX4_bestStart_83 : decode cX4_bestStart 83 = .ok (.iinc 3 (-1), 3) := by decide +kernel
theorem dX4_bestStart_86 : decode cX4_bestStart 86 = .ok (.goto (-39), 3) := by decide +kernel
theorem dX4_bestStart_89 : decode cX4_bestStart 89 = .ok (.aload_n 1, 1) := by decide +kernel
theorem dX4_bestStart_90 : decode cX4_bestStart 90 = .ok (.aload_n 0, 1) := by decide +kernel
theorem dX4_bestStart_91 : decode cX4_bestStart 91 = .ok (.getfield 32, 3) := by decide +kernel
theorem dX4_bestStart_94 : decode cX4_bestStart 94 = .ok (.invokevirtual 51, 3) := by decide +kernel
theorem dX4_bestStart_97 : decode cX4_bestStart 97 = .ok (.iconst 0, 1) := by decide +kernel
theorem dX4_bestStart_98 : decode cX4_bestStart 98 = .ok (.istore_n 3, 1) := by decide +kernel
theorem dX4_bestStart_99 : decode cX4_bestStart 99 = .ok (.iload_n 3, 1) := by decide +kernel
theorem dX4_bestStart_100 : decode cX4_bestStart 100 = .ok (.aload_n 0, 1) := by decide +kernel
theorem dX4_bestStart_101 : decode cX4_bestStart 101 = .ok (.getfield 18, 3) := by decide +kernel
theorem dX4_bestStart_104 : decode cX4_bestStart 104 = .ok (.if_icmp .ge 19, 3) := by decide +kernel
theorem dX4_bestStart_107 : decode cX4_bestStart 107 = .ok (.aload_n 1, 1) := by decide +kernel
theorem dX4_bestStart_108 : decode cX4_bestStart 108 = .ok (.aload_n 0, 1) := by decide +kernel
theorem dX4_bestStart_109 : decode cX4_bestStart 109 = .ok (.getfield 15, 3) := by decide +kernel
theorem dX4_bestStart_112 : decode cX4_bestStart 112 = .ok (.iload_n 3, 1) := by decide +kernel
theorem dX4_bestStart_113 : decode cX4_bestStart 113 = .ok (.iaload, 1) := by decide +kernel
theorem dX4_bestStart_114 : decode cX4_bestStart 114 = .ok (.invokevirtual 55, 3) := by decide +kernel
theorem dX4_bestStart_117 : decode cX4_bestStart 117 = .ok (.iinc 3 1, 3) := by decide +kernel
theorem dX4_bestStart_120 : decode cX4_bestStart 120 = .ok (.goto (-21), 3) := by decide +kernel
theorem dX4_bestStart_123 : decode cX4_bestStart 123 = .ok (.iload_n 2, 1) := by decide +kernel
theorem dX4_bestStart_124 : decode cX4_bestStart 124 = .ok (.ireturn, 1) := by decide +kernel
set_option maxRecDepth 20000 in
theorem ggX4_startAt_X5_times : GoodIn wsX4_startAt wsX5_times := goodIn_r _ [10, 11, 12, 23] (by decide +kernel) (by decide +kernel)
set_option maxRecDepth 20000 in
theorem gX4_startAt_X5_times : GoodIn wsX4_startAt (wsV RX4 58 RX5 yX5_times wsX5_times) := goodIn_app (goodIn_of _ (by decide +kernel)) ggX4_startAt_X5_times
set_option maxRecDepth 20000 in
theorem ggX4_startAt_X5_addTimes : GoodIn wsX4_startAt wsX5_addTimes := goodIn_r _ [16, 11, 12, 23] (by decide +kernel) (by decide +kernel)
set_option maxRecDepth 20000 in
theorem gX4_startAt_X5_addTimes : GoodIn wsX4_startAt (wsV RX4 61 RX5 yX5_addTimes wsX5_addTimes) := goodIn_app (goodIn_of _ (by decide +kernel)) ggX4_startAt_X5_addTimes
theorem dX4_startAt_0 : decode cX4_startAt 0 = .ok (.aload_n 0, 1) := by decide +kernel
theorem dX4_startAt_1 : decode cX4_startAt 1 = .ok (.getfield 15, 3) := by decide +kernel
theorem dX4_startAt_4 : decode cX4_startAt 4 = .ok (.iload_n 1, 1) := by decide +kernel
theorem dX4_startAt_5 : decode cX4_startAt 5 = .ok (.iaload, 1) := by decide +kernel
theorem dX4_startAt_6 : decode cX4_startAt 6 = .ok (.aload_n 0, 1) := by decide +kernel
theorem dX4_startAt_7 : decode cX4_startAt 7 = .ok (.getfield 9, 3) := by decide +kernel
theorem dX4_startAt_10 : decode cX4_startAt 10 = .ok (.iload_n 1, 1) := by decide +kernel
theorem dX4_startAt_11 : decode cX4_startAt 11 = .ok (.iaload, 1) := by decide +kernel
theorem dX4_startAt_12 : decode cX4_startAt 12 = .ok (.isub, 1) := by decide +kernel
theorem dX4_startAt_13 : decode cX4_startAt 13 = .ok (.istore_n 2, 1) := by decide +kernel
theorem dX4_startAt_14 : decode cX4_startAt 14 = .ok (.aload_n 0, 1) := by decide +kernel
theorem dX4_startAt_15 : decode cX4_startAt 15 = .ok (.getfield 25, 3) := by decide +kernel
theorem dX4_startAt_18 : decode cX4_startAt 18 = .ok (.iload_n 2, 1) := by decide +kernel
theorem dX4_startAt_19 : decode cX4_startAt 19 = .ok (.i2l, 1) := by decide +kernel
theorem dX4_startAt_20 : decode cX4_startAt 20 = .ok (.invokevirtual 58, 3) := by decide +kernel
theorem dX4_startAt_23 : decode cX4_startAt 23 = .ok (.aload_n 0, 1) := by decide +kernel
theorem dX4_startAt_24 : decode cX4_startAt 24 = .ok (.getfield 25, 3) := by decide +kernel
theorem dX4_startAt_27 : decode cX4_startAt 27 = .ok (.aload_n 0, 1) := by decide +kernel
theorem dX4_startAt_28 : decode cX4_startAt 28 = .ok (.getfield 29, 3) := by decide +kernel
theorem dX4_startAt_31 : decode cX4_startAt 31 = .ok (.aload_n 0, 1) := by decide +kernel
theorem dX4_startAt_32 : decode cX4_startAt 32 = .ok (.getfield 9, 3) := by decide +kernel
theorem dX4_startAt_35 : decode cX4_startAt 35 = .ok (.iload_n 1, 1) := by decide +kernel
theorem dX4_startAt_36 : decode cX4_startAt 36 = .ok (.iaload, 1) := by decide +kernel
theorem dX4_startAt_37 : decode cX4_startAt 37 = .ok (.i2l, 1) := by decide +kernel
theorem dX4_startAt_38 : decode cX4_startAt 38 = .ok (.invokevirtual 61, 3) := by decide +kernel
theorem dX4_startAt_41 : decode cX4_startAt 41 = .ok (.aload_n 0, 1) := by decide +kernel
theorem dX4_startAt_42 : decode cX4_startAt 42 = .ok (.getfield 29, 3) := by decide +kernel
theorem dX4_startAt_45 : decode cX4_startAt 45 = .ok (.iload_n 2, 1) := by decide +kernel
theorem dX4_startAt_46 : decode cX4_startAt 46 = .ok (.i2l, 1) := by decide +kernel
theorem dX4_startAt_47 : decode cX4_startAt 47 = .ok (.invokevirtual 58, 3) := by decide +kernel
theorem dX4_startAt_50 : decode cX4_startAt 50 = .ok (.aload_n 0, 1) := by decide +kernel
theorem dX4_startAt_51 : decode cX4_startAt 51 = .ok (.getfield 32, 3) := by decide +kernel
theorem dX4_startAt_54 : decode cX4_startAt 54 = .ok (.aload_n 0, 1) := by decide +kernel
theorem dX4_startAt_55 : decode cX4_startAt 55 = .ok (.getfield 15, 3) := by decide +kernel
theorem dX4_startAt_58 : decode cX4_startAt 58 = .ok (.iload_n 1, 1) := by decide +kernel
theorem dX4_startAt_59 : decode cX4_startAt 59 = .ok (.iaload, 1) := by decide +kernel
theorem dX4_startAt_60 : decode cX4_startAt 60 = .ok (.i2l, 1) := by decide +kernel
theorem dX4_startAt_61 : decode cX4_startAt 61 = .ok (.invokevirtual 58, 3) := by decide +kernel
theorem dX4_startAt_64 : decode cX4_startAt 64 = .ok (.return_, 1) := by decide +kernel
