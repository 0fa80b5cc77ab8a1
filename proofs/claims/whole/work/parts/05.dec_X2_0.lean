set_option maxRecDepth 20000 in
theorem ggX2_init_X3_init : GoodIn wsX2_init wsX3_init := goodIn_r _ [23, 24, 2, 3, 25, 26, 27, 28, 29, 30, 31, 32, 33, 8, 34, 35, 36, 37, 56, 57, 58, 59, 42, 43, 44] (by decide +kernel) (by decide +kernel)
set_option maxRecDepth 20000 in
theorem gX2_init_X3_init : GoodIn wsX2_init (wsX3_init) := ggX2_init_X3_init
set_option maxRecDepth 20000 in
theorem ggX2_init_X5_init : GoodIn wsX2_init wsX5_init := goodIn_r _ [39, 40, 2, 3, 8, 41, 55] (by decide +kernel) (by decide +kernel)
set_option maxRecDepth 20000 in
theorem gX2_init_X5_init_n34 : GoodIn wsX2_init (wsX5_init) := ggX2_init_X5_init
theorem dX2_init_0 : decode cX2_init 0 = .ok (.aload_n 0, 1) := by decide +kernel
theorem dX2_init_1 : decode cX2_init 1 = .ok (.invokespecial 3, 3) := by decide +kernel
theorem dX2_init_4 : decode cX2_init 4 = .ok (.aload_n 0, 1) := by decide +kernel
theorem dX2_init_5 : decode cX2_init 5 = .ok (.new 9, 3) := by decide +kernel
theorem dX2_init_8 : decode cX2_init 8 = .ok (.dup, 1) := by decide +kernel
theorem dX2_init_9 : decode cX2_init 9 = .ok (.invokespecial 11, 3) := by decide +kernel
theorem dX2_init_12 : decode cX2_init 12 = .ok (.putfield 12, 3) := by decide +kernel
theorem dX2_init_15 : decode cX2_init 15 = .ok (.aload_n 0, 1) := by decide +kernel
theorem dX2_init_16 : decode cX2_init 16 = .ok (.bipush 10, 2) := by decide +kernel
theorem dX2_init_18 : decode cX2_init 18 = .ok (.newarray .int, 2) := by decide +kernel
theorem dX2_init_20 : decode cX2_init 20 = .ok (.putfield 18, 3) := by decide +kernel
theorem dX2_init_23 : decode cX2_init 23 = .ok (.aload_n 0, 1) := by decide +kernel
theorem dX2_init_24 : decode cX2_init 24 = .ok (.bipush 10, 2) := by decide +kernel
theorem dX2_init_26 : decode cX2_init 26 = .ok (.newarray .int, 2) := by decide +kernel
theorem dX2_init_28 : decode cX2_init 28 = .ok (.putfield 22, 3) := by decide +kernel
theorem dX2_init_31 : decode cX2_init 31 = .ok (.aload_n 0, 1) := by decide +kernel
theorem dX2_init_32 : decode cX2_init 32 = .ok (.bipush 10, 2) := by decide +kernel
theorem dX2_init_34 : decode cX2_init 34 = .ok (.newarray .int, 2) := by decide +kernel
theorem dX2_init_36 : decode cX2_init 36 = .ok (.putfield 25, 3) := by decide +kernel
theorem dX2_init_39 : decode cX2_init 39 = .ok (.aload_n 0, 1) := by decide +kernel
theorem dX2_init_40 : decode cX2_init 40 = .ok (.bipush 11, 2) := by decide +kernel
theorem dX2_init_42 : decode cX2_init 42 = .ok (.anewarray 28, 3) := by decide +kernel
theorem dX2_init_45 : decode cX2_init 45 = .ok (.putfield 30, 3) := by decide +kernel
theorem dX2_init_48 : decode cX2_init 48 = .ok (.aload_n 0, 1) := by decide +kernel
theorem dX2_init_49 : decode cX2_init 49 = .ok (.new 28, 3) := by decide +kernel
theorem dX2_init_52 : decode cX2_init 52 = .ok (.dup, 1) := by decide +kernel
theorem dX2_init_53 : decode cX2_init 53 = .ok (.invokespecial 34, 3) := by decide +kernel
theorem dX2_init_56 : decode cX2_init 56 = .ok (.putfield 35, 3) := by decide +kernel
theorem dX2_init_59 : decode cX2_init 59 = .ok (.aload_n 0, 1) := by decide +kernel
theorem dX2_init_60 : decode cX2_init 60 = .ok (.new 28, 3) := by decide +kernel
theorem dX2_init_63 : decode cX2_init 63 = .ok (.dup, 1) := by decide +kernel
theorem dX2_init_64 : decode cX2_init 64 = .ok (.invokespecial 34, 3) := by decide +kernel
theorem dX2_init_67 : decode cX2_init 67 = .ok (.putfield 39, 3) := by decide +kernel
theorem dX2_init_70 : decode cX2_init 70 = .ok (.aload_n 0, 1) := by decide +kernel
theorem dX2_init_71 : decode cX2_init 71 = .ok (.new 28, 3) := by decide +kernel
theorem dX2_init_74 : decode cX2_init 74 = .ok (.dup, 1) := by decide +kernel
theorem dX2_init_75 : decode cX2_init 75 = .ok (.invokespecial 34, 3) := by decide +kernel
theorem dX2_init_78 : decode cX2_init 78 = .ok (.putfield 42, 3) := by decide +kernel
theorem dX2_init_81 : decode cX2_init 81 = .ok (.aload_n 0, 1) := by decide +kernel
theorem dX2_init_82 : decode cX2_init 82 = .ok (.new 28, 3) := by decide +kernel
theorem dX2_init_85 : decode cX2_init 85 = .ok (.dup, 1) := by decide +kernel
theorem dX2_init_86 : decode cX2_init 86 = .ok (.invokespecial 34, 3) := by decide +kernel
theorem dX2_init_89 : decode cX2_init 89 = .ok (.putfield 45, 3) := by decide +kernel
theorem dX2_init_92 : decode cX2_init 92 = .ok (.aload_n 0, 1) := by decide +kernel
theorem dX2_init_93 : decode cX2_init 93 = .ok (.new 28, 3) := by decide +kernel
theorem dX2_init_96 : decode cX2_init 96 = .ok (.dup, 1) := by decide +kernel
theorem dX2_init_97 : decode cX2_init 97 = .ok (.invokespecial 34, 3) := by decide +kernel
theorem dX2_init_100 : decode cX2_init 100 = .ok (.putfield 48, 3) := by decide +kernel
theorem dX2_init_103 : decode cX2_init 103 = .ok (.iconst 0, 1) := by decide +kernel
theorem dX2_init_104 : decode cX2_init 104 = .ok (.istore_n 1, 1) := by decide +kernel
theorem dX2_init_105 : decode cX2_init 105 = .ok (.iload_n 1, 1) := by decide +kernel
theorem dX2_init_106 : decode cX2_init 106 = .ok (.aload_n 0, 1) := by decide +kernel
theorem dX2_init_107 : decode cX2_init 107 = .ok (.getfield 30, 3) := by decide +kernel
theorem dX2_init_110 : decode cX2_init 110 = .ok (.arraylength, 1) := by decide +kernel
theorem dX2_init_111 : decode cX2_init 111 = .ok (.if_icmp .ge 22, 3) := by decide +kernel
theorem dX2_init_114 : decode cX2_init 114 = .ok (.aload_n 0, 1) := by decide +kernel
theorem dX2_init_115 : decode cX2_init 115 = .ok (.getfield 30, 3) := by decide +kernel
theorem dX2_init_118 : decode cX2_init 118 = .ok (.iload_n 1, 1) := by decide +kernel
theorem dX2_init_119 : decode cX2_init 119 = .ok (.new 28, 3) := by decide +kernel
theorem dX2_init_122 : decode cX2_init 122 = .ok (.dup, 1) := by decide +kernel
theorem dX2_init_123 : decode cX2_init 123 = .ok (.invokespecial 34, 3) := by decide +kernel
theorem dX2_init_126 : decode cX2_init 126 = .ok (.aastore, 1) := by decide +kernel
theorem dX2_init_127 : decode cX2_init 127 = .ok (.iinc 1 1, 3) := by decide +kernel
theorem dX2_init_130 : decode cX2_init 130 = .ok (.goto (-25), 3) := by decide +kernel
theorem dX2_init_133 : decode cX2_init 133 = .ok (.return_, 1) := by decide +kernel
set_option maxRecDepth 20000 in
theorem ggX2_size_X3_size : GoodIn wsX2_size wsX3_size := goodIn_r _ [6, 7, 18, 19, 20] (by decide +kernel) (by decide +kernel)
set_option maxRecDepth 20000 in
theorem gX2_size_X3_size : GoodIn wsX2_size (wsV RX2 51 RX3 yX3_size wsX3_size) := goodIn_app (goodIn_of _ (by decide +kernel)) ggX2_size_X3_size
theorem dX2_size_0 : decode cX2_size 0 = .ok (.aload_n 0, 1) := by decide +kernel
theorem dX2_size_1 : decode cX2_size 1 = .ok (.getfield 12, 3) := by decide +kernel
theorem dX2_size_4 : decode cX2_size 4 = .ok (.invokevirtual 51, 3) := by decide +kernel
theorem dX2_size_7 : decode cX2_size 7 = .ok (.ireturn, 1) := by decide +kernel
set_option maxRecDepth 20000 in
theorem ggX2_join_X3_size : GoodIn wsX2_join wsX3_size := goodIn_r _ [7, 8, 24, 25, 26] (by decide +kernel) (by decide +kernel)
set_option maxRecDepth 20000 in
theorem gX2_join_X3_size : GoodIn wsX2_join (wsV RX2 51 RX3 yX3_size wsX3_size) := goodIn_app (goodIn_of _ (by decide +kernel)) ggX2_join_X3_size
set_option maxRecDepth 20000 in
theorem ggX2_join_X3_join : GoodIn wsX2_join wsX3_join := goodIn_r _ [12, 8, 13, 24, 25, 26] (by decide +kernel) (by decide +kernel)
set_option maxRecDepth 20000 in
theorem gX2_join_X3_join : GoodIn wsX2_join (wsV RX2 55 RX3 yX3_join wsX3_join) := goodIn_app (goodIn_of _ (by decide +kernel)) ggX2_join_X3_join
theorem dX2_join_0 : decode cX2_join 0 = .ok (.aload_n 0, 1) := by decide +kernel
theorem dX2_join_1 : decode cX2_join 1 = .ok (.getfield 12, 3) := by decide +kernel
theorem dX2_join_4 : decode cX2_join 4 = .ok (.invokevirtual 51, 3) := by decide +kernel
theorem dX2_join_7 : decode cX2_join 7 = .ok (.istore_n 2, 1) := by decide +kernel
theorem dX2_join_8 : decode cX2_join 8 = .ok (.iload_n 2, 1) := by decide +kernel
theorem dX2_join_9 : decode cX2_join 9 = .ok (.bipush 10, 2) := by decide +kernel
theorem dX2_join_11 : decode cX2_join 11 = .ok (.if_icmp .lt 6, 3) := by decide +kernel
theorem dX2_join_14 : decode cX2_join 14 = .ok (.bipush (-8), 2) := by decide +kernel
theorem dX2_join_16 : decode cX2_join 16 = .ok (.ireturn, 1) := by decide +kernel
theorem dX2_join_17 : decode cX2_join 17 = .ok (.aload_n 0, 1) := by decide +kernel
theorem dX2_join_18 : decode cX2_join 18 = .ok (.getfield 12, 3) := by decide +kernel
theorem dX2_join_21 : decode cX2_join 21 = .ok (.aload_n 1, 1) := by decide +kernel
theorem dX2_join_22 : decode cX2_join 22 = .ok (.invokevirtual 55, 3) := by decide +kernel
theorem dX2_join_25 : decode cX2_join 25 = .ok (.aload_n 0, 1) := by decide +kernel
theorem dX2_join_26 : decode cX2_join 26 = .ok (.getfield 18, 3) := by decide +kernel
theorem dX2_join_29 : decode cX2_join 29 = .ok (.iload_n 2, 1) := by decide +kernel
theorem dX2_join_30 : decode cX2_join 30 = .ok (.iconst 0, 1) := by decide +kernel
theorem dX2_join_31 : decode cX2_join 31 = .ok (.iastore, 1) := by decide +kernel
theorem dX2_join_32 : decode cX2_join 32 = .ok (.iload_n 2, 1) := by decide +kernel
theorem dX2_join_33 : decode cX2_join 33 = .ok (.ireturn, 1) := by decide +kernel
set_option maxRecDepth 20000 in
theorem ggX2_clear_X3_size : GoodIn wsX2_clear wsX3_size := goodIn_r _ [6, 7, 22, 23, 24] (by decide +kernel) (by decide +kernel)
set_option maxRecDepth 20000 in
theorem gX2_clear_X3_size : GoodIn wsX2_clear (wsV RX2 51 RX3 yX3_size wsX3_size) := goodIn_app (goodIn_of _ (by decide +kernel)) ggX2_clear_X3_size
set_option maxRecDepth 20000 in
theorem ggX2_clear_X3_clear : GoodIn wsX2_clear wsX3_clear := goodIn_r _ [11, 7, 22, 23, 24] (by decide +kernel) (by decide +kernel)
set_option maxRecDepth 20000 in
theorem gX2_clear_X3_clear : GoodIn wsX2_clear (wsV RX2 59 RX3 yX3_clear wsX3_clear) := goodIn_app (goodIn_of _ (by decide +kernel)) ggX2_clear_X3_clear
theorem dX2_clear_0 : decode cX2_clear 0 = .ok (.aload_n 0, 1) := by decide +kernel
theorem dX2_clear_1 : decode cX2_clear 1 = .ok (.getfield 12, 3) := by decide +kernel
theorem dX2_clear_4 : decode cX2_clear 4 = .ok (.invokevirtual 51, 3) := by decide +kernel
theorem dX2_clear_7 : decode cX2_clear 7 = .ok (.istore_n 1, 1) := by decide +kernel
theorem dX2_clear_8 : decode cX2_clear 8 = .ok (.aload_n 0, 1) := by decide +kernel
theorem dX2_clear_9 : decode cX2_clear 9 = .ok (.getfield 12, 3) := by decide +kernel
theorem dX2_clear_12 : decode cX2_clear 12 = .ok (.invokevirtual 59, 3) := by decide +kernel
theorem dX2_clear_15 : decode cX2_clear 15 = .ok (.iload_n 1, 1) := by decide +kernel
theorem dX2_clear_16 : decode cX2_clear 16 = .ok (.ireturn, 1) := by decide +kernel
set_option maxRecDepth 20000 in
theorem ggX2_setBar_X10_isWithin : GoodIn wsX2_setBar wsX10_isWithin := goodIn_r _ [5] (by decide +kernel) (by decide +kernel)
set_option maxRecDepth 20000 in
theorem gX2_setBar_X10_isWithin_n64 : GoodIn wsX2_setBar (wsX10_isWithin) := ggX2_setBar_X10_isWithin
theorem dX2_setBar_0 : decode cX2_setBar 0 = .ok (.iload_n 1, 1) := by decide +kernel
theorem dX2_setBar_1 : decode cX2_setBar 1 = .ok (.i2l, 1) := by decide +kernel
theorem dX2_setBar_2 : decode cX2_setBar 2 = .ok (.lconst 0, 1) := by decide +kernel
theorem dX2_setBar_3 : decode cX2_setBar 3 = .ok (.ldc2_w 62, 3) := by decide +kernel
theorem dX2_setBar_6 : decode cX2_setBar 6 = .ok (.invokestatic 64, 3) := by decide +kernel
theorem dX2_setBar_9 : decode cX2_setBar 9 = .ok (.ifCond .eq 10, 3) := by decide +kernel
theorem dX2_setBar_12 : decode cX2_setBar 12 = .ok (.aload_n 0, 1) := by decide +kernel
theorem dX2_setBar_13 : decode cX2_setBar 13 = .ok (.getfield 18, 3) := by decide +kernel
theorem dX2_setBar_16 : decode cX2_setBar 16 = .ok (.iload_n 1, 1) := by decide +kernel
theorem dX2_setBar_17 : decode cX2_setBar 17 = .ok (.iload_n 2, 1) := by decide +kernel
theorem dX2_setBar_18 : decode cX2_setBar 18 = .ok (.iastore, 1) := by decide +kernel
theorem dX2_setBar_19 : decode cX2_setBar 19 = .ok (.return_, 1) := by decide +kernel
set_option maxRecDepth 20000 in
theorem ggX2_followTold_X2_follow : GoodIn wsX2_followTold wsX2_follow := goodIn_r _ [8, 3, 9, 2, 10, 11, 12, 13, 14, 15, 16, 17, 18, 19, 20, 21, 22, 23, 24, 25, 26, 27, 28, 29, 30, 31, 32, 33, 34, 35, 36, 37, 38, 39, 40, 41, 42, 43, 44, 45, 46, 47, 48, 49, 50, 51, 52, 53, 54, 55, 56, 57, 58, 59, 60, 61, 62, 63, 111, 112, 113, 114, 115, 116, 117, 118, 119, 120, 121, 122, 123, 124, 125, 126, 127, 128] (by decide +kernel) (by decide +kernel)
set_option maxRecDepth 20000 in
theorem gX2_followTold_X2_follow : GoodIn wsX2_followTold (wsV RX2 68 RX2 yX2_follow wsX2_follow) := goodIn_app (goodIn_of _ (by decide +kernel)) ggX2_followTold_X2_follow
set_option maxRecDepth 20000 in
theorem ggX2_followTold_X3_divide : GoodIn wsX2_followTold wsX3_divide := goodIn_r _ [67, 29, 68, 69, 70, 71, 72, 73, 74, 75, 76, 77, 78, 17, 79, 22, 80, 81, 82, 83, 84, 15, 16, 18, 19, 20, 12, 21, 23, 85, 86, 87, 88, 89, 90, 91, 92, 93, 31, 32, 27, 33, 34, 35, 36, 37, 38, 94, 60, 61, 42, 62, 63, 95, 96, 97, 98, 99, 100, 101, 102, 103, 104, 105, 106, 107, 108, 109, 110, 48, 49, 50, 122, 123, 124, 129, 130, 131, 132, 133, 121, 125, 126, 127, 128] (by decide +kernel) (by decide +kernel)
set_option maxRecDepth 20000 in
theorem gX2_followTold_X3_divide : GoodIn wsX2_followTold (wsV RX2 72 RX3 yX3_divide wsX3_divide) := goodIn_app (goodIn_of _ (by decide +kernel)) ggX2_followTold_X3_divide
theorem dX2_followTold_0 : decode cX2_followTold 0 = .ok (.aload_n 0, 1) := by decide +kernel
theorem dX2_followTold_1 : decode cX2_followTold 1 = .ok (.aload_n 0, 1) := by decide +kernel
theorem dX2_followTold_2 : decode cX2_followTold 2 = .ok (.getfield 18, 3) := by decide +kernel
theorem dX2_followTold_5 : decode cX2_followTold 5 = .ok (.invokevirtual 68, 3) := by decide +kernel
theorem dX2_followTold_8 : decode cX2_followTold 8 = .ok (.aload_n 0, 1) := by decide +kernel
theorem dX2_followTold_9 : decode cX2_followTold 9 = .ok (.getfield 12, 3) := by decide +kernel
theorem dX2_followTold_12 : decode cX2_followTold 12 = .ok (.aload_n 0, 1) := by decide +kernel
theorem dX2_followTold_13 : decode cX2_followTold 13 = .ok (.getfield 35, 3) := by decide +kernel
theorem dX2_followTold_16 : decode cX2_followTold 16 = .ok (.aload_n 1, 1) := by decide +kernel
theorem dX2_followTold_17 : decode cX2_followTold 17 = .ok (.invokevirtual 72, 3) := by decide +kernel
theorem dX2_followTold_20 : decode cX2_followTold 20 = .ok (.return_, 1) := by decide +kernel
set_option maxRecDepth 20000 in
theorem ggX2_follow_X5_put : GoodIn wsX2_follow wsX5_put := goodIn_r _ [12, 13, 14, 6, 15, 16, 17, 68] (by decide +kernel) (by decide +kernel)
set_option maxRecDepth 20000 in
theorem gX2_follow_X5_put : GoodIn wsX2_follow (wsV RX2 76 RX5 yX5_put wsX5_put) := goodIn_app (goodIn_of _ (by decide +kernel)) ggX2_follow_X5_put
set_option maxRecDepth 20000 in
theorem ggX2_follow_X3_size : GoodIn wsX2_follow wsX3_size := goodIn_r _ [22, 23, 69, 70, 71] (by decide +kernel) (by decide +kernel)
set_option maxRecDepth 20000 in
theorem gX2_follow_X3_size : GoodIn wsX2_follow (wsV RX2 51 RX3 yX3_size wsX3_size) := goodIn_app (goodIn_of _ (by decide +kernel)) ggX2_follow_X3_size
set_option maxRecDepth 20000 in
theorem ggX2_follow_X3_at : GoodIn wsX2_follow wsX3_at := goodIn_r _ [27, 23, 28, 29, 30, 31, 32, 69, 70, 71] (by decide +kernel) (by decide +kernel)
set_option maxRecDepth 20000 in
theorem gX2_follow_X3_at : GoodIn wsX2_follow (wsV RX2 86 RX3 yX3_at wsX3_at) := goodIn_app (goodIn_of _ (by decide +kernel)) ggX2_follow_X3_at
set_option maxRecDepth 20000 in
theorem ggX2_follow_X0_below : GoodIn wsX2_follow wsX0_below := goodIn_r _ [37, 38, 39, 40, 72, 73, 74, 75] (by decide +kernel) (by decide +kernel)
set_option maxRecDepth 20000 in
theorem gX2_follow_X0_below : GoodIn wsX2_follow (wsV RX2 90 RX0 yX0_below wsX0_below) := goodIn_app (goodIn_of _ (by decide +kernel)) ggX2_follow_X0_below
set_option maxRecDepth 20000 in
theorem ggX2_follow_X5_times : GoodIn wsX2_follow wsX5_times := goodIn_r _ [44, 16, 17, 68] (by decide +kernel) (by decide +kernel)
set_option maxRecDepth 20000 in
theorem gX2_follow_X5_times : GoodIn wsX2_follow (wsV RX2 96 RX5 yX5_times wsX5_times) := goodIn_app (goodIn_of _ (by decide +kernel)) ggX2_follow_X5_times
set_option maxRecDepth 20000 in
theorem ggX2_follow_X0_gathered : GoodIn wsX2_follow wsX0_gathered := goodIn_r _ [48, 38, 39, 40, 72, 73, 74, 75] (by decide +kernel) (by decide +kernel)
set_option maxRecDepth 20000 in
theorem gX2_follow_X0_gathered : GoodIn wsX2_follow (wsV RX2 99 RX0 yX0_gathered wsX0_gathered) := goodIn_app (goodIn_of _ (by decide +kernel)) ggX2_follow_X0_gathered
set_option maxRecDepth 20000 in
theorem ggX2_follow_X5_addTimes : GoodIn wsX2_follow wsX5_addTimes := goodIn_r _ [52, 16, 17, 68] (by decide +kernel) (by decide +kernel)
set_option maxRecDepth 20000 in
theorem gX2_follow_X5_addTimes : GoodIn wsX2_follow (wsV RX2 102 RX5 yX5_addTimes wsX5_addTimes) := goodIn_app (goodIn_of _ (by decide +kernel)) ggX2_follow_X5_addTimes
set_option maxRecDepth 20000 in
theorem ggX2_follow_X0_total : GoodIn wsX2_follow wsX0_total := goodIn_r _ [56, 57, 72, 73, 74, 75] (by decide +kernel) (by decide +kernel)
set_option maxRecDepth 20000 in
theorem gX2_follow_X0_total : GoodIn wsX2_follow (wsV RX2 106 RX0 yX0_total wsX0_total) := goodIn_app (goodIn_of _ (by decide +kernel)) ggX2_follow_X0_total
theorem dX2_follow_0 : decode cX2_follow 0 = .ok (.aload_n 0, 1) := by decide +kernel
theorem dX2_follow_1 : decode cX2_follow 1 = .ok (.getfield 35, 3) := by decide +kernel
theorem dX2_follow_4 : decode cX2_follow 4 = .ok (.lconst 0, 1) := by decide +kernel
theorem dX2_follow_5 : decode cX2_follow 5 = .ok (.invokevirtual 76, 3) := by decide +kernel
theorem dX2_follow_8 : decode cX2_follow 8 = .ok (.aload_n 0, 1) := by decide +kernel
theorem dX2_follow_9 : decode cX2_follow 9 = .ok (.getfield 39, 3) := by decide +kernel
theorem dX2_follow_12 : decode cX2_follow 12 = .ok (.lconst 1, 1) := by decide +kernel
theorem dX2_follow_13 : decode cX2_follow 13 = .ok (.invokevirtual 76, 3) := by decide +kernel
theorem dX2_follow_16 : decode cX2_follow 16 = .ok (.aload_n 0, 1) := by decide +kernel
theorem dX2_follow_17 : decode cX2_follow 17 = .ok (.getfield 12, 3) := by decide +kernel
theorem dX2_follow_20 : decode cX2_follow 20 = .ok (.invokevirtual 51, 3) := by decide +kernel
theorem dX2_follow_23 : decode cX2_follow 23 = .ok (.aload_n 1, 1) := by decide +kernel
theorem dX2_follow_24 : decode cX2_follow 24 = .ok (.arraylength, 1) := by decide +kernel
theorem dX2_follow_25 : decode cX2_follow 25 = .ok (.invokestatic 80, 3) := by decide +kernel
theorem dX2_follow_28 : decode cX2_follow 28 = .ok (.iconst 1, 1) := by decide +kernel
theorem dX2_follow_29 : decode cX2_follow 29 = .ok (.isub, 1) := by decide +kernel
theorem dX2_follow_30 : decode cX2_follow 30 = .ok (.istore_n 2, 1) := by decide +kernel
theorem dX2_follow_31 : decode cX2_follow 31 = .ok (.iload_n 2, 1) := by decide +kernel
theorem dX2_follow_32 : decode cX2_follow 32 = .ok (.ifCond .lt 64, 3) := by decide +kernel
theorem dX2_follow_35 : decode cX2_follow 35 = .ok (.aload_n 0, 1) := by decide +kernel
theorem dX2_follow_36 : decode cX2_follow 36 = .ok (.getfield 12, 3) := by decide +kernel
theorem dX2_follow_39 : decode cX2_follow 39 = .ok (.iload_n 2, 1) := by decide +kernel
theorem dX2_follow_40 : decode cX2_follow 40 = .ok (.invokevirtual 86, 3) := by decide +kernel
theorem dX2_follow_43 : decode cX2_follow 43 = .ok (.astore_n 3, 1) := by decide +kernel
theorem dX2_follow_44 : decode cX2_follow 44 = .ok (.aload_n 0, 1) := by decide +kernel
theorem dX2_follow_45 : decode cX2_follow 45 = .ok (.getfield 35, 3) := by decide +kernel
theorem dX2_follow_48 : decode cX2_follow 48 = .ok (.aload_n 3, 1) := by decide +kernel
theorem dX2_follow_49 : decode cX2_follow 49 = .ok (.aload_n 1, 1) := by decide +kernel
theorem dX2_follow_50 : decode cX2_follow 50 = .ok (.iload_n 2, 1) := by decide +kernel
theorem dX2_follow_51 : decode cX2_follow 51 = .ok (.iaload, 1) := by decide +kernel
theorem dX2_follow_52 : decode cX2_follow 52 = .ok (.invokevirtual 90, 3) := by decide +kernel
theorem dX2_follow_55 : decode cX2_follow 55 = .ok (.i2l, 1) := by decide +kernel
theorem dX2_follow_56 : decode cX2_follow 56 = .ok (.invokevirtual 96, 3) := by decide +kernel
theorem dX2_follow_59 : decode cX2_follow 59 = .ok (.aload_n 0, 1) := by decide +kernel
theorem dX2_follow_60 : decode cX2_follow 60 = .ok (.getfield 35, 3) := by decide +kernel
theorem dX2_follow_63 : decode cX2_follow 63 = .ok (.aload_n 0, 1) := by decide +kernel
theorem dX2_follow_64 : decode cX2_follow 64 = .ok (.getfield 39, 3) := by decide +kernel
theorem dX2_follow_67 : decode cX2_follow 67 = .ok (.aload_n 3, 1) := by decide +kernel
theorem dX2_follow_68 : decode cX2_follow 68 = .ok (.aload_n 1, 1) := by decide +kernel
theorem dX2_follow_69 : decode cX2_follow 69 = .ok (.iload_n 2, 1) := by decide +kernel
theorem dX2_follow_70 : decode cX2_follow 70 = .ok (.iaload, 1) := by decide +kernel
theorem dX2_follow_71 : decode cX2_follow 71 = .ok (.invokevirtual 99, 3) := by decide +kernel
theorem dX2_follow_74 : decode cX2_follow 74 = .ok (.i2l, 1) := by decide +kernel
theorem dX2_follow_75 : decode cX2_follow 75 = .ok (.invokevirtual 102, 3) := by decide +kernel
theorem dX2_follow_78 : decode cX2_follow 78 = .ok (.aload_n 0, 1) := by decide +kernel
theorem dX2_follow_79 : decode cX2_follow 79 = .ok (.getfield 39, 3) := by decide +kernel
theorem dX2_follow_82 : decode cX2_follow 82 = .ok (.aload_n 3, 1) := by decide +kernel
theorem dX2_follow_83 : decode cX2_follow 83 = .ok (.invokevirtual 106, 3) := by decide +kernel
theorem dX2_follow_86 : decode cX2_follow 86 = .ok (.i2l, 1) := by decide +kernel
theorem dX2_follow_87 : decode cX2_follow 87 = .ok (.invokevirtual 96, 3) := by decide +kernel
theorem dX2_follow_90 : decode cX2_follow 90 = .ok (.iinc 2 (-1), 3) := by decide +kernel
theorem dX2_follow_93 : decode cX2_follow 93 = .ok (.goto (-62), 3) := by decide +kernel
theorem dX2_follow_96 : decode cX2_follow 96 = .ok (.return_, 1) := by decide +kernel
set_option maxRecDepth 20000 in
theorem ggX2_chooseUpTo_X2_choose : GoodIn wsX2_chooseUpTo wsX2_choose := goodIn_r _ [8, 2, 9, 1, 10, 11, 12, 13, 14, 15, 16, 17, 18, 19, 20, 21, 22, 23, 24, 25, 26, 27, 28, 29, 30, 31, 32, 33, 34, 35, 36, 37, 38, 39, 40, 41, 42, 7, 43, 44, 45, 46, 47, 48, 49, 50, 51, 52, 53, 54, 55, 56, 57, 58, 59, 60, 61, 62, 63, 64, 65, 66, 67, 68, 69, 70, 71, 72, 73, 74, 75, 76, 77, 78, 79, 80, 81, 82, 83, 84, 85, 86, 87, 88, 89, 90, 91, 92, 93, 134, 135, 136, 137, 138, 139, 140, 141, 142, 143, 144, 145, 146, 147, 148, 149, 150, 151] (by decide +kernel) (by decide +kernel)
set_option maxRecDepth 20000 in
theorem gX2_chooseUpTo_X2_choose : GoodIn wsX2_chooseUpTo (wsV RX2 109 RX2 yX2_choose wsX2_choose) := goodIn_app (goodIn_of _ (by decide +kernel)) ggX2_chooseUpTo_X2_choose
set_option maxRecDepth 20000 in
theorem ggX2_chooseUpTo_X10_isWithin : GoodIn wsX2_chooseUpTo wsX10_isWithin := goodIn_r _ [39] (by decide +kernel) (by decide +kernel)
set_option maxRecDepth 20000 in
theorem gX2_chooseUpTo_X10_isWithin_n64 : GoodIn wsX2_chooseUpTo (wsX10_isWithin) := ggX2_chooseUpTo_X10_isWithin
set_option maxRecDepth 20000 in
theorem ggX2_chooseUpTo_X3_divide : GoodIn wsX2_chooseUpTo wsX3_divide := goodIn_r _ [97, 30, 98, 99, 100, 101, 102, 103, 104, 105, 106, 57, 58, 18, 59, 23, 60, 61, 62, 63, 107, 16, 17, 19, 20, 21, 12, 22, 24, 108, 109, 110, 111, 112, 113, 114, 115, 116, 32, 33, 28, 34, 35, 36, 37, 38, 39, 117, 86, 87, 52, 88, 89, 118, 119, 120, 121, 122, 123, 124, 125, 126, 127, 128, 129, 130, 131, 132, 133, 82, 83, 84, 145, 146, 147, 152, 153, 154, 155, 156, 144, 148, 149, 150, 151] (by decide +kernel) (by decide +kernel)
set_option maxRecDepth 20000 in
theorem gX2_chooseUpTo_X3_divide : GoodIn wsX2_chooseUpTo (wsV RX2 72 RX3 yX3_divide wsX3_divide) := goodIn_app (goodIn_of _ (by decide +kernel)) ggX2_chooseUpTo_X3_divide
theorem dX2_chooseUpTo_0 : decode cX2_chooseUpTo 0 = .ok (.aload_n 0, 1) := by decide +kernel
theorem dX2_chooseUpTo_1 : decode cX2_chooseUpTo 1 = .ok (.iload_n 1, 1) := by decide +kernel
theorem dX2_chooseUpTo_2 : decode cX2_chooseUpTo 2 = .ok (.invokevirtual 109, 3) := by decide +kernel
theorem dX2_chooseUpTo_5 : decode cX2_chooseUpTo 5 = .ok (.aload_n 0, 1) := by decide +kernel
theorem dX2_chooseUpTo_6 : decode cX2_chooseUpTo 6 = .ok (.getfield 12, 3) := by decide +kernel
theorem dX2_chooseUpTo_9 : decode cX2_chooseUpTo 9 = .ok (.aload_n 0, 1) := by decide +kernel
theorem dX2_chooseUpTo_10 : decode cX2_chooseUpTo 10 = .ok (.getfield 30, 3) := by decide +kernel
theorem dX2_chooseUpTo_13 : decode cX2_chooseUpTo 13 = .ok (.iload_n 1, 1) := by decide +kernel
theorem dX2_chooseUpTo_14 : decode cX2_chooseUpTo 14 = .ok (.i2l, 1) := by decide +kernel
theorem dX2_chooseUpTo_15 : decode cX2_chooseUpTo 15 = .ok (.lconst 0, 1) := by decide +kernel
theorem dX2_chooseUpTo_16 : decode cX2_chooseUpTo 16 = .ok (.ldc2_w 113, 3) := by decide +kernel
theorem dX2_chooseUpTo_19 : decode cX2_chooseUpTo 19 = .ok (.invokestatic 64, 3) := by decide +kernel
theorem dX2_chooseUpTo_22 : decode cX2_chooseUpTo 22 = .ok (.ifCond .eq 7, 3) := by decide +kernel
theorem dX2_chooseUpTo_25 : decode cX2_chooseUpTo 25 = .ok (.iload_n 1, 1) := by decide +kernel
theorem dX2_chooseUpTo_26 : decode cX2_chooseUpTo 26 = .ok (.goto 4, 3) := by decide +kernel
theorem dX2_chooseUpTo_29 : decode cX2_chooseUpTo 29 = .ok (.iconst 0, 1) := by decide +kernel
theorem dX2_chooseUpTo_30 : decode cX2_chooseUpTo 30 = .ok (.aaload, 1) := by decide +kernel
theorem dX2_chooseUpTo_31 : decode cX2_chooseUpTo 31 = .ok (.aload_n 2, 1) := by decide +kernel
theorem dX2_chooseUpTo_32 : decode cX2_chooseUpTo 32 = .ok (.invokevirtual 72, 3) := by decide +kernel
theorem dX2_chooseUpTo_35 : decode cX2_chooseUpTo 35 = .ok (.return_, 1) := by decide +kernel
set_option maxRecDepth 20000 in
theorem ggX2_bestBar_X2_choose : GoodIn wsX2_bestBar wsX2_choose := goodIn_r _ [7, 8, 9, 10, 11, 12, 13, 14, 2, 15, 16, 17, 18, 19, 20, 21, 22, 23, 24, 25, 26, 27, 28, 29, 30, 31, 32, 33, 34, 35, 36, 37, 38, 39, 40, 41, 42, 6, 43, 44, 45, 46, 47, 48, 49, 50, 51, 52, 53, 54, 55, 56, 57, 58, 59, 60, 61, 62, 63, 64, 65, 66, 67, 68, 69, 70, 71, 72, 73, 74, 75, 76, 77, 78, 79, 80, 81, 82, 83, 84, 85, 86, 87, 88, 89, 90, 91, 92, 93, 94, 95, 96, 97, 98, 99, 100, 101, 102, 103, 104, 105, 106, 107, 108, 109, 110, 111] (by decide +kernel) (by decide +kernel)
set_option maxRecDepth 20000 in
theorem gX2_bestBar_X2_choose : GoodIn wsX2_bestBar (wsV RX2 109 RX2 yX2_choose wsX2_choose) := goodIn_app (goodIn_of _ (by decide +kernel)) ggX2_bestBar_X2_choose
set_option maxRecDepth 20000 in
theorem ggX2_bestBar_X10_isWithin : GoodIn wsX2_bestBar wsX10_isWithin := goodIn_r _ [39] (by decide +kernel) (by decide +kernel)
set_option maxRecDepth 20000 in
theorem gX2_bestBar_X10_isWithin_n64 : GoodIn wsX2_bestBar (wsX10_isWithin) := ggX2_bestBar_X10_isWithin
theorem dX2_bestBar_0 : decode cX2_bestBar 0 = .ok (.aload_n 0, 1) := by decide +kernel
theorem dX2_bestBar_1 : decode cX2_bestBar 1 = .ok (.iconst 1, 1) := by decide +kernel
theorem dX2_bestBar_2 : decode cX2_bestBar 2 = .ok (.invokevirtual 109, 3) := by decide +kernel
theorem dX2_bestBar_5 : decode cX2_bestBar 5 = .ok (.iload_n 1, 1) := by decide +kernel
theorem dX2_bestBar_6 : decode cX2_bestBar 6 = .ok (.i2l, 1) := by decide +kernel
theorem dX2_bestBar_7 : decode cX2_bestBar 7 = .ok (.lconst 0, 1) := by decide +kernel
theorem dX2_bestBar_8 : decode cX2_bestBar 8 = .ok (.ldc2_w 62, 3) := by decide +kernel
theorem dX2_bestBar_11 : decode cX2_bestBar 11 = .ok (.invokestatic 64, 3) := by decide +kernel
theorem dX2_bestBar_14 : decode cX2_bestBar 14 = .ok (.ifCond .eq 12, 3) := by decide +kernel
theorem dX2_bestBar_17 : decode cX2_bestBar 17 = .ok (.aload_n 0, 1) := by decide +kernel
theorem dX2_bestBar_18 : decode cX2_bestBar 18 = .ok (.getfield 22, 3) := by decide +kernel
theorem dX2_bestBar_21 : decode cX2_bestBar 21 = .ok (.iload_n 1, 1) := by decide +kernel
theorem dX2_bestBar_22 : decode cX2_bestBar 22 = .ok (.iaload, 1) := by decide +kernel
theorem dX2_bestBar_23 : decode cX2_bestBar 23 = .ok (.goto 4, 3) := by decide +kernel
theorem dX2_bestBar_26 : decode cX2_bestBar 26 = .ok (.iconst (-1), 1) := by decide +kernel
theorem dX2_bestBar_27 : decode cX2_bestBar 27 = .ok (.ireturn, 1) := by decide +kernel
set_option maxRecDepth 20000 in
theorem ggX2_choose_X5_put : GoodIn wsX2_choose wsX5_put := goodIn_r _ [13, 14, 15, 6, 16, 17, 18, 99] (by decide +kernel) (by decide +kernel)
set_option maxRecDepth 20000 in
theorem gX2_choose_X5_put : GoodIn wsX2_choose (wsV RX2 76 RX5 yX5_put wsX5_put) := goodIn_app (goodIn_of _ (by decide +kernel)) ggX2_choose_X5_put
set_option maxRecDepth 20000 in
theorem ggX2_choose_X3_size : GoodIn wsX2_choose wsX3_size := goodIn_r _ [23, 24, 100, 101, 102] (by decide +kernel) (by decide +kernel)
set_option maxRecDepth 20000 in
theorem gX2_choose_X3_size : GoodIn wsX2_choose (wsV RX2 51 RX3 yX3_size wsX3_size) := goodIn_app (goodIn_of _ (by decide +kernel)) ggX2_choose_X3_size
set_option maxRecDepth 20000 in
theorem ggX2_choose_X3_at : GoodIn wsX2_choose wsX3_at := goodIn_r _ [28, 24, 29, 30, 31, 32, 33, 100, 101, 102] (by decide +kernel) (by decide +kernel)
set_option maxRecDepth 20000 in
theorem gX2_choose_X3_at : GoodIn wsX2_choose (wsV RX2 86 RX3 yX3_at wsX3_at) := goodIn_app (goodIn_of _ (by decide +kernel)) ggX2_choose_X3_at
set_option maxRecDepth 20000 in
theorem ggX2_choose_X2_chooseAt : GoodIn wsX2_choose wsX2_chooseAt := goodIn_r _ [38, 2, 39, 40, 41, 37, 42, 43, 44, 45, 46, 47, 48, 49, 50, 51, 52, 53, 12, 54, 17, 55, 56, 57, 58, 59, 60, 61, 62, 18, 63, 64, 65, 66, 67, 68, 69, 70, 71, 72, 73, 74, 75, 76, 77, 78, 79, 80, 81, 82, 83, 84, 85, 86, 87, 88, 89, 90, 91, 92, 93, 94, 95, 96, 97, 98, 103, 104, 105, 106, 99] (by decide +kernel) (by decide +kernel)
set_option maxRecDepth 20000 in
theorem gX2_choose_X2_chooseAt : GoodIn wsX2_choose (wsV RX2 115 RX2 yX2_chooseAt wsX2_chooseAt) := goodIn_app (goodIn_of _ (by decide +kernel)) ggX2_choose_X2_chooseAt
set_option maxRecDepth 20000 in
theorem ggX2_choose_X0_total : GoodIn wsX2_choose wsX0_total := goodIn_r _ [83, 84, 103, 104, 105, 106] (by decide +kernel) (by decide +kernel)
set_option maxRecDepth 20000 in
theorem gX2_choose_X0_total : GoodIn wsX2_choose (wsV RX2 106 RX0 yX0_total wsX0_total) := goodIn_app (goodIn_of _ (by decide +kernel)) ggX2_choose_X0_total
set_option maxRecDepth 20000 in
theorem ggX2_choose_X5_times : GoodIn wsX2_choose wsX5_times := goodIn_r _ [79, 17, 18, 99] (by decide +kernel) (by decide +kernel)
set_option maxRecDepth 20000 in
theorem gX2_choose_X5_times : GoodIn wsX2_choose (wsV RX2 96 RX5 yX5_times wsX5_times) := goodIn_app (goodIn_of _ (by decide +kernel)) ggX2_choose_X5_times
theorem dX2_choose_0 : decode cX2_choose 0 = .ok (.iconst 0, 1) := by decide +kernel
theorem dX2_choose_1 : decode cX2_choose 1 = .ok (.istore_n 2, 1) := by decide +kernel
theorem dX2_choose_2 : decode cX2_choose 2 = .ok (.iload_n 2, 1) := by decide +kernel
theorem dX2_choose_3 : decode cX2_choose 3 = .ok (.aload_n 0, 1) := by decide +kernel
theorem dX2_choose_4 : decode cX2_choose 4 = .ok (.getfield 30, 3) := by decide +kernel
theorem dX2_choose_7 : decode cX2_choose 7 = .ok (.arraylength, 1) := by decide +kernel
theorem dX2_choose_8 : decode cX2_choose 8 = .ok (.if_icmp .ge 19, 3) := by decide +kernel
theorem dX2_choose_11 : decode cX2_choose 11 = .ok (.aload_n 0, 1) := by decide +kernel
theorem dX2_choose_12 : decode cX2_choose 12 = .ok (.getfield 30, 3) := by decide +kernel
theorem dX2_choose_15 : decode cX2_choose 15 = .ok (.iload_n 2, 1) := by decide +kernel
theorem dX2_choose_16 : decode cX2_choose 16 = .ok (.aaload, 1) := by decide +kernel
theorem dX2_choose_17 : decode cX2_choose 17 = .ok (.lconst 0, 1) := by decide +kernel
theorem dX2_choose_18 : decode cX2_choose 18 = .ok (.invokevirtual 76, 3) := by decide +kernel
theorem dX2_choose_21 : decode cX2_choose 21 = .ok (.iinc 2 1, 3) := by decide +kernel
theorem dX2_choose_24 : decode cX2_choose 24 = .ok (.goto (-22), 3) := by decide +kernel
theorem dX2_choose_27 : decode cX2_choose 27 = .ok (.aload_n 0, 1) := by decide +kernel
theorem dX2_choose_28 : decode cX2_choose 28 = .ok (.getfield 39, 3) := by decide +kernel
theorem dX2_choose_31 : decode cX2_choose 31 = .ok (.lconst 1, 1) := by decide +kernel
theorem dX2_choose_32 : decode cX2_choose 32 = .ok (.invokevirtual 76, 3) := by decide +kernel
theorem dX2_choose_35 : decode cX2_choose 35 = .ok (.aload_n 0, 1) := by decide +kernel
theorem dX2_choose_36 : decode cX2_choose 36 = .ok (.getfield 12, 3) := by decide +kernel
theorem dX2_choose_39 : decode cX2_choose 39 = .ok (.invokevirtual 51, 3) := by decide +kernel
theorem dX2_choose_42 : decode cX2_choose 42 = .ok (.bipush 10, 2) := by decide +kernel
theorem dX2_choose_44 : decode cX2_choose 44 = .ok (.invokestatic 80, 3) := by decide +kernel
theorem dX2_choose_47 : decode cX2_choose 47 = .ok (.iconst 1, 1) := by decide +kernel
theorem dX2_choose_48 : decode cX2_choose 48 = .ok (.isub, 1) := by decide +kernel
theorem dX2_choose_49 : decode cX2_choose 49 = .ok (.istore_n 2, 1) := by decide +kernel
theorem dX2_choose_50 : decode cX2_choose 50 = .ok (.iload_n 2, 1) := by decide +kernel
theorem dX2_choose_51 : decode cX2_choose 51 = .ok (.ifCond .lt 77, 3) := by decide +kernel
theorem dX2_choose_54 : decode cX2_choose 54 = .ok (.aload_n 0, 1) := by decide +kernel
theorem dX2_choose_55 : decode cX2_choose 55 = .ok (.getfield 12, 3) := by decide +kernel
theorem dX2_choose_58 : decode cX2_choose 58 = .ok (.iload_n 2, 1) := by decide +kernel
theorem dX2_choose_59 : decode cX2_choose 59 = .ok (.invokevirtual 86, 3) := by decide +kernel
theorem dX2_choose_62 : decode cX2_choose 62 = .ok (.astore_n 3, 1) := by decide +kernel
theorem dX2_choose_63 : decode cX2_choose 63 = .ok (.iload_n 1, 1) := by decide +kernel
theorem dX2_choose_64 : decode cX2_choose 64 = .ok (.bipush 10, 2) := by decide +kernel
theorem dX2_choose_66 : decode cX2_choose 66 = .ok (.invokestatic 80, 3) := by decide +kernel
theorem dX2_choose_69 : decode cX2_choose 69 = .ok (.istore 4, 2) := by decide +kernel
theorem dX2_choose_71 : decode cX2_choose 71 = .ok (.iload 4, 2) := by decide +kernel
theorem dX2_choose_73 : decode cX2_choose 73 = .ok (.iconst 1, 1) := by decide +kernel
theorem dX2_choose_74 : decode cX2_choose 74 = .ok (.if_icmp .lt 36, 3) := by decide +kernel
theorem dX2_choose_77 : decode cX2_choose 77 = .ok (.aload_n 0, 1) := by decide +kernel
theorem dX2_choose_78 : decode cX2_choose 78 = .ok (.getfield 22, 3) := by decide +kernel
theorem dX2_choose_81 : decode cX2_choose 81 = .ok (.iload_n 2, 1) := by decide +kernel
theorem dX2_choose_82 : decode cX2_choose 82 = .ok (.aload_n 0, 1) := by decide +kernel
theorem dX2_choose_83 : decode cX2_choose 83 = .ok (.aload_n 3, 1) := by decide +kernel
theorem dX2_choose_84 : decode cX2_choose 84 = .ok (.aload_n 0, 1) := by decide +kernel
theorem dX2_choose_85 : decode cX2_choose 85 = .ok (.getfield 30, 3) := by decide +kernel
theorem dX2_choose_88 : decode cX2_choose 88 = .ok (.iload 4, 2) := by decide +kernel
theorem dX2_choose_90 : decode cX2_choose 90 = .ok (.iconst 1, 1) := by decide +kernel
theorem dX2_choose_91 : decode cX2_choose 91 = .ok (.isub, 1) := by decide +kernel
theorem dX2_choose_92 : decode cX2_choose 92 = .ok (.aaload, 1) := by decide +kernel
theorem dX2_choose_93 : decode cX2_choose 93 = .ok (.aload_n 0, 1) := by decide +kernel
theorem dX2_choose_94 : decode cX2_choose 94 = .ok (.getfield 30, 3) := by decide +kernel
theorem dX2_choose_97 : decode cX2_choose 97 = .ok (.iload 4, 2) := by decide +kernel
theorem dX2_choose_99 : decode cX2_choose 99 = .ok (.aaload, 1) := by decide +kernel
theorem dX2_choose_100 : decode cX2_choose 100 = .ok (.invokevirtual 115, 3) := by decide +kernel
theorem dX2_choose_103 : decode cX2_choose 103 = .ok (.iastore, 1) := by decide +kernel
theorem dX2_choose_104 : decode cX2_choose 104 = .ok (.iinc 4 (-1), 3) := by decide +kernel
theorem dX2_choose_107 : decode cX2_choose 107 = .ok (.goto (-36), 3) := by decide +kernel
theorem dX2_choose_110 : decode cX2_choose 110 = .ok (.aload_n 0, 1) := by decide +kernel
theorem dX2_choose_111 : decode cX2_choose 111 = .ok (.getfield 39, 3) := by decide +kernel
theorem dX2_choose_114 : decode cX2_choose 114 = .ok (.aload_n 3, 1) := by decide +kernel
theorem dX2_choose_115 : decode cX2_choose 115 = .ok (.invokevirtual 106, 3) := by decide +kernel
theorem dX2_choose_118 : decode cX2_choose 118 = .ok (.i2l, 1) := by decide +kernel
theorem dX2_choose_119 : decode cX2_choose 119 = .ok (.invokevirtual 96, 3) := by decide +kernel
theorem dX2_choose_122 : decode cX2_choose 122 = .ok (.iinc 2 (-1), 3) := by decide +kernel
theorem dX2_choose_125 : decode cX2_choose 125 = .ok (.goto (-75), 3) := by decide +kernel
theorem dX2_choose_128 : decode cX2_choose 128 = .ok (.return_, 1) := by decide +kernel
set_option maxRecDepth 20000 in
theorem ggX2_chooseAt_X2_lowestBar : GoodIn wsX2_chooseAt wsX2_lowestBar := goodIn_r _ [6, 7, 1, 8, 9, 10, 11, 12, 13, 14, 15, 16, 17, 18, 19, 20, 21, 22, 23, 24, 25, 26, 27, 28, 29, 30, 31, 32, 33, 34, 35, 36, 37, 56, 57, 58, 59, 60, 61, 62, 63, 64, 65, 66, 67, 68, 69, 70] (by decide +kernel) (by decide +kernel)
set_option maxRecDepth 20000 in
theorem gX2_chooseAt_X2_lowestBar : GoodIn wsX2_chooseAt (wsV RX2 119 RX2 yX2_lowestBar wsX2_lowestBar) := goodIn_app (goodIn_of _ (by decide +kernel)) ggX2_chooseAt_X2_lowestBar
set_option maxRecDepth 20000 in
theorem ggX2_chooseAt_X0_below : GoodIn wsX2_chooseAt wsX0_below := goodIn_r _ [41, 13, 14, 42, 66, 67, 68, 69] (by decide +kernel) (by decide +kernel)
set_option maxRecDepth 20000 in
theorem gX2_chooseAt_X0_below : GoodIn wsX2_chooseAt (wsV RX2 90 RX0 yX0_below wsX0_below) := goodIn_app (goodIn_of _ (by decide +kernel)) ggX2_chooseAt_X0_below
set_option maxRecDepth 20000 in
theorem ggX2_chooseAt_X5_times : GoodIn wsX2_chooseAt wsX5_times := goodIn_r _ [46, 20, 29, 70] (by decide +kernel) (by decide +kernel)
set_option maxRecDepth 20000 in
theorem gX2_chooseAt_X5_times : GoodIn wsX2_chooseAt (wsV RX2 96 RX5 yX5_times wsX5_times) := goodIn_app (goodIn_of _ (by decide +kernel)) ggX2_chooseAt_X5_times
set_option maxRecDepth 20000 in
theorem ggX2_chooseAt_X0_total : GoodIn wsX2_chooseAt wsX0_total := goodIn_r _ [50, 51, 66, 67, 68, 69] (by decide +kernel) (by decide +kernel)
set_option maxRecDepth 20000 in
theorem gX2_chooseAt_X0_total : GoodIn wsX2_chooseAt (wsV RX2 106 RX0 yX0_total wsX0_total) := goodIn_app (goodIn_of _ (by decide +kernel)) ggX2_chooseAt_X0_total
set_option maxRecDepth 20000 in
theorem ggX2_chooseAt_X5_addTimes : GoodIn wsX2_chooseAt wsX5_addTimes := goodIn_r _ [28, 20, 29, 70] (by decide +kernel) (by decide +kernel)
set_option maxRecDepth 20000 in
theorem gX2_chooseAt_X5_addTimes : GoodIn wsX2_chooseAt (wsV RX2 102 RX5 yX5_addTimes wsX5_addTimes) := goodIn_app (goodIn_of _ (by decide +kernel)) ggX2_chooseAt_X5_addTimes
set_option maxRecDepth 20000 in
theorem ggX2_chooseAt_X0_gathered : GoodIn wsX2_chooseAt wsX0_gathered := goodIn_r _ [55, 13, 14, 42, 66, 67, 68, 69] (by decide +kernel) (by decide +kernel)
set_option maxRecDepth 20000 in
theorem gX2_chooseAt_X0_gathered : GoodIn wsX2_chooseAt (wsV RX2 99 RX0 yX0_gathered wsX0_gathered) := goodIn_app (goodIn_of _ (by decide +kernel)) ggX2_chooseAt_X0_gathered
theorem dX2_chooseAt_0 : decode cX2_chooseAt 0 = .ok (.aload_n 0, 1) := by decide +kernel
theorem dX2_chooseAt_1 : decode cX2_chooseAt 1 = .ok (.aload_n 1, 1) := by decide +kernel
theorem dX2_chooseAt_2 : decode cX2_chooseAt 2 = .ok (.aload_n 2, 1) := by decide +kernel
theorem dX2_chooseAt_3 : decode cX2_chooseAt 3 = .ok (.aload_n 3, 1) := by decide +kernel
theorem dX2_chooseAt_4 : decode cX2_chooseAt 4 = .ok (.invokevirtual 119, 3) := by decide +kernel
theorem dX2_chooseAt_7 : decode cX2_chooseAt 7 = .ok (.istore 4, 2) := by decide +kernel
theorem dX2_chooseAt_9 : decode cX2_chooseAt 9 = .ok (.aload_n 1, 1) := by decide +kernel
theorem dX2_chooseAt_10 : decode cX2_chooseAt 10 = .ok (.iload 4, 2) := by decide +kernel
theorem dX2_chooseAt_12 : decode cX2_chooseAt 12 = .ok (.invokevirtual 90, 3) := by decide +kernel
theorem dX2_chooseAt_15 : decode cX2_chooseAt 15 = .ok (.istore 5, 2) := by decide +kernel
theorem dX2_chooseAt_17 : decode cX2_chooseAt 17 = .ok (.aload_n 3, 1) := by decide +kernel
theorem dX2_chooseAt_18 : decode cX2_chooseAt 18 = .ok (.iload 5, 2) := by decide +kernel
theorem dX2_chooseAt_20 : decode cX2_chooseAt 20 = .ok (.i2l, 1) := by decide +kernel
theorem dX2_chooseAt_21 : decode cX2_chooseAt 21 = .ok (.invokevirtual 96, 3) := by decide +kernel
theorem dX2_chooseAt_24 : decode cX2_chooseAt 24 = .ok (.aload_n 3, 1) := by decide +kernel
theorem dX2_chooseAt_25 : decode cX2_chooseAt 25 = .ok (.aload_n 2, 1) := by decide +kernel
theorem dX2_chooseAt_26 : decode cX2_chooseAt 26 = .ok (.aload_n 1, 1) := by decide +kernel
theorem dX2_chooseAt_27 : decode cX2_chooseAt 27 = .ok (.invokevirtual 106, 3) := by decide +kernel
theorem dX2_chooseAt_30 : decode cX2_chooseAt 30 = .ok (.iload 5, 2) := by decide +kernel
theorem dX2_chooseAt_32 : decode cX2_chooseAt 32 = .ok (.isub, 1) := by decide +kernel
theorem dX2_chooseAt_33 : decode cX2_chooseAt 33 = .ok (.i2l, 1) := by decide +kernel
theorem dX2_chooseAt_34 : decode cX2_chooseAt 34 = .ok (.invokevirtual 102, 3) := by decide +kernel
theorem dX2_chooseAt_37 : decode cX2_chooseAt 37 = .ok (.aload_n 3, 1) := by decide +kernel
theorem dX2_chooseAt_38 : decode cX2_chooseAt 38 = .ok (.aload_n 0, 1) := by decide +kernel
theorem dX2_chooseAt_39 : decode cX2_chooseAt 39 = .ok (.getfield 39, 3) := by decide +kernel
theorem dX2_chooseAt_42 : decode cX2_chooseAt 42 = .ok (.aload_n 1, 1) := by decide +kernel
theorem dX2_chooseAt_43 : decode cX2_chooseAt 43 = .ok (.iload 4, 2) := by decide +kernel
theorem dX2_chooseAt_45 : decode cX2_chooseAt 45 = .ok (.invokevirtual 99, 3) := by decide +kernel
theorem dX2_chooseAt_48 : decode cX2_chooseAt 48 = .ok (.i2l, 1) := by decide +kernel
theorem dX2_chooseAt_49 : decode cX2_chooseAt 49 = .ok (.invokevirtual 102, 3) := by decide +kernel
theorem dX2_chooseAt_52 : decode cX2_chooseAt 52 = .ok (.iload 4, 2) := by decide +kernel
theorem dX2_chooseAt_54 : decode cX2_chooseAt 54 = .ok (.ireturn, 1) := by decide +kernel
set_option maxRecDepth 20000 in
theorem ggX2_lowestBar_X0_leastFrom : GoodIn wsX2_lowestBar wsX0_leastFrom := goodIn_r _ [7, 8, 9, 43, 44, 45, 46] (by decide +kernel) (by decide +kernel)
set_option maxRecDepth 20000 in
theorem gX2_lowestBar_X0_leastFrom : GoodIn wsX2_lowestBar (wsV RX2 122 RX0 yX0_leastFrom wsX0_leastFrom) := goodIn_app (goodIn_of _ (by decide +kernel)) ggX2_lowestBar_X0_leastFrom
set_option maxRecDepth 20000 in
theorem ggX2_lowestBar_X5_copy : GoodIn wsX2_lowestBar wsX5_copy := goodIn_r _ [14, 15, 16, 17, 18, 19, 47] (by decide +kernel) (by decide +kernel)
set_option maxRecDepth 20000 in
theorem gX2_lowestBar_X5_copy : GoodIn wsX2_lowestBar (wsV RX2 125 RX5 yX5_copy wsX5_copy) := goodIn_app (goodIn_of _ (by decide +kernel)) ggX2_lowestBar_X5_copy
set_option maxRecDepth 20000 in
theorem ggX2_lowestBar_X5_addTimes : GoodIn wsX2_lowestBar wsX5_addTimes := goodIn_r _ [23, 15, 24, 47] (by decide +kernel) (by decide +kernel)
set_option maxRecDepth 20000 in
theorem gX2_lowestBar_X5_addTimes : GoodIn wsX2_lowestBar (wsV RX2 102 RX5 yX5_addTimes wsX5_addTimes) := goodIn_app (goodIn_of _ (by decide +kernel)) ggX2_lowestBar_X5_addTimes
set_option maxRecDepth 20000 in
theorem ggX2_lowestBar_X5_against : GoodIn wsX2_lowestBar wsX5_against := goodIn_r _ [28, 15, 29, 30, 31, 32, 47] (by decide +kernel) (by decide +kernel)
set_option maxRecDepth 20000 in
theorem gX2_lowestBar_X5_against : GoodIn wsX2_lowestBar (wsV RX2 129 RX5 yX5_against wsX5_against) := goodIn_app (goodIn_of _ (by decide +kernel)) ggX2_lowestBar_X5_against
theorem dX2_lowestBar_0 : decode cX2_lowestBar 0 = .ok (.iconst 0, 1) := by decide +kernel
theorem dX2_lowestBar_1 : decode cX2_lowestBar 1 = .ok (.istore 4, 2) := by decide +kernel
theorem dX2_lowestBar_3 : decode cX2_lowestBar 3 = .ok (.iconst 0, 1) := by decide +kernel
theorem dX2_lowestBar_4 : decode cX2_lowestBar 4 = .ok (.istore 5, 2) := by decide +kernel
theorem dX2_lowestBar_6 : decode cX2_lowestBar 6 = .ok (.iload 5, 2) := by decide +kernel
theorem dX2_lowestBar_8 : decode cX2_lowestBar 8 = .ok (.bipush 8, 2) := by decide +kernel
theorem dX2_lowestBar_10 : decode cX2_lowestBar 10 = .ok (.if_icmp .ge 68, 3) := by decide +kernel
theorem dX2_lowestBar_13 : decode cX2_lowestBar 13 = .ok (.aload_n 1, 1) := by decide +kernel
theorem dX2_lowestBar_14 : decode cX2_lowestBar 14 = .ok (.iload 4, 2) := by decide +kernel
theorem dX2_lowestBar_16 : decode cX2_lowestBar 16 = .ok (.invokevirtual 122, 3) := by decide +kernel
theorem dX2_lowestBar_19 : decode cX2_lowestBar 19 = .ok (.istore 6, 2) := by decide +kernel
theorem dX2_lowestBar_21 : decode cX2_lowestBar 21 = .ok (.iload 6, 2) := by decide +kernel
theorem dX2_lowestBar_23 : decode cX2_lowestBar 23 = .ok (.iconst (-1), 1) := by decide +kernel
theorem dX2_lowestBar_24 : decode cX2_lowestBar 24 = .ok (.if_icmp .ne 6, 3) := by decide +kernel
theorem dX2_lowestBar_27 : decode cX2_lowestBar 27 = .ok (.iload 4, 2) := by decide +kernel
theorem dX2_lowestBar_29 : decode cX2_lowestBar 29 = .ok (.ireturn, 1) := by decide +kernel
theorem dX2_lowestBar_30 : decode cX2_lowestBar 30 = .ok (.aload_n 0, 1) := by decide +kernel
theorem dX2_lowestBar_31 : decode cX2_lowestBar 31 = .ok (.getfield 42, 3) := by decide +kernel
theorem dX2_lowestBar_34 : decode cX2_lowestBar 34 = .ok (.aload_n 2, 1) := by decide +kernel
theorem dX2_lowestBar_35 : decode cX2_lowestBar 35 = .ok (.invokevirtual 125, 3) := by decide +kernel
theorem dX2_lowestBar_38 : decode cX2_lowestBar 38 = .ok (.aload_n 0, 1) := by decide +kernel
theorem dX2_lowestBar_39 : decode cX2_lowestBar 39 = .ok (.getfield 42, 3) := by decide +kernel
theorem dX2_lowestBar_42 : decode cX2_lowestBar 42 = .ok (.aload_n 0, 1) := by decide +kernel
theorem dX2_lowestBar_43 : decode cX2_lowestBar 43 = .ok (.getfield 39, 3) := by decide +kernel
theorem dX2_lowestBar_46 : decode cX2_lowestBar 46 = .ok (.iload 6, 2) := by decide +kernel
theorem dX2_lowestBar_48 : decode cX2_lowestBar 48 = .ok (.i2l, 1) := by decide +kernel
theorem dX2_lowestBar_49 : decode cX2_lowestBar 49 = .ok (.invokevirtual 102, 3) := by decide +kernel
theorem dX2_lowestBar_52 : decode cX2_lowestBar 52 = .ok (.aload_n 0, 1) := by decide +kernel
theorem dX2_lowestBar_53 : decode cX2_lowestBar 53 = .ok (.getfield 42, 3) := by decide +kernel
theorem dX2_lowestBar_56 : decode cX2_lowestBar 56 = .ok (.aload_n 3, 1) := by decide +kernel
theorem dX2_lowestBar_57 : decode cX2_lowestBar 57 = .ok (.invokevirtual 129, 3) := by decide +kernel
theorem dX2_lowestBar_60 : decode cX2_lowestBar 60 = .ok (.ifCond .lt 6, 3) := by decide +kernel
theorem dX2_lowestBar_63 : decode cX2_lowestBar 63 = .ok (.iload 4, 2) := by decide +kernel
theorem dX2_lowestBar_65 : decode cX2_lowestBar 65 = .ok (.ireturn, 1) := by decide +kernel
theorem dX2_lowestBar_66 : decode cX2_lowestBar 66 = .ok (.iload 6, 2) := by decide +kernel
theorem dX2_lowestBar_68 : decode cX2_lowestBar 68 = .ok (.iconst 1, 1) := by decide +kernel
theorem dX2_lowestBar_69 : decode cX2_lowestBar 69 = .ok (.iadd, 1) := by decide +kernel
theorem dX2_lowestBar_70 : decode cX2_lowestBar 70 = .ok (.istore 4, 2) := by decide +kernel
theorem dX2_lowestBar_72 : decode cX2_lowestBar 72 = .ok (.iinc 5 1, 3) := by decide +kernel
theorem dX2_lowestBar_75 : decode cX2_lowestBar 75 = .ok (.goto (-69), 3) := by decide +kernel
theorem dX2_lowestBar_78 : decode cX2_lowestBar 78 = .ok (.iload 4, 2) := by decide +kernel
theorem dX2_lowestBar_80 : decode cX2_lowestBar 80 = .ok (.ireturn, 1) := by decide +kernel
set_option maxRecDepth 20000 in
theorem ggX2_foreseeInto_X2_foresee : GoodIn wsX2_foreseeInto wsX2_foresee := goodIn_r _ [7, 2, 8, 1, 9, 10, 11, 12, 13, 14, 15, 16, 17, 18, 19, 20, 21, 22, 23, 24, 25, 26, 27, 28, 29, 30, 31, 32, 33, 34, 35, 36, 37, 38, 39, 40, 41, 42, 43, 44, 45, 46, 47, 48, 49, 50, 51, 52, 53, 54, 55, 56, 57, 58, 59, 60, 61, 62, 63, 64, 65, 66, 67, 68, 69, 70, 71, 72, 73, 74, 75, 76, 77, 78, 79, 123, 124, 125, 126, 127, 128, 129, 130, 131, 132, 133, 134, 135, 136, 137, 138, 139, 140] (by decide +kernel) (by decide +kernel)
set_option maxRecDepth 20000 in
theorem gX2_foreseeInto_X2_foresee : GoodIn wsX2_foreseeInto (wsV RX2 133 RX2 yX2_foresee wsX2_foresee) := goodIn_app (goodIn_of _ (by decide +kernel)) ggX2_foreseeInto_X2_foresee
set_option maxRecDepth 20000 in
theorem ggX2_foreseeInto_X3_divide : GoodIn wsX2_foreseeInto wsX3_divide := goodIn_r _ [83, 26, 84, 85, 86, 87, 88, 89, 90, 91, 92, 73, 74, 13, 75, 19, 76, 77, 78, 79, 93, 11, 12, 14, 15, 16, 17, 18, 20, 94, 95, 96, 97, 98, 99, 100, 101, 27, 28, 29, 24, 30, 31, 32, 33, 34, 35, 102, 103, 104, 39, 105, 106, 107, 108, 109, 110, 111, 112, 113, 114, 115, 116, 117, 118, 119, 120, 121, 122, 54, 55, 56, 134, 135, 136, 141, 142, 143, 144, 145, 133, 137, 138, 139, 140] (by decide +kernel) (by decide +kernel)
set_option maxRecDepth 20000 in
theorem gX2_foreseeInto_X3_divide : GoodIn wsX2_foreseeInto (wsV RX2 72 RX3 yX3_divide wsX3_divide) := goodIn_app (goodIn_of _ (by decide +kernel)) ggX2_foreseeInto_X3_divide
theorem dX2_foreseeInto_0 : decode cX2_foreseeInto 0 = .ok (.aload_n 0, 1) := by decide +kernel
theorem dX2_foreseeInto_1 : decode cX2_foreseeInto 1 = .ok (.invokevirtual 133, 3) := by decide +kernel
theorem dX2_foreseeInto_4 : decode cX2_foreseeInto 4 = .ok (.aload_n 0, 1) := by decide +kernel
theorem dX2_foreseeInto_5 : decode cX2_foreseeInto 5 = .ok (.getfield 12, 3) := by decide +kernel
theorem dX2_foreseeInto_8 : decode cX2_foreseeInto 8 = .ok (.aload_n 0, 1) := by decide +kernel
theorem dX2_foreseeInto_9 : decode cX2_foreseeInto 9 = .ok (.getfield 48, 3) := by decide +kernel
theorem dX2_foreseeInto_12 : decode cX2_foreseeInto 12 = .ok (.aload_n 1, 1) := by decide +kernel
theorem dX2_foreseeInto_13 : decode cX2_foreseeInto 13 = .ok (.invokevirtual 72, 3) := by decide +kernel
theorem dX2_foreseeInto_16 : decode cX2_foreseeInto 16 = .ok (.return_, 1) := by decide +kernel
set_option maxRecDepth 20000 in
theorem ggX2_foresee_X5_put : GoodIn wsX2_foresee wsX5_put := goodIn_r _ [9, 10, 11, 12, 13, 14, 15, 85] (by decide +kernel) (by decide +kernel)
set_option maxRecDepth 20000 in
theorem gX2_foresee_X5_put : GoodIn wsX2_foresee (wsV RX2 76 RX5 yX5_put wsX5_put) := goodIn_app (goodIn_of _ (by decide +kernel)) ggX2_foresee_X5_put
set_option maxRecDepth 20000 in
theorem ggX2_foresee_X3_leastFrom : GoodIn wsX2_foresee wsX3_leastFrom := goodIn_r _ [20, 21, 22, 23, 24, 19, 25, 26, 27, 28, 29, 30, 31, 32, 33, 34, 35, 36, 37, 86, 87, 88, 89, 90, 91, 92] (by decide +kernel) (by decide +kernel)
set_option maxRecDepth 20000 in
theorem gX2_foresee_X3_leastFrom : GoodIn wsX2_foresee (wsV RX2 136 RX3 yX3_leastFrom wsX3_leastFrom) := goodIn_app (goodIn_of _ (by decide +kernel)) ggX2_foresee_X3_leastFrom
set_option maxRecDepth 20000 in
theorem ggX2_foresee_X3_waysUpTo : GoodIn wsX2_foresee wsX3_waysUpTo := goodIn_r _ [41, 21, 42, 6, 7, 8, 9, 10, 11, 12, 13, 14, 15, 22, 23, 24, 19, 25, 26, 27, 28, 29, 30, 43, 44, 45, 34, 46, 36, 37, 47, 48, 49, 50, 51, 86, 87, 88, 85, 89, 90, 91, 92] (by decide +kernel) (by decide +kernel)
set_option maxRecDepth 20000 in
theorem gX2_foresee_X3_waysUpTo : GoodIn wsX2_foresee (wsV RX2 137 RX3 yX3_waysUpTo wsX3_waysUpTo) := goodIn_app (goodIn_of _ (by decide +kernel)) ggX2_foresee_X3_waysUpTo
set_option maxRecDepth 20000 in
theorem ggX2_foresee_X5_addTimes : GoodIn wsX2_foresee wsX5_addTimes := goodIn_r _ [55, 14, 15, 85] (by decide +kernel) (by decide +kernel)
set_option maxRecDepth 20000 in
theorem gX2_foresee_X5_addTimes : GoodIn wsX2_foresee (wsV RX2 102 RX5 yX5_addTimes wsX5_addTimes) := goodIn_app (goodIn_of _ (by decide +kernel)) ggX2_foresee_X5_addTimes
set_option maxRecDepth 20000 in
theorem ggX2_foresee_X5_takeTimes : GoodIn wsX2_foresee wsX5_takeTimes := goodIn_r _ [59, 14, 15, 60, 61, 62, 63, 64, 65, 66, 85] (by decide +kernel) (by decide +kernel)
set_option maxRecDepth 20000 in
theorem gX2_foresee_X5_takeTimes : GoodIn wsX2_foresee (wsV RX2 141 RX5 yX5_takeTimes wsX5_takeTimes) := goodIn_app (goodIn_of _ (by decide +kernel)) ggX2_foresee_X5_takeTimes
set_option maxRecDepth 20000 in
theorem ggX2_foresee_X5_copy : GoodIn wsX2_foresee wsX5_copy := goodIn_r _ [70, 14, 71, 72, 73, 74, 85] (by decide +kernel) (by decide +kernel)
set_option maxRecDepth 20000 in
theorem gX2_foresee_X5_copy : GoodIn wsX2_foresee (wsV RX2 125 RX5 yX5_copy wsX5_copy) := goodIn_app (goodIn_of _ (by decide +kernel)) ggX2_foresee_X5_copy
theorem dX2_foresee_0 : decode cX2_foresee 0 = .ok (.aload_n 0, 1) := by decide +kernel
theorem dX2_foresee_1 : decode cX2_foresee 1 = .ok (.getfield 48, 3) := by decide +kernel
theorem dX2_foresee_4 : decode cX2_foresee 4 = .ok (.lconst 0, 1) := by decide +kernel
theorem dX2_foresee_5 : decode cX2_foresee 5 = .ok (.invokevirtual 76, 3) := by decide +kernel
theorem dX2_foresee_8 : decode cX2_foresee 8 = .ok (.aload_n 0, 1) := by decide +kernel
theorem dX2_foresee_9 : decode cX2_foresee 9 = .ok (.getfield 45, 3) := by decide +kernel
theorem dX2_foresee_12 : decode cX2_foresee 12 = .ok (.lconst 0, 1) := by decide +kernel
theorem dX2_foresee_13 : decode cX2_foresee 13 = .ok (.invokevirtual 76, 3) := by decide +kernel
theorem dX2_foresee_16 : decode cX2_foresee 16 = .ok (.aload_n 0, 1) := by decide +kernel
theorem dX2_foresee_17 : decode cX2_foresee 17 = .ok (.getfield 12, 3) := by decide +kernel
theorem dX2_foresee_20 : decode cX2_foresee 20 = .ok (.iconst 0, 1) := by decide +kernel
theorem dX2_foresee_21 : decode cX2_foresee 21 = .ok (.invokevirtual 136, 3) := by decide +kernel
theorem dX2_foresee_24 : decode cX2_foresee 24 = .ok (.istore_n 1, 1) := by decide +kernel
theorem dX2_foresee_25 : decode cX2_foresee 25 = .ok (.iconst 0, 1) := by decide +kernel
theorem dX2_foresee_26 : decode cX2_foresee 26 = .ok (.istore_n 2, 1) := by decide +kernel
theorem dX2_foresee_27 : decode cX2_foresee 27 = .ok (.iload_n 2, 1) := by decide +kernel
theorem dX2_foresee_28 : decode cX2_foresee 28 = .ok (.bipush 80, 2) := by decide +kernel
theorem dX2_foresee_30 : decode cX2_foresee 30 = .ok (.if_icmp .ge 74, 3) := by decide +kernel
theorem dX2_foresee_33 : decode cX2_foresee 33 = .ok (.iload_n 1, 1) := by decide +kernel
theorem dX2_foresee_34 : decode cX2_foresee 34 = .ok (.iconst (-1), 1) := by decide +kernel
theorem dX2_foresee_35 : decode cX2_foresee 35 = .ok (.if_icmp .eq 69, 3) := by decide +kernel
theorem dX2_foresee_38 : decode cX2_foresee 38 = .ok (.aload_n 0, 1) := by decide +kernel
theorem dX2_foresee_39 : decode cX2_foresee 39 = .ok (.getfield 12, 3) := by decide +kernel
theorem dX2_foresee_42 : decode cX2_foresee 42 = .ok (.iload_n 1, 1) := by decide +kernel
theorem dX2_foresee_43 : decode cX2_foresee 43 = .ok (.aload_n 0, 1) := by decide +kernel
theorem dX2_foresee_44 : decode cX2_foresee 44 = .ok (.getfield 42, 3) := by decide +kernel
theorem dX2_foresee_47 : decode cX2_foresee 47 = .ok (.invokevirtual 137, 3) := by decide +kernel
theorem dX2_foresee_50 : decode cX2_foresee 50 = .ok (.aload_n 0, 1) := by decide +kernel
theorem dX2_foresee_51 : decode cX2_foresee 51 = .ok (.getfield 48, 3) := by decide +kernel
theorem dX2_foresee_54 : decode cX2_foresee 54 = .ok (.aload_n 0, 1) := by decide +kernel
theorem dX2_foresee_55 : decode cX2_foresee 55 = .ok (.getfield 42, 3) := by decide +kernel
theorem dX2_foresee_58 : decode cX2_foresee 58 = .ok (.iload_n 1, 1) := by decide +kernel
theorem dX2_foresee_59 : decode cX2_foresee 59 = .ok (.i2l, 1) := by decide +kernel
theorem dX2_foresee_60 : decode cX2_foresee 60 = .ok (.invokevirtual 102, 3) := by decide +kernel
theorem dX2_foresee_63 : decode cX2_foresee 63 = .ok (.aload_n 0, 1) := by decide +kernel
theorem dX2_foresee_64 : decode cX2_foresee 64 = .ok (.getfield 48, 3) := by decide +kernel
theorem dX2_foresee_67 : decode cX2_foresee 67 = .ok (.aload_n 0, 1) := by decide +kernel
theorem dX2_foresee_68 : decode cX2_foresee 68 = .ok (.getfield 45, 3) := by decide +kernel
theorem dX2_foresee_71 : decode cX2_foresee 71 = .ok (.iload_n 1, 1) := by decide +kernel
theorem dX2_foresee_72 : decode cX2_foresee 72 = .ok (.i2l, 1) := by decide +kernel
theorem dX2_foresee_73 : decode cX2_foresee 73 = .ok (.invokevirtual 141, 3) := by decide +kernel
theorem dX2_foresee_76 : decode cX2_foresee 76 = .ok (.aload_n 0, 1) := by decide +kernel
theorem dX2_foresee_77 : decode cX2_foresee 77 = .ok (.getfield 45, 3) := by decide +kernel
theorem dX2_foresee_80 : decode cX2_foresee 80 = .ok (.aload_n 0, 1) := by decide +kernel
theorem dX2_foresee_81 : decode cX2_foresee 81 = .ok (.getfield 42, 3) := by decide +kernel
theorem dX2_foresee_84 : decode cX2_foresee 84 = .ok (.invokevirtual 125, 3) := by decide +kernel
theorem dX2_foresee_87 : decode cX2_foresee 87 = .ok (.aload_n 0, 1) := by decide +kernel
theorem dX2_foresee_88 : decode cX2_foresee 88 = .ok (.getfield 12, 3) := by decide +kernel
theorem dX2_foresee_91 : decode cX2_foresee 91 = .ok (.iload_n 1, 1) := by decide +kernel
theorem dX2_foresee_92 : decode cX2_foresee 92 = .ok (.iconst 1, 1) := by decide +kernel
theorem dX2_foresee_93 : decode cX2_foresee 93 = .ok (.iadd, 1) := by decide +kernel
theorem dX2_foresee_94 : decode cX2_foresee 94 = .ok (.invokevirtual 136, 3) := by decide +kernel
theorem dX2_foresee_97 : decode cX2_foresee 97 = .ok (.istore_n 1, 1) := by decide +kernel
theorem dX2_foresee_98 : decode cX2_foresee 98 = .ok (.iinc 2 1, 3) := by decide +kernel
theorem dX2_foresee_101 : decode cX2_foresee 101 = .ok (.goto (-74), 3) := by decide +kernel
theorem dX2_foresee_104 : decode cX2_foresee 104 = .ok (.return_, 1) := by decide +kernel
set_option maxRecDepth 20000 in
theorem ggX2_lowestBarForHalf_X2_foresee : GoodIn wsX2_lowestBarForHalf wsX2_foresee := goodIn_r _ [10, 5, 11, 4, 12, 13, 14, 15, 16, 17, 18, 19, 20, 21, 22, 23, 24, 25, 26, 27, 28, 29, 30, 31, 32, 33, 34, 35, 36, 37, 38, 39, 40, 41, 42, 43, 44, 45, 46, 47, 48, 49, 50, 51, 52, 53, 54, 55, 56, 57, 58, 59, 60, 61, 62, 63, 64, 65, 66, 67, 68, 69, 70, 71, 72, 73, 74, 75, 76, 77, 78, 79, 80, 81, 82, 119, 120, 121, 122, 123, 124, 125, 126, 127, 128, 129, 130, 131, 132, 133, 134, 135, 136] (by decide +kernel) (by decide +kernel)
set_option maxRecDepth 20000 in
theorem gX2_lowestBarForHalf_X2_foresee : GoodIn wsX2_lowestBarForHalf (wsV RX2 133 RX2 yX2_foresee wsX2_foresee) := goodIn_app (goodIn_of _ (by decide +kernel)) ggX2_lowestBarForHalf_X2_foresee
set_option maxRecDepth 20000 in
theorem ggX2_lowestBarForHalf_J7_fill_53178 : GoodIn wsX2_lowestBarForHalf wsJ7_fill_53178 := goodIn_r _ [86] (by decide +kernel) (by decide +kernel)
set_option maxRecDepth 20000 in
theorem gX2_lowestBarForHalf_J7_fill_53178 : GoodIn wsX2_lowestBarForHalf (va_wsS RX2 144 yJ7_fill_53178 wsJ7_fill_53178) := goodIn_app (goodIn_of _ (by decide +kernel)) ggX2_lowestBarForHalf_J7_fill_53178
set_option maxRecDepth 20000 in
theorem ggX2_lowestBarForHalf_X2_follow : GoodIn wsX2_lowestBarForHalf wsX2_follow := goodIn_r _ [90, 2, 91, 4, 92, 93, 20, 94, 13, 14, 15, 16, 17, 18, 19, 21, 22, 23, 95, 96, 97, 27, 98, 29, 99, 31, 32, 33, 34, 35, 36, 37, 38, 100, 52, 53, 42, 54, 44, 45, 55, 101, 57, 58, 59, 102, 103, 104, 105, 60, 61, 62, 63, 106, 107, 108, 109, 110, 119, 120, 121, 122, 123, 124, 125, 126, 127, 128, 129, 130, 131, 132, 133, 134, 135, 136] (by decide +kernel) (by decide +kernel)
set_option maxRecDepth 20000 in
theorem gX2_lowestBarForHalf_X2_follow : GoodIn wsX2_lowestBarForHalf (wsV RX2 68 RX2 yX2_follow wsX2_follow) := goodIn_app (goodIn_of _ (by decide +kernel)) ggX2_lowestBarForHalf_X2_follow
set_option maxRecDepth 20000 in
theorem ggX2_lowestBarForHalf_X5_times : GoodIn wsX2_lowestBarForHalf wsX5_times := goodIn_r _ [59, 22, 23, 129] (by decide +kernel) (by decide +kernel)
set_option maxRecDepth 20000 in
theorem gX2_lowestBarForHalf_X5_times : GoodIn wsX2_lowestBarForHalf (wsV RX2 96 RX5 yX5_times wsX5_times) := goodIn_app (goodIn_of _ (by decide +kernel)) ggX2_lowestBarForHalf_X5_times
set_option maxRecDepth 20000 in
theorem ggX2_lowestBarForHalf_X3_leastFrom : GoodIn wsX2_lowestBarForHalf wsX3_leastFrom := goodIn_r _ [28, 29, 30, 31, 32, 27, 33, 34, 35, 36, 37, 38, 39, 40, 41, 42, 43, 44, 45, 130, 131, 132, 133, 134, 135, 136] (by decide +kernel) (by decide +kernel)
set_option maxRecDepth 20000 in
theorem gX2_lowestBarForHalf_X3_leastFrom : GoodIn wsX2_lowestBarForHalf (wsV RX2 136 RX3 yX3_leastFrom wsX3_leastFrom) := goodIn_app (goodIn_of _ (by decide +kernel)) ggX2_lowestBarForHalf_X3_leastFrom
set_option maxRecDepth 20000 in
theorem ggX2_lowestBarForHalf_X5_against : GoodIn wsX2_lowestBarForHalf wsX5_against := goodIn_r _ [114, 22, 115, 116, 117, 118, 129] (by decide +kernel) (by decide +kernel)
set_option maxRecDepth 20000 in
theorem gX2_lowestBarForHalf_X5_against : GoodIn wsX2_lowestBarForHalf (wsV RX2 129 RX5 yX5_against wsX5_against) := goodIn_app (goodIn_of _ (by decide +kernel)) ggX2_lowestBarForHalf_X5_against
theorem dX2_lowestBarForHalf_0 : decode cX2_lowestBarForHalf 0 = .ok (.aload_n 0, 1) := by decide +kernel
theorem dX2_lowestBarForHalf_1 : decode cX2_lowestBarForHalf 1 = .ok (.invokevirtual 133, 3) := by decide +kernel
theorem dX2_lowestBarForHalf_4 : decode cX2_lowestBarForHalf 4 = .ok (.iconst 0, 1) := by decide +kernel
theorem dX2_lowestBarForHalf_5 : decode cX2_lowestBarForHalf 5 = .ok (.istore_n 1, 1) := by decide +kernel
theorem dX2_lowestBarForHalf_6 : decode cX2_lowestBarForHalf 6 = .ok (.iconst 0, 1) := by decide +kernel
theorem dX2_lowestBarForHalf_7 : decode cX2_lowestBarForHalf 7 = .ok (.istore_n 2, 1) := by decide +kernel
theorem dX2_lowestBarForHalf_8 : decode cX2_lowestBarForHalf 8 = .ok (.iload_n 2, 1) := by decide +kernel
theorem dX2_lowestBarForHalf_9 : decode cX2_lowestBarForHalf 9 = .ok (.bipush 80, 2) := by decide +kernel
theorem dX2_lowestBarForHalf_11 : decode cX2_lowestBarForHalf 11 = .ok (.if_icmp .gt 69, 3) := by decide +kernel
theorem dX2_lowestBarForHalf_14 : decode cX2_lowestBarForHalf 14 = .ok (.aload_n 0, 1) := by decide +kernel
theorem dX2_lowestBarForHalf_15 : decode cX2_lowestBarForHalf 15 = .ok (.getfield 25, 3) := by decide +kernel
theorem dX2_lowestBarForHalf_18 : decode cX2_lowestBarForHalf 18 = .ok (.iload_n 1, 1) := by decide +kernel
theorem dX2_lowestBarForHalf_19 : decode cX2_lowestBarForHalf 19 = .ok (.invokestatic 144, 3) := by decide +kernel
theorem dX2_lowestBarForHalf_22 : decode cX2_lowestBarForHalf 22 = .ok (.aload_n 0, 1) := by decide +kernel
theorem dX2_lowestBarForHalf_23 : decode cX2_lowestBarForHalf 23 = .ok (.aload_n 0, 1) := by decide +kernel
theorem dX2_lowestBarForHalf_24 : decode cX2_lowestBarForHalf 24 = .ok (.getfield 25, 3) := by decide +kernel
theorem dX2_lowestBarForHalf_27 : decode cX2_lowestBarForHalf 27 = .ok (.invokevirtual 68, 3) := by decide +kernel
theorem dX2_lowestBarForHalf_30 : decode cX2_lowestBarForHalf 30 = .ok (.aload_n 0, 1) := by decide +kernel
theorem dX2_lowestBarForHalf_31 : decode cX2_lowestBarForHalf 31 = .ok (.getfield 35, 3) := by decide +kernel
theorem dX2_lowestBarForHalf_34 : decode cX2_lowestBarForHalf 34 = .ok (.ldc2_w 150, 3) := by decide +kernel
theorem dX2_lowestBarForHalf_37 : decode cX2_lowestBarForHalf 37 = .ok (.invokevirtual 96, 3) := by decide +kernel
theorem dX2_lowestBarForHalf_40 : decode cX2_lowestBarForHalf 40 = .ok (.aload_n 0, 1) := by decide +kernel
theorem dX2_lowestBarForHalf_41 : decode cX2_lowestBarForHalf 41 = .ok (.getfield 12, 3) := by decide +kernel
theorem dX2_lowestBarForHalf_44 : decode cX2_lowestBarForHalf 44 = .ok (.iload_n 1, 1) := by decide +kernel
theorem dX2_lowestBarForHalf_45 : decode cX2_lowestBarForHalf 45 = .ok (.invokevirtual 136, 3) := by decide +kernel
theorem dX2_lowestBarForHalf_48 : decode cX2_lowestBarForHalf 48 = .ok (.istore_n 3, 1) := by decide +kernel
theorem dX2_lowestBarForHalf_49 : decode cX2_lowestBarForHalf 49 = .ok (.aload_n 0, 1) := by decide +kernel
theorem dX2_lowestBarForHalf_50 : decode cX2_lowestBarForHalf 50 = .ok (.getfield 35, 3) := by decide +kernel
theorem dX2_lowestBarForHalf_53 : decode cX2_lowestBarForHalf 53 = .ok (.aload_n 0, 1) := by decide +kernel
theorem dX2_lowestBarForHalf_54 : decode cX2_lowestBarForHalf 54 = .ok (.getfield 48, 3) := by decide +kernel
theorem dX2_lowestBarForHalf_57 : decode cX2_lowestBarForHalf 57 = .ok (.invokevirtual 129, 3) := by decide +kernel
theorem dX2_lowestBarForHalf_60 : decode cX2_lowestBarForHalf 60 = .ok (.ifCond .ge 8, 3) := by decide +kernel
theorem dX2_lowestBarForHalf_63 : decode cX2_lowestBarForHalf 63 = .ok (.iload_n 3, 1) := by decide +kernel
theorem dX2_lowestBarForHalf_64 : decode cX2_lowestBarForHalf 64 = .ok (.iconst (-1), 1) := by decide +kernel
theorem dX2_lowestBarForHalf_65 : decode cX2_lowestBarForHalf 65 = .ok (.if_icmp .ne 5, 3) := by decide +kernel
theorem dX2_lowestBarForHalf_68 : decode cX2_lowestBarForHalf 68 = .ok (.iload_n 1, 1) := by decide +kernel
theorem dX2_lowestBarForHalf_69 : decode cX2_lowestBarForHalf 69 = .ok (.ireturn, 1) := by decide +kernel
theorem dX2_lowestBarForHalf_70 : decode cX2_lowestBarForHalf 70 = .ok (.iload_n 3, 1) := by decide +kernel
theorem dX2_lowestBarForHalf_71 : decode cX2_lowestBarForHalf 71 = .ok (.iconst 1, 1) := by decide +kernel
theorem dX2_lowestBarForHalf_72 : decode cX2_lowestBarForHalf 72 = .ok (.iadd, 1) := by decide +kernel
theorem dX2_lowestBarForHalf_73 : decode cX2_lowestBarForHalf 73 = .ok (.istore_n 1, 1) := by decide +kernel
theorem dX2_lowestBarForHalf_74 : decode cX2_lowestBarForHalf 74 = .ok (.iinc 2 1, 3) := by decide +kernel
theorem dX2_lowestBarForHalf_77 : decode cX2_lowestBarForHalf 77 = .ok (.goto (-69), 3) := by decide +kernel
theorem dX2_lowestBarForHalf_80 : decode cX2_lowestBarForHalf 80 = .ok (.iload_n 1, 1) := by decide +kernel
theorem dX2_lowestBarForHalf_81 : decode cX2_lowestBarForHalf 81 = .ok (.ireturn, 1) := by decide +kernel
