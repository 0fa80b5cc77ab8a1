set_option maxRecDepth 20000 in
theorem ggX10_init_X8_init : GoodIn wsX10_init wsX8_init := goodIn_r _ [39, 40, 2, 3, 41, 42, 43, 44, 45, 46, 47, 48, 49, 50, 51, 52, 53, 54, 55, 56, 57, 58, 59, 60, 61, 62, 206, 161, 162, 163, 164, 165] (by decide +kernel) (by decide +kernel)
set_option maxRecDepth 20000 in
theorem gX10_init_X8_init : GoodIn wsX10_init (wsX8_init) := ggX10_init_X8_init
set_option maxRecDepth 20000 in
theorem ggX10_init_X2_init : GoodIn wsX10_init wsX2_init := goodIn_r _ [65, 66, 2, 3, 67, 68, 69, 70, 52, 71, 72, 73, 74, 75, 42, 43, 76, 77, 78, 79, 80, 81, 82, 83, 84, 85, 35, 36, 86, 87, 88, 89, 90, 91, 92, 93, 94, 95, 49, 50, 51, 53, 207, 208, 209, 166, 167, 168, 169, 170, 171, 172, 173, 174, 175, 206, 202, 203, 204, 205] (by decide +kernel) (by decide +kernel)
set_option maxRecDepth 20000 in
theorem gX10_init_X2_init : GoodIn wsX10_init (wsX2_init) := ggX10_init_X2_init
set_option maxRecDepth 20000 in
theorem ggX10_init_X6_init : GoodIn wsX10_init wsX6_init := goodIn_r _ [98, 99, 2, 3, 100, 42, 43, 101, 102, 103, 104, 105, 106, 49, 50, 51, 52, 53, 107, 55, 56, 57, 58, 59, 60, 61, 62, 108, 109, 110, 111, 206, 176, 177, 178, 179, 180] (by decide +kernel) (by decide +kernel)
set_option maxRecDepth 20000 in
theorem gX10_init_X6_init : GoodIn wsX10_init (wsX6_init) := ggX10_init_X6_init
set_option maxRecDepth 20000 in
theorem ggX10_init_X7_init : GoodIn wsX10_init wsX7_init := goodIn_r _ [114, 115, 2, 3, 52, 116, 117, 118, 42, 43, 119, 120, 49, 50, 51, 53, 181, 182, 183, 184, 206] (by decide +kernel) (by decide +kernel)
set_option maxRecDepth 20000 in
theorem gX10_init_X7_init : GoodIn wsX10_init (wsX7_init) := ggX10_init_X7_init
set_option maxRecDepth 20000 in
theorem ggX10_init_X4_init : GoodIn wsX10_init wsX4_init := goodIn_r _ [122, 123, 2, 3, 52, 124, 125, 126, 127, 42, 43, 128, 129, 130, 49, 50, 51, 53, 185, 186, 187, 188, 189, 190, 206] (by decide +kernel) (by decide +kernel)
set_option maxRecDepth 20000 in
theorem gX10_init_X4_init_n55 : GoodIn wsX10_init (wsX4_init) := ggX10_init_X4_init
set_option maxRecDepth 20000 in
theorem ggX10_init_X1_init : GoodIn wsX10_init wsX1_init := goodIn_r _ [132, 133, 2, 3, 134, 68, 69, 135, 136, 52, 137, 138, 139, 140, 141, 42, 43, 142, 143, 144, 82, 83, 84, 85, 35, 36, 86, 87, 88, 89, 90, 91, 92, 93, 94, 95, 49, 50, 51, 53, 207, 208, 209, 191, 192, 193, 194, 195, 196, 197, 198, 206, 202, 203, 204, 205] (by decide +kernel) (by decide +kernel)
set_option maxRecDepth 20000 in
theorem gX10_init_X1_init_n62 : GoodIn wsX10_init (wsX1_init) := ggX10_init_X1_init
set_option maxRecDepth 20000 in
theorem ggX10_init_X9_init : GoodIn wsX10_init wsX9_init := goodIn_r _ [146, 147, 2, 3, 148, 149, 150, 151, 199, 200, 201] (by decide +kernel) (by decide +kernel)
set_option maxRecDepth 20000 in
theorem gX10_init_X9_init_n67 : GoodIn wsX10_init (wsX9_init) := ggX10_init_X9_init
set_option maxRecDepth 20000 in
theorem ggX10_init_X0_init : GoodIn wsX10_init wsX0_init := goodIn_r _ [90, 91, 2, 3, 52, 92, 93, 94, 95, 202, 203, 204, 205] (by decide +kernel) (by decide +kernel)
set_option maxRecDepth 20000 in
theorem gX10_init_X0_init_n68 : GoodIn wsX10_init (wsX0_init) := ggX10_init_X0_init
theorem dX10_init_0 : decode cX10_init 0 = .ok (.aload_n 0, 1) := by decide +kernel
theorem dX10_init_1 : decode cX10_init 1 = .ok (.invokespecial 3, 3) := by decide +kernel
theorem dX10_init_4 : decode cX10_init 4 = .ok (.aload_n 0, 1) := by decide +kernel
theorem dX10_init_5 : decode cX10_init 5 = .ok (.bipush 10, 2) := by decide +kernel
theorem dX10_init_7 : decode cX10_init 7 = .ok (.anewarray 9, 3) := by decide +kernel
theorem dX10_init_10 : decode cX10_init 10 = .ok (.putfield 11, 3) := by decide +kernel
theorem dX10_init_13 : decode cX10_init 13 = .ok (.aload_n 0, 1) := by decide +kernel
theorem dX10_init_14 : decode cX10_init 14 = .ok (.bipush 16, 2) := by decide +kernel
theorem dX10_init_16 : decode cX10_init 16 = .ok (.anewarray 15, 3) := by decide +kernel
theorem dX10_init_19 : decode cX10_init 19 = .ok (.putfield 17, 3) := by decide +kernel
theorem dX10_init_22 : decode cX10_init 22 = .ok (.aload_n 0, 1) := by decide +kernel
theorem dX10_init_23 : decode cX10_init 23 = .ok (.iconst 0, 1) := by decide +kernel
theorem dX10_init_24 : decode cX10_init 24 = .ok (.putfield 21, 3) := by decide +kernel
theorem dX10_init_27 : decode cX10_init 27 = .ok (.aload_n 0, 1) := by decide +kernel
theorem dX10_init_28 : decode cX10_init 28 = .ok (.new 25, 3) := by decide +kernel
theorem dX10_init_31 : decode cX10_init 31 = .ok (.dup, 1) := by decide +kernel
theorem dX10_init_32 : decode cX10_init 32 = .ok (.invokespecial 27, 3) := by decide +kernel
theorem dX10_init_35 : decode cX10_init 35 = .ok (.putfield 28, 3) := by decide +kernel
theorem dX10_init_38 : decode cX10_init 38 = .ok (.aload_n 0, 1) := by decide +kernel
theorem dX10_init_39 : decode cX10_init 39 = .ok (.new 32, 3) := by decide +kernel
theorem dX10_init_42 : decode cX10_init 42 = .ok (.dup, 1) := by decide +kernel
theorem dX10_init_43 : decode cX10_init 43 = .ok (.invokespecial 34, 3) := by decide +kernel
theorem dX10_init_46 : decode cX10_init 46 = .ok (.putfield 35, 3) := by decide +kernel
theorem dX10_init_49 : decode cX10_init 49 = .ok (.aload_n 0, 1) := by decide +kernel
theorem dX10_init_50 : decode cX10_init 50 = .ok (.new 39, 3) := by decide +kernel
theorem dX10_init_53 : decode cX10_init 53 = .ok (.dup, 1) := by decide +kernel
theorem dX10_init_54 : decode cX10_init 54 = .ok (.invokespecial 41, 3) := by decide +kernel
theorem dX10_init_57 : decode cX10_init 57 = .ok (.putfield 42, 3) := by decide +kernel
theorem dX10_init_60 : decode cX10_init 60 = .ok (.aload_n 0, 1) := by decide +kernel
theorem dX10_init_61 : decode cX10_init 61 = .ok (.new 46, 3) := by decide +kernel
theorem dX10_init_64 : decode cX10_init 64 = .ok (.dup, 1) := by decide +kernel
theorem dX10_init_65 : decode cX10_init 65 = .ok (.invokespecial 48, 3) := by decide +kernel
theorem dX10_init_68 : decode cX10_init 68 = .ok (.putfield 49, 3) := by decide +kernel
theorem dX10_init_71 : decode cX10_init 71 = .ok (.aload_n 0, 1) := by decide +kernel
theorem dX10_init_72 : decode cX10_init 72 = .ok (.new 53, 3) := by decide +kernel
theorem dX10_init_75 : decode cX10_init 75 = .ok (.dup, 1) := by decide +kernel
theorem dX10_init_76 : decode cX10_init 76 = .ok (.invokespecial 55, 3) := by decide +kernel
theorem dX10_init_79 : decode cX10_init 79 = .ok (.putfield 56, 3) := by decide +kernel
theorem dX10_init_82 : decode cX10_init 82 = .ok (.aload_n 0, 1) := by decide +kernel
theorem dX10_init_83 : decode cX10_init 83 = .ok (.new 60, 3) := by decide +kernel
theorem dX10_init_86 : decode cX10_init 86 = .ok (.dup, 1) := by decide +kernel
theorem dX10_init_87 : decode cX10_init 87 = .ok (.invokespecial 62, 3) := by decide +kernel
theorem dX10_init_90 : decode cX10_init 90 = .ok (.putfield 63, 3) := by decide +kernel
theorem dX10_init_93 : decode cX10_init 93 = .ok (.iconst 0, 1) := by decide +kernel
theorem dX10_init_94 : decode cX10_init 94 = .ok (.istore_n 1, 1) := by decide +kernel
theorem dX10_init_95 : decode cX10_init 95 = .ok (.iload_n 1, 1) := by decide +kernel
theorem dX10_init_96 : decode cX10_init 96 = .ok (.aload_n 0, 1) := by decide +kernel
theorem dX10_init_97 : decode cX10_init 97 = .ok (.getfield 11, 3) := by decide +kernel
theorem dX10_init_100 : decode cX10_init 100 = .ok (.arraylength, 1) := by decide +kernel
theorem dX10_init_101 : decode cX10_init 101 = .ok (.if_icmp .ge 22, 3) := by decide +kernel
theorem dX10_init_104 : decode cX10_init 104 = .ok (.aload_n 0, 1) := by decide +kernel
theorem dX10_init_105 : decode cX10_init 105 = .ok (.getfield 11, 3) := by decide +kernel
theorem dX10_init_108 : decode cX10_init 108 = .ok (.iload_n 1, 1) := by decide +kernel
theorem dX10_init_109 : decode cX10_init 109 = .ok (.new 9, 3) := by decide +kernel
theorem dX10_init_112 : decode cX10_init 112 = .ok (.dup, 1) := by decide +kernel
theorem dX10_init_113 : decode cX10_init 113 = .ok (.invokespecial 67, 3) := by decide +kernel
theorem dX10_init_116 : decode cX10_init 116 = .ok (.aastore, 1) := by decide +kernel
theorem dX10_init_117 : decode cX10_init 117 = .ok (.iinc 1 1, 3) := by decide +kernel
theorem dX10_init_120 : decode cX10_init 120 = .ok (.goto (-25), 3) := by decide +kernel
theorem dX10_init_123 : decode cX10_init 123 = .ok (.iconst 0, 1) := by decide +kernel
theorem dX10_init_124 : decode cX10_init 124 = .ok (.istore_n 1, 1) := by decide +kernel
theorem dX10_init_125 : decode cX10_init 125 = .ok (.iload_n 1, 1) := by decide +kernel
theorem dX10_init_126 : decode cX10_init 126 = .ok (.aload_n 0, 1) := by decide +kernel
theorem dX10_init_127 : decode cX10_init 127 = .ok (.getfield 17, 3) := by decide +kernel
theorem dX10_init_130 : decode cX10_init 130 = .ok (.arraylength, 1) := by decide +kernel
theorem dX10_init_131 : decode cX10_init 131 = .ok (.if_icmp .ge 22, 3) := by decide +kernel
theorem dX10_init_134 : decode cX10_init 134 = .ok (.aload_n 0, 1) := by decide +kernel
theorem dX10_init_135 : decode cX10_init 135 = .ok (.getfield 17, 3) := by decide +kernel
theorem dX10_init_138 : decode cX10_init 138 = .ok (.iload_n 1, 1) := by decide +kernel
theorem dX10_init_139 : decode cX10_init 139 = .ok (.new 15, 3) := by decide +kernel
theorem dX10_init_142 : decode cX10_init 142 = .ok (.dup, 1) := by decide +kernel
theorem dX10_init_143 : decode cX10_init 143 = .ok (.invokespecial 68, 3) := by decide +kernel
theorem dX10_init_146 : decode cX10_init 146 = .ok (.aastore, 1) := by decide +kernel
theorem dX10_init_147 : decode cX10_init 147 = .ok (.iinc 1 1, 3) := by decide +kernel
theorem dX10_init_150 : decode cX10_init 150 = .ok (.goto (-25), 3) := by decide +kernel
theorem dX10_init_153 : decode cX10_init 153 = .ok (.return_, 1) := by decide +kernel
set_option maxRecDepth 20000 in
theorem ggX10_row_X10_isSlot : GoodIn wsX10_row wsX10_isSlot := goodIn_r _ [6, 7, 8, 9, 5, 10] (by decide +kernel) (by decide +kernel)
set_option maxRecDepth 20000 in
theorem gX10_row_X10_isSlot : GoodIn wsX10_row (va_wsS RX10 69 yX10_isSlot wsX10_isSlot) := goodIn_app (goodIn_of _ (by decide +kernel)) ggX10_row_X10_isSlot
set_option maxRecDepth 20000 in
theorem ggX10_row_X10_isWithin : GoodIn wsX10_row wsX10_isWithin := goodIn_r _ [10] (by decide +kernel) (by decide +kernel)
set_option maxRecDepth 20000 in
theorem gX10_row_X10_isWithin : GoodIn wsX10_row (va_wsS RX10 75 yX10_isWithin wsX10_isWithin) := goodIn_app (goodIn_of _ (by decide +kernel)) ggX10_row_X10_isWithin
set_option maxRecDepth 20000 in
theorem ggX10_row_X9_lay : GoodIn wsX10_row wsX9_lay := goodIn_r _ [15, 16, 17, 18, 19, 20, 21, 22, 23, 24, 25, 26, 36, 37, 38] (by decide +kernel) (by decide +kernel)
set_option maxRecDepth 20000 in
theorem gX10_row_X9_lay : GoodIn wsX10_row (wsV RX10 79 RX9 yX9_lay wsX9_lay) := goodIn_app (goodIn_of _ (by decide +kernel)) ggX10_row_X9_lay
theorem dX10_row_0 : decode cX10_row 0 = .ok (.iload_n 1, 1) := by decide +kernel
theorem dX10_row_1 : decode cX10_row 1 = .ok (.invokestatic 69, 3) := by decide +kernel
theorem dX10_row_4 : decode cX10_row 4 = .ok (.ifCond .eq 21, 3) := by decide +kernel
theorem dX10_row_7 : decode cX10_row 7 = .ok (.iload_n 2, 1) := by decide +kernel
theorem dX10_row_8 : decode cX10_row 8 = .ok (.i2l, 1) := by decide +kernel
theorem dX10_row_9 : decode cX10_row 9 = .ok (.lconst 0, 1) := by decide +kernel
theorem dX10_row_10 : decode cX10_row 10 = .ok (.ldc2_w 73, 3) := by decide +kernel
theorem dX10_row_13 : decode cX10_row 13 = .ok (.invokestatic 75, 3) := by decide +kernel
theorem dX10_row_16 : decode cX10_row 16 = .ok (.ifCond .eq 9, 3) := by decide +kernel
theorem dX10_row_19 : decode cX10_row 19 = .ok (.iload_n 3, 1) := by decide +kernel
theorem dX10_row_20 : decode cX10_row 20 = .ok (.bipush 40, 2) := by decide +kernel
theorem dX10_row_22 : decode cX10_row 22 = .ok (.if_icmp .le 6, 3) := by decide +kernel
theorem dX10_row_25 : decode cX10_row 25 = .ok (.bipush (-2), 2) := by decide +kernel
theorem dX10_row_27 : decode cX10_row 27 = .ok (.ireturn, 1) := by decide +kernel
theorem dX10_row_28 : decode cX10_row 28 = .ok (.iload_n 3, 1) := by decide +kernel
theorem dX10_row_29 : decode cX10_row 29 = .ok (.ifCond .ge 6, 3) := by decide +kernel
theorem dX10_row_32 : decode cX10_row 32 = .ok (.bipush (-3), 2) := by decide +kernel
theorem dX10_row_34 : decode cX10_row 34 = .ok (.ireturn, 1) := by decide +kernel
theorem dX10_row_35 : decode cX10_row 35 = .ok (.aload_n 0, 1) := by decide +kernel
theorem dX10_row_36 : decode cX10_row 36 = .ok (.getfield 11, 3) := by decide +kernel
theorem dX10_row_39 : decode cX10_row 39 = .ok (.iload_n 1, 1) := by decide +kernel
theorem dX10_row_40 : decode cX10_row 40 = .ok (.aaload, 1) := by decide +kernel
theorem dX10_row_41 : decode cX10_row 41 = .ok (.iload_n 2, 1) := by decide +kernel
theorem dX10_row_42 : decode cX10_row 42 = .ok (.iload_n 3, 1) := by decide +kernel
theorem dX10_row_43 : decode cX10_row 43 = .ok (.invokevirtual 79, 3) := by decide +kernel
theorem dX10_row_46 : decode cX10_row 46 = .ok (.iconst 0, 1) := by decide +kernel
theorem dX10_row_47 : decode cX10_row 47 = .ok (.ireturn, 1) := by decide +kernel
set_option maxRecDepth 20000 in
theorem ggX10_tear_X10_isSlot : GoodIn wsX10_tear wsX10_isSlot := goodIn_r _ [5, 6, 7, 8, 4, 9] (by decide +kernel) (by decide +kernel)
set_option maxRecDepth 20000 in
theorem gX10_tear_X10_isSlot : GoodIn wsX10_tear (va_wsS RX10 69 yX10_isSlot wsX10_isSlot) := goodIn_app (goodIn_of _ (by decide +kernel)) ggX10_tear_X10_isSlot
set_option maxRecDepth 20000 in
theorem ggX10_tear_X9_isThere : GoodIn wsX10_tear wsX9_isThere := goodIn_r _ [14, 15, 29, 30, 31] (by decide +kernel) (by decide +kernel)
set_option maxRecDepth 20000 in
theorem gX10_tear_X9_isThere : GoodIn wsX10_tear (wsV RX10 83 RX9 yX9_isThere wsX9_isThere) := goodIn_app (goodIn_of _ (by decide +kernel)) ggX10_tear_X9_isThere
set_option maxRecDepth 20000 in
theorem ggX10_tear_X9_remove : GoodIn wsX10_tear wsX9_remove := goodIn_r _ [19, 15, 29, 30, 31] (by decide +kernel) (by decide +kernel)
set_option maxRecDepth 20000 in
theorem gX10_tear_X9_remove : GoodIn wsX10_tear (wsV RX10 87 RX9 yX9_remove wsX9_remove) := goodIn_app (goodIn_of _ (by decide +kernel)) ggX10_tear_X9_remove
theorem dX10_tear_0 : decode cX10_tear 0 = .ok (.iload_n 1, 1) := by decide +kernel
theorem dX10_tear_1 : decode cX10_tear 1 = .ok (.invokestatic 69, 3) := by decide +kernel
theorem dX10_tear_4 : decode cX10_tear 4 = .ok (.ifCond .eq 15, 3) := by decide +kernel
theorem dX10_tear_7 : decode cX10_tear 7 = .ok (.aload_n 0, 1) := by decide +kernel
theorem dX10_tear_8 : decode cX10_tear 8 = .ok (.getfield 11, 3) := by decide +kernel
theorem dX10_tear_11 : decode cX10_tear 11 = .ok (.iload_n 1, 1) := by decide +kernel
theorem dX10_tear_12 : decode cX10_tear 12 = .ok (.aaload, 1) := by decide +kernel
theorem dX10_tear_13 : decode cX10_tear 13 = .ok (.invokevirtual 83, 3) := by decide +kernel
theorem dX10_tear_16 : decode cX10_tear 16 = .ok (.ifCond .ne 5, 3) := by decide +kernel
theorem dX10_tear_19 : decode cX10_tear 19 = .ok (.iconst 0, 1) := by decide +kernel
theorem dX10_tear_20 : decode cX10_tear 20 = .ok (.ireturn, 1) := by decide +kernel
theorem dX10_tear_21 : decode cX10_tear 21 = .ok (.aload_n 0, 1) := by decide +kernel
theorem dX10_tear_22 : decode cX10_tear 22 = .ok (.getfield 11, 3) := by decide +kernel
theorem dX10_tear_25 : decode cX10_tear 25 = .ok (.iload_n 1, 1) := by decide +kernel
theorem dX10_tear_26 : decode cX10_tear 26 = .ok (.aaload, 1) := by decide +kernel
theorem dX10_tear_27 : decode cX10_tear 27 = .ok (.invokevirtual 87, 3) := by decide +kernel
theorem dX10_tear_30 : decode cX10_tear 30 = .ok (.iconst 1, 1) := by decide +kernel
theorem dX10_tear_31 : decode cX10_tear 31 = .ok (.ireturn, 1) := by decide +kernel
set_option maxRecDepth 20000 in
theorem ggX10_write_X10_isSlot : GoodIn wsX10_write wsX10_isSlot := goodIn_r _ [5, 6, 7, 8, 4, 9] (by decide +kernel) (by decide +kernel)
set_option maxRecDepth 20000 in
theorem gX10_write_X10_isSlot : GoodIn wsX10_write (va_wsS RX10 69 yX10_isSlot wsX10_isSlot) := goodIn_app (goodIn_of _ (by decide +kernel)) ggX10_write_X10_isSlot
set_option maxRecDepth 20000 in
theorem ggX10_write_X9_isThere : GoodIn wsX10_write wsX9_isThere := goodIn_r _ [14, 15, 35, 36, 37] (by decide +kernel) (by decide +kernel)
set_option maxRecDepth 20000 in
theorem gX10_write_X9_isThere : GoodIn wsX10_write (wsV RX10 83 RX9 yX9_isThere wsX9_isThere) := goodIn_app (goodIn_of _ (by decide +kernel)) ggX10_write_X9_isThere
set_option maxRecDepth 20000 in
theorem ggX10_write_X9_put : GoodIn wsX10_write wsX9_put := goodIn_r _ [19, 15, 20, 8, 4, 9, 21, 22, 23, 13, 24, 25, 35, 36, 37] (by decide +kernel) (by decide +kernel)
set_option maxRecDepth 20000 in
theorem gX10_write_X9_put : GoodIn wsX10_write (wsV RX10 90 RX9 yX9_put wsX9_put) := goodIn_app (goodIn_of _ (by decide +kernel)) ggX10_write_X9_put
theorem dX10_write_0 : decode cX10_write 0 = .ok (.iload_n 1, 1) := by decide +kernel
theorem dX10_write_1 : decode cX10_write 1 = .ok (.invokestatic 69, 3) := by decide +kernel
theorem dX10_write_4 : decode cX10_write 4 = .ok (.ifCond .ne 6, 3) := by decide +kernel
theorem dX10_write_7 : decode cX10_write 7 = .ok (.bipush (-2), 2) := by decide +kernel
theorem dX10_write_9 : decode cX10_write 9 = .ok (.ireturn, 1) := by decide +kernel
theorem dX10_write_10 : decode cX10_write 10 = .ok (.aload_n 0, 1) := by decide +kernel
theorem dX10_write_11 : decode cX10_write 11 = .ok (.getfield 11, 3) := by decide +kernel
theorem dX10_write_14 : decode cX10_write 14 = .ok (.iload_n 1, 1) := by decide +kernel
theorem dX10_write_15 : decode cX10_write 15 = .ok (.aaload, 1) := by decide +kernel
theorem dX10_write_16 : decode cX10_write 16 = .ok (.invokevirtual 83, 3) := by decide +kernel
theorem dX10_write_19 : decode cX10_write 19 = .ok (.ifCond .ne 6, 3) := by decide +kernel
theorem dX10_write_22 : decode cX10_write 22 = .ok (.bipush (-5), 2) := by decide +kernel
theorem dX10_write_24 : decode cX10_write 24 = .ok (.ireturn, 1) := by decide +kernel
theorem dX10_write_25 : decode cX10_write 25 = .ok (.aload_n 0, 1) := by decide +kernel
theorem dX10_write_26 : decode cX10_write 26 = .ok (.getfield 11, 3) := by decide +kernel
theorem dX10_write_29 : decode cX10_write 29 = .ok (.iload_n 1, 1) := by decide +kernel
theorem dX10_write_30 : decode cX10_write 30 = .ok (.aaload, 1) := by decide +kernel
theorem dX10_write_31 : decode cX10_write 31 = .ok (.iload_n 2, 1) := by decide +kernel
theorem dX10_write_32 : decode cX10_write 32 = .ok (.lload_n 3, 1) := by decide +kernel
theorem dX10_write_33 : decode cX10_write 33 = .ok (.invokevirtual 90, 3) := by decide +kernel
theorem dX10_write_36 : decode cX10_write 36 = .ok (.ifCond .eq 7, 3) := by decide +kernel
theorem dX10_write_39 : decode cX10_write 39 = .ok (.iconst 0, 1) := by decide +kernel
theorem dX10_write_40 : decode cX10_write 40 = .ok (.goto 5, 3) := by decide +kernel
theorem dX10_write_43 : decode cX10_write 43 = .ok (.bipush (-6), 2) := by decide +kernel
theorem dX10_write_45 : decode cX10_write 45 = .ok (.ireturn, 1) := by decide +kernel
set_option maxRecDepth 20000 in
theorem ggX10_book_X10_isSlot : GoodIn wsX10_book wsX10_isSlot := goodIn_r _ [7, 8, 9, 10, 6, 11] (by decide +kernel) (by decide +kernel)
set_option maxRecDepth 20000 in
theorem gX10_book_X10_isSlot : GoodIn wsX10_book (va_wsS RX10 69 yX10_isSlot wsX10_isSlot) := goodIn_app (goodIn_of _ (by decide +kernel)) ggX10_book_X10_isSlot
set_option maxRecDepth 20000 in
theorem ggX10_book_X9_isThere : GoodIn wsX10_book wsX9_isThere := goodIn_r _ [16, 17, 45, 46, 47] (by decide +kernel) (by decide +kernel)
set_option maxRecDepth 20000 in
theorem gX10_book_X9_isThere : GoodIn wsX10_book (wsV RX10 83 RX9 yX9_isThere wsX9_isThere) := goodIn_app (goodIn_of _ (by decide +kernel)) ggX10_book_X9_isThere
set_option maxRecDepth 20000 in
theorem ggX10_book_X0_readFrom : GoodIn wsX10_book wsX0_readFrom := goodIn_r _ [22, 23, 24, 25, 26, 27, 15, 28, 17, 29, 10, 6, 11, 30, 31, 32, 21, 33, 34, 35, 48, 49, 50, 51, 45, 46, 47] (by decide +kernel) (by decide +kernel)
set_option maxRecDepth 20000 in
theorem gX10_book_X0_readFrom : GoodIn wsX10_book (wsV RX10 94 RX0 yX0_readFrom wsX0_readFrom) := goodIn_app (goodIn_of _ (by decide +kernel)) ggX10_book_X0_readFrom
theorem dX10_book_0 : decode cX10_book 0 = .ok (.iload_n 1, 1) := by decide +kernel
theorem dX10_book_1 : decode cX10_book 1 = .ok (.invokestatic 69, 3) := by decide +kernel
theorem dX10_book_4 : decode cX10_book 4 = .ok (.ifCond .ne 6, 3) := by decide +kernel
theorem dX10_book_7 : decode cX10_book 7 = .ok (.bipush (-2), 2) := by decide +kernel
theorem dX10_book_9 : decode cX10_book 9 = .ok (.ireturn, 1) := by decide +kernel
theorem dX10_book_10 : decode cX10_book 10 = .ok (.aload_n 0, 1) := by decide +kernel
theorem dX10_book_11 : decode cX10_book 11 = .ok (.getfield 21, 3) := by decide +kernel
theorem dX10_book_14 : decode cX10_book 14 = .ok (.bipush 16, 2) := by decide +kernel
theorem dX10_book_16 : decode cX10_book 16 = .ok (.if_icmp .lt 6, 3) := by decide +kernel
theorem dX10_book_19 : decode cX10_book 19 = .ok (.bipush (-8), 2) := by decide +kernel
theorem dX10_book_21 : decode cX10_book 21 = .ok (.ireturn, 1) := by decide +kernel
theorem dX10_book_22 : decode cX10_book 22 = .ok (.aload_n 0, 1) := by decide +kernel
theorem dX10_book_23 : decode cX10_book 23 = .ok (.getfield 11, 3) := by decide +kernel
theorem dX10_book_26 : decode cX10_book 26 = .ok (.iload_n 1, 1) := by decide +kernel
theorem dX10_book_27 : decode cX10_book 27 = .ok (.aaload, 1) := by decide +kernel
theorem dX10_book_28 : decode cX10_book 28 = .ok (.invokevirtual 83, 3) := by decide +kernel
theorem dX10_book_31 : decode cX10_book 31 = .ok (.ifCond .ne 6, 3) := by decide +kernel
theorem dX10_book_34 : decode cX10_book 34 = .ok (.bipush (-5), 2) := by decide +kernel
theorem dX10_book_36 : decode cX10_book 36 = .ok (.ireturn, 1) := by decide +kernel
theorem dX10_book_37 : decode cX10_book 37 = .ok (.aload_n 0, 1) := by decide +kernel
theorem dX10_book_38 : decode cX10_book 38 = .ok (.getfield 17, 3) := by decide +kernel
theorem dX10_book_41 : decode cX10_book 41 = .ok (.aload_n 0, 1) := by decide +kernel
theorem dX10_book_42 : decode cX10_book 42 = .ok (.getfield 21, 3) := by decide +kernel
theorem dX10_book_45 : decode cX10_book 45 = .ok (.aaload, 1) := by decide +kernel
theorem dX10_book_46 : decode cX10_book 46 = .ok (.aload_n 0, 1) := by decide +kernel
theorem dX10_book_47 : decode cX10_book 47 = .ok (.getfield 11, 3) := by decide +kernel
theorem dX10_book_50 : decode cX10_book 50 = .ok (.iload_n 1, 1) := by decide +kernel
theorem dX10_book_51 : decode cX10_book 51 = .ok (.aaload, 1) := by decide +kernel
theorem dX10_book_52 : decode cX10_book 52 = .ok (.invokevirtual 94, 3) := by decide +kernel
theorem dX10_book_55 : decode cX10_book 55 = .ok (.istore_n 2, 1) := by decide +kernel
theorem dX10_book_56 : decode cX10_book 56 = .ok (.iload_n 2, 1) := by decide +kernel
theorem dX10_book_57 : decode cX10_book 57 = .ok (.ifCond .eq 5, 3) := by decide +kernel
theorem dX10_book_60 : decode cX10_book 60 = .ok (.iload_n 2, 1) := by decide +kernel
theorem dX10_book_61 : decode cX10_book 61 = .ok (.ireturn, 1) := by decide +kernel
theorem dX10_book_62 : decode cX10_book 62 = .ok (.aload_n 0, 1) := by decide +kernel
theorem dX10_book_63 : decode cX10_book 63 = .ok (.dup, 1) := by decide +kernel
theorem dX10_book_64 : decode cX10_book 64 = .ok (.getfield 21, 3) := by decide +kernel
theorem dX10_book_67 : decode cX10_book 67 = .ok (.iconst 1, 1) := by decide +kernel
theorem dX10_book_68 : decode cX10_book 68 = .ok (.iadd, 1) := by decide +kernel
theorem dX10_book_69 : decode cX10_book 69 = .ok (.putfield 21, 3) := by decide +kernel
theorem dX10_book_72 : decode cX10_book 72 = .ok (.aload_n 0, 1) := by decide +kernel
theorem dX10_book_73 : decode cX10_book 73 = .ok (.getfield 21, 3) := by decide +kernel
theorem dX10_book_76 : decode cX10_book 76 = .ok (.iconst 1, 1) := by decide +kernel
theorem dX10_book_77 : decode cX10_book 77 = .ok (.isub, 1) := by decide +kernel
theorem dX10_book_78 : decode cX10_book 78 = .ok (.ireturn, 1) := by decide +kernel
set_option maxRecDepth 20000 in
theorem ggX10_comer_X10_isBook : GoodIn wsX10_comer wsX10_isBook := goodIn_r _ [7, 8, 9, 10, 6, 11, 30, 31, 32, 33, 34, 35, 36, 37, 38] (by decide +kernel) (by decide +kernel)
set_option maxRecDepth 20000 in
theorem gX10_comer_X10_isBook : GoodIn wsX10_comer (wsV RX10 98 RX10 yX10_isBook wsX10_isBook) := goodIn_app (goodIn_of _ (by decide +kernel)) ggX10_comer_X10_isBook
set_option maxRecDepth 20000 in
theorem ggX10_comer_X2_join : GoodIn wsX10_comer wsX2_join := goodIn_r _ [16, 17, 18, 19, 20, 21, 22, 23, 24, 25, 26, 27, 28, 29, 39, 40, 41, 42, 43, 44, 45, 46, 47, 48, 49, 50, 51] (by decide +kernel) (by decide +kernel)
set_option maxRecDepth 20000 in
theorem gX10_comer_X2_join : GoodIn wsX10_comer (wsV RX10 101 RX2 yX2_join wsX2_join) := goodIn_app (goodIn_of _ (by decide +kernel)) ggX10_comer_X2_join
theorem dX10_comer_0 : decode cX10_comer 0 = .ok (.aload_n 0, 1) := by decide +kernel
theorem dX10_comer_1 : decode cX10_comer 1 = .ok (.iload_n 1, 1) := by decide +kernel
theorem dX10_comer_2 : decode cX10_comer 2 = .ok (.invokevirtual 98, 3) := by decide +kernel
theorem dX10_comer_5 : decode cX10_comer 5 = .ok (.ifCond .ne 6, 3) := by decide +kernel
theorem dX10_comer_8 : decode cX10_comer 8 = .ok (.bipush (-2), 2) := by decide +kernel
theorem dX10_comer_10 : decode cX10_comer 10 = .ok (.ireturn, 1) := by decide +kernel
theorem dX10_comer_11 : decode cX10_comer 11 = .ok (.aload_n 0, 1) := by decide +kernel
theorem dX10_comer_12 : decode cX10_comer 12 = .ok (.getfield 35, 3) := by decide +kernel
theorem dX10_comer_15 : decode cX10_comer 15 = .ok (.aload_n 0, 1) := by decide +kernel
theorem dX10_comer_16 : decode cX10_comer 16 = .ok (.getfield 17, 3) := by decide +kernel
theorem dX10_comer_19 : decode cX10_comer 19 = .ok (.iload_n 1, 1) := by decide +kernel
theorem dX10_comer_20 : decode cX10_comer 20 = .ok (.aaload, 1) := by decide +kernel
theorem dX10_comer_21 : decode cX10_comer 21 = .ok (.invokevirtual 101, 3) := by decide +kernel
theorem dX10_comer_24 : decode cX10_comer 24 = .ok (.ireturn, 1) := by decide +kernel
set_option maxRecDepth 20000 in
theorem ggX10_dismiss_X2_clear : GoodIn wsX10_dismiss wsX2_clear := goodIn_r _ [6, 7, 8, 9, 10, 11, 12, 13, 14, 15, 16, 17, 27, 28, 29, 30, 31, 32, 33, 34, 35, 36, 37, 38, 39] (by decide +kernel) (by decide +kernel)
set_option maxRecDepth 20000 in
theorem gX10_dismiss_X2_clear : GoodIn wsX10_dismiss (wsV RX10 105 RX2 yX2_clear wsX2_clear) := goodIn_app (goodIn_of _ (by decide +kernel)) ggX10_dismiss_X2_clear
theorem dX10_dismiss_0 : decode cX10_dismiss 0 = .ok (.aload_n 0, 1) := by decide +kernel
theorem dX10_dismiss_1 : decode cX10_dismiss 1 = .ok (.getfield 35, 3) := by decide +kernel
theorem dX10_dismiss_4 : decode cX10_dismiss 4 = .ok (.invokevirtual 105, 3) := by decide +kernel
theorem dX10_dismiss_7 : decode cX10_dismiss 7 = .ok (.ireturn, 1) := by decide +kernel
set_option maxRecDepth 20000 in
theorem ggX10_tell_X2_size : GoodIn wsX10_tell wsX2_size := goodIn_r _ [7, 8, 9, 10, 11, 12, 13, 14, 34, 35, 36, 37, 38, 39, 40, 41, 42, 43, 44, 45, 46] (by decide +kernel) (by decide +kernel)
set_option maxRecDepth 20000 in
theorem gX10_tell_X2_size : GoodIn wsX10_tell (wsV RX10 109 RX2 yX2_size wsX2_size) := goodIn_app (goodIn_of _ (by decide +kernel)) ggX10_tell_X2_size
set_option maxRecDepth 20000 in
theorem ggX10_tell_X10_isWithin : GoodIn wsX10_tell wsX10_isWithin := goodIn_r _ [18] (by decide +kernel) (by decide +kernel)
set_option maxRecDepth 20000 in
theorem gX10_tell_X10_isWithin : GoodIn wsX10_tell (va_wsS RX10 75 yX10_isWithin wsX10_isWithin) := goodIn_app (goodIn_of _ (by decide +kernel)) ggX10_tell_X10_isWithin
set_option maxRecDepth 20000 in
theorem ggX10_tell_X2_setBar : GoodIn wsX10_tell wsX2_setBar := goodIn_r _ [22, 23, 24, 16, 17, 18, 34, 35, 36, 37, 38, 39, 40, 41, 42, 43] (by decide +kernel) (by decide +kernel)
set_option maxRecDepth 20000 in
theorem gX10_tell_X2_setBar : GoodIn wsX10_tell (wsV RX10 114 RX2 yX2_setBar wsX2_setBar) := goodIn_app (goodIn_of _ (by decide +kernel)) ggX10_tell_X2_setBar
theorem dX10_tell_0 : decode cX10_tell 0 = .ok (.iload_n 1, 1) := by decide +kernel
theorem dX10_tell_1 : decode cX10_tell 1 = .ok (.i2l, 1) := by decide +kernel
theorem dX10_tell_2 : decode cX10_tell 2 = .ok (.lconst 0, 1) := by decide +kernel
theorem dX10_tell_3 : decode cX10_tell 3 = .ok (.aload_n 0, 1) := by decide +kernel
theorem dX10_tell_4 : decode cX10_tell 4 = .ok (.getfield 35, 3) := by decide +kernel
theorem dX10_tell_7 : decode cX10_tell 7 = .ok (.invokevirtual 109, 3) := by decide +kernel
theorem dX10_tell_10 : decode cX10_tell 10 = .ok (.iconst 1, 1) := by decide +kernel
theorem dX10_tell_11 : decode cX10_tell 11 = .ok (.isub, 1) := by decide +kernel
theorem dX10_tell_12 : decode cX10_tell 12 = .ok (.i2l, 1) := by decide +kernel
theorem dX10_tell_13 : decode cX10_tell 13 = .ok (.invokestatic 75, 3) := by decide +kernel
theorem dX10_tell_16 : decode cX10_tell 16 = .ok (.ifCond .eq 15, 3) := by decide +kernel
theorem dX10_tell_19 : decode cX10_tell 19 = .ok (.iload_n 2, 1) := by decide +kernel
theorem dX10_tell_20 : decode cX10_tell 20 = .ok (.i2l, 1) := by decide +kernel
theorem dX10_tell_21 : decode cX10_tell 21 = .ok (.lconst 0, 1) := by decide +kernel
theorem dX10_tell_22 : decode cX10_tell 22 = .ok (.ldc2_w 112, 3) := by decide +kernel
theorem dX10_tell_25 : decode cX10_tell 25 = .ok (.invokestatic 75, 3) := by decide +kernel
theorem dX10_tell_28 : decode cX10_tell 28 = .ok (.ifCond .ne 5, 3) := by decide +kernel
theorem dX10_tell_31 : decode cX10_tell 31 = .ok (.iconst 0, 1) := by decide +kernel
theorem dX10_tell_32 : decode cX10_tell 32 = .ok (.ireturn, 1) := by decide +kernel
theorem dX10_tell_33 : decode cX10_tell 33 = .ok (.aload_n 0, 1) := by decide +kernel
theorem dX10_tell_34 : decode cX10_tell 34 = .ok (.getfield 35, 3) := by decide +kernel
theorem dX10_tell_37 : decode cX10_tell 37 = .ok (.iload_n 1, 1) := by decide +kernel
theorem dX10_tell_38 : decode cX10_tell 38 = .ok (.iload_n 2, 1) := by decide +kernel
theorem dX10_tell_39 : decode cX10_tell 39 = .ok (.invokevirtual 114, 3) := by decide +kernel
theorem dX10_tell_42 : decode cX10_tell 42 = .ok (.iconst 1, 1) := by decide +kernel
theorem dX10_tell_43 : decode cX10_tell 43 = .ok (.ireturn, 1) := by decide +kernel
set_option maxRecDepth 20000 in
theorem ggX10_told_X2_followTold : GoodIn wsX10_told wsX2_followTold := goodIn_r _ [7, 8, 9, 10, 11, 12, 13, 6, 14, 15, 16, 17, 18, 19, 20, 21, 22, 23, 24, 25, 26, 27, 28, 29, 30, 31, 32, 33, 34, 35, 36, 37, 38, 39, 40, 41, 42, 43, 44, 45, 46, 47, 48, 49, 50, 51, 52, 53, 54, 55, 56, 57, 58, 59, 60, 61, 62, 63, 64, 65, 66, 67, 68, 69, 70, 71, 72, 73, 74, 75, 76, 77, 78, 79, 80, 81, 82, 83, 84, 85, 86, 87, 88, 89, 90, 91, 92, 93, 94, 95, 96, 97, 98, 99, 100, 101, 102, 103, 104, 105, 106, 107, 108, 109, 110, 111, 112, 113, 114, 115, 116, 126, 127, 128, 129, 130, 131, 132, 133, 134, 135, 136, 137, 138, 139, 140, 141, 142, 143, 144, 145, 146, 147, 148] (by decide +kernel) (by decide +kernel)
set_option maxRecDepth 20000 in
theorem gX10_told_X2_followTold : GoodIn wsX10_told (wsV RX10 117 RX2 yX2_followTold wsX2_followTold) := goodIn_app (goodIn_of _ (by decide +kernel)) ggX10_told_X2_followTold
theorem dX10_told_0 : decode cX10_told 0 = .ok (.aload_n 0, 1) := by decide +kernel
theorem dX10_told_1 : decode cX10_told 1 = .ok (.getfield 35, 3) := by decide +kernel
theorem dX10_told_4 : decode cX10_told 4 = .ok (.aload_n 0, 1) := by decide +kernel
theorem dX10_told_5 : decode cX10_told 5 = .ok (.getfield 28, 3) := by decide +kernel
theorem dX10_told_8 : decode cX10_told 8 = .ok (.invokevirtual 117, 3) := by decide +kernel
theorem dX10_told_11 : decode cX10_told 11 = .ok (.return_, 1) := by decide +kernel
set_option maxRecDepth 20000 in
theorem ggX10_best_X2_chooseUpTo : GoodIn wsX10_best wsX2_chooseUpTo := goodIn_r _ [7, 8, 9, 10, 11, 12, 13, 6, 14, 15, 16, 17, 18, 19, 20, 21, 22, 23, 24, 25, 26, 27, 28, 29, 30, 31, 32, 33, 34, 35, 36, 37, 38, 39, 40, 41, 42, 43, 44, 45, 46, 47, 48, 49, 50, 51, 52, 53, 54, 55, 56, 57, 58, 59, 60, 61, 62, 63, 64, 65, 66, 67, 68, 69, 70, 71, 72, 73, 74, 75, 76, 77, 78, 79, 80, 81, 82, 83, 84, 85, 86, 87, 88, 89, 90, 91, 92, 93, 94, 95, 96, 97, 98, 99, 100, 101, 102, 103, 104, 105, 106, 107, 108, 109, 110, 111, 112, 113, 114, 115, 116, 117, 118, 119, 120, 121, 122, 123, 124, 125, 126, 127, 128, 129, 130, 131, 132, 133, 134, 135, 136, 137, 138, 139, 149, 150, 151, 152, 153, 154, 155, 156, 157, 158, 159, 160, 161, 162, 163, 164, 165, 166, 167, 168, 169, 170, 171] (by decide +kernel) (by decide +kernel)
set_option maxRecDepth 20000 in
theorem gX10_best_X2_chooseUpTo : GoodIn wsX10_best (wsV RX10 121 RX2 yX2_chooseUpTo wsX2_chooseUpTo) := goodIn_app (goodIn_of _ (by decide +kernel)) ggX10_best_X2_chooseUpTo
theorem dX10_best_0 : decode cX10_best 0 = .ok (.aload_n 0, 1) := by decide +kernel
theorem dX10_best_1 : decode cX10_best 1 = .ok (.getfield 35, 3) := by decide +kernel
theorem dX10_best_4 : decode cX10_best 4 = .ok (.iconst 1, 1) := by decide +kernel
theorem dX10_best_5 : decode cX10_best 5 = .ok (.aload_n 0, 1) := by decide +kernel
theorem dX10_best_6 : decode cX10_best 6 = .ok (.getfield 28, 3) := by decide +kernel
theorem dX10_best_9 : decode cX10_best 9 = .ok (.invokevirtual 121, 3) := by decide +kernel
theorem dX10_best_12 : decode cX10_best 12 = .ok (.return_, 1) := by decide +kernel
set_option maxRecDepth 20000 in
theorem ggX10_bar_X2_size : GoodIn wsX10_bar wsX2_size := goodIn_r _ [6, 7, 8, 9, 10, 11, 12, 13, 113, 114, 115, 116, 117, 118, 119, 120, 121, 122, 123, 124, 125] (by decide +kernel) (by decide +kernel)
set_option maxRecDepth 20000 in
theorem gX10_bar_X2_size : GoodIn wsX10_bar (wsV RX10 109 RX2 yX2_size wsX2_size) := goodIn_app (goodIn_of _ (by decide +kernel)) ggX10_bar_X2_size
set_option maxRecDepth 20000 in
theorem ggX10_bar_X10_isWithin : GoodIn wsX10_bar wsX10_isWithin := goodIn_r _ [17] (by decide +kernel) (by decide +kernel)
set_option maxRecDepth 20000 in
theorem gX10_bar_X10_isWithin : GoodIn wsX10_bar (va_wsS RX10 75 yX10_isWithin wsX10_isWithin) := goodIn_app (goodIn_of _ (by decide +kernel)) ggX10_bar_X10_isWithin
set_option maxRecDepth 20000 in
theorem ggX10_bar_X2_bestBar : GoodIn wsX10_bar wsX2_bestBar := goodIn_r _ [21, 22, 23, 24, 25, 26, 5, 27, 28, 29, 7, 30, 31, 32, 33, 34, 35, 36, 37, 38, 39, 40, 41, 42, 43, 8, 9, 10, 11, 12, 13, 44, 45, 46, 47, 48, 49, 15, 16, 17, 50, 51, 52, 53, 54, 55, 56, 57, 58, 59, 60, 61, 62, 63, 64, 65, 66, 67, 68, 69, 70, 71, 72, 73, 74, 75, 76, 77, 78, 79, 80, 81, 82, 83, 84, 85, 86, 87, 88, 89, 90, 91, 92, 93, 94, 95, 96, 97, 98, 99, 100, 101, 102, 103, 113, 114, 115, 116, 117, 118, 119, 120, 121, 122, 126, 123, 124, 125, 127, 128, 129, 130] (by decide +kernel) (by decide +kernel)
set_option maxRecDepth 20000 in
theorem gX10_bar_X2_bestBar : GoodIn wsX10_bar (wsV RX10 125 RX2 yX2_bestBar wsX2_bestBar) := goodIn_app (goodIn_of _ (by decide +kernel)) ggX10_bar_X2_bestBar
theorem dX10_bar_0 : decode cX10_bar 0 = .ok (.iload_n 1, 1) := by decide +kernel
theorem dX10_bar_1 : decode cX10_bar 1 = .ok (.i2l, 1) := by decide +kernel
theorem dX10_bar_2 : decode cX10_bar 2 = .ok (.lconst 0, 1) := by decide +kernel
theorem dX10_bar_3 : decode cX10_bar 3 = .ok (.aload_n 0, 1) := by decide +kernel
theorem dX10_bar_4 : decode cX10_bar 4 = .ok (.getfield 35, 3) := by decide +kernel
theorem dX10_bar_7 : decode cX10_bar 7 = .ok (.invokevirtual 109, 3) := by decide +kernel
theorem dX10_bar_10 : decode cX10_bar 10 = .ok (.iconst 1, 1) := by decide +kernel
theorem dX10_bar_11 : decode cX10_bar 11 = .ok (.isub, 1) := by decide +kernel
theorem dX10_bar_12 : decode cX10_bar 12 = .ok (.i2l, 1) := by decide +kernel
theorem dX10_bar_13 : decode cX10_bar 13 = .ok (.invokestatic 75, 3) := by decide +kernel
theorem dX10_bar_16 : decode cX10_bar 16 = .ok (.ifCond .ne 5, 3) := by decide +kernel
theorem dX10_bar_19 : decode cX10_bar 19 = .ok (.iconst (-1), 1) := by decide +kernel
theorem dX10_bar_20 : decode cX10_bar 20 = .ok (.ireturn, 1) := by decide +kernel
theorem dX10_bar_21 : decode cX10_bar 21 = .ok (.aload_n 0, 1) := by decide +kernel
theorem dX10_bar_22 : decode cX10_bar 22 = .ok (.getfield 35, 3) := by decide +kernel
theorem dX10_bar_25 : decode cX10_bar 25 = .ok (.iload_n 1, 1) := by decide +kernel
theorem dX10_bar_26 : decode cX10_bar 26 = .ok (.invokevirtual 125, 3) := by decide +kernel
theorem dX10_bar_29 : decode cX10_bar 29 = .ok (.ireturn, 1) := by decide +kernel
set_option maxRecDepth 20000 in
theorem ggX10_few_X10_isWithin : GoodIn wsX10_few wsX10_isWithin := goodIn_r _ [7] (by decide +kernel) (by decide +kernel)
set_option maxRecDepth 20000 in
theorem gX10_few_X10_isWithin : GoodIn wsX10_few (va_wsS RX10 75 yX10_isWithin wsX10_isWithin) := goodIn_app (goodIn_of _ (by decide +kernel)) ggX10_few_X10_isWithin
set_option maxRecDepth 20000 in
theorem ggX10_few_X2_chooseUpTo : GoodIn wsX10_few wsX2_chooseUpTo := goodIn_r _ [12, 13, 14, 15, 16, 17, 18, 11, 19, 20, 21, 22, 23, 24, 25, 26, 27, 28, 29, 30, 31, 32, 33, 34, 35, 36, 37, 38, 39, 40, 41, 42, 43, 44, 45, 46, 47, 5, 6, 7, 48, 49, 50, 51, 52, 53, 54, 55, 56, 57, 58, 59, 60, 61, 62, 63, 64, 65, 66, 67, 68, 69, 70, 71, 72, 73, 74, 75, 76, 77, 78, 79, 80, 81, 82, 83, 84, 85, 86, 87, 88, 89, 90, 91, 92, 93, 94, 95, 96, 97, 98, 99, 100, 101, 102, 103, 104, 105, 106, 107, 108, 109, 110, 111, 112, 113, 114, 115, 116, 117, 118, 119, 120, 121, 122, 123, 124, 125, 126, 127, 128, 129, 130, 131, 132, 133, 134, 135, 136, 137, 138, 139, 140, 141, 151, 152, 153, 154, 155, 156, 157, 158, 159, 160, 161, 162, 163, 164, 165, 166, 167, 168, 169, 170, 171, 172, 173] (by decide +kernel) (by decide +kernel)
set_option maxRecDepth 20000 in
theorem gX10_few_X2_chooseUpTo : GoodIn wsX10_few (wsV RX10 121 RX2 yX2_chooseUpTo wsX2_chooseUpTo) := goodIn_app (goodIn_of _ (by decide +kernel)) ggX10_few_X2_chooseUpTo
theorem dX10_few_0 : decode cX10_few 0 = .ok (.iload_n 1, 1) := by decide +kernel
theorem dX10_few_1 : decode cX10_few 1 = .ok (.i2l, 1) := by decide +kernel
theorem dX10_few_2 : decode cX10_few 2 = .ok (.lconst 0, 1) := by decide +kernel
theorem dX10_few_3 : decode cX10_few 3 = .ok (.ldc2_w 129, 3) := by decide +kernel
theorem dX10_few_6 : decode cX10_few 6 = .ok (.invokestatic 75, 3) := by decide +kernel
theorem dX10_few_9 : decode cX10_few 9 = .ok (.ifCond .ne 5, 3) := by decide +kernel
theorem dX10_few_12 : decode cX10_few 12 = .ok (.iconst 0, 1) := by decide +kernel
theorem dX10_few_13 : decode cX10_few 13 = .ok (.ireturn, 1) := by decide +kernel
theorem dX10_few_14 : decode cX10_few 14 = .ok (.aload_n 0, 1) := by decide +kernel
theorem dX10_few_15 : decode cX10_few 15 = .ok (.getfield 35, 3) := by decide +kernel
theorem dX10_few_18 : decode cX10_few 18 = .ok (.iload_n 1, 1) := by decide +kernel
theorem dX10_few_19 : decode cX10_few 19 = .ok (.aload_n 0, 1) := by decide +kernel
theorem dX10_few_20 : decode cX10_few 20 = .ok (.getfield 28, 3) := by decide +kernel
theorem dX10_few_23 : decode cX10_few 23 = .ok (.invokevirtual 121, 3) := by decide +kernel
theorem dX10_few_26 : decode cX10_few 26 = .ok (.iconst 1, 1) := by decide +kernel
theorem dX10_few_27 : decode cX10_few 27 = .ok (.ireturn, 1) := by decide +kernel
set_option maxRecDepth 20000 in
theorem ggX10_foresight_X2_foreseeInto : GoodIn wsX10_foresight wsX2_foreseeInto := goodIn_r _ [7, 8, 9, 10, 11, 12, 6, 13, 14, 15, 16, 17, 18, 19, 20, 21, 22, 23, 24, 25, 26, 27, 28, 29, 30, 31, 32, 33, 34, 35, 36, 37, 38, 39, 40, 41, 42, 43, 44, 45, 46, 47, 48, 49, 50, 51, 52, 53, 54, 55, 56, 57, 58, 59, 60, 61, 62, 63, 64, 65, 66, 67, 68, 69, 70, 71, 72, 73, 74, 75, 76, 77, 78, 79, 80, 81, 82, 83, 84, 85, 86, 87, 88, 89, 90, 91, 92, 93, 94, 95, 96, 97, 98, 99, 100, 101, 102, 103, 104, 105, 106, 107, 108, 109, 110, 111, 112, 113, 114, 115, 116, 117, 118, 119, 120, 121, 122, 123, 124, 125, 126, 127, 128, 138, 139, 140, 141, 142, 143, 144, 145, 146, 147, 148, 149, 150, 151, 152, 153, 154, 155, 156, 157, 158, 159, 160] (by decide +kernel) (by decide +kernel)
set_option maxRecDepth 20000 in
theorem gX10_foresight_X2_foreseeInto : GoodIn wsX10_foresight (wsV RX10 131 RX2 yX2_foreseeInto wsX2_foreseeInto) := goodIn_app (goodIn_of _ (by decide +kernel)) ggX10_foresight_X2_foreseeInto
theorem dX10_foresight_0 : decode cX10_foresight 0 = .ok (.aload_n 0, 1) := by decide +kernel
theorem dX10_foresight_1 : decode cX10_foresight 1 = .ok (.getfield 35, 3) := by decide +kernel
theorem dX10_foresight_4 : decode cX10_foresight 4 = .ok (.aload_n 0, 1) := by decide +kernel
theorem dX10_foresight_5 : decode cX10_foresight 5 = .ok (.getfield 28, 3) := by decide +kernel
theorem dX10_foresight_8 : decode cX10_foresight 8 = .ok (.invokevirtual 131, 3) := by decide +kernel
theorem dX10_foresight_11 : decode cX10_foresight 11 = .ok (.return_, 1) := by decide +kernel
set_option maxRecDepth 20000 in
theorem ggX10_half_X2_lowestBarForHalf : GoodIn wsX10_half wsX2_lowestBarForHalf := goodIn_r _ [6, 7, 8, 9, 10, 11, 12, 13, 14, 5, 15, 16, 17, 18, 19, 20, 21, 22, 23, 24, 25, 26, 27, 28, 29, 30, 31, 32, 33, 34, 35, 36, 37, 38, 39, 40, 41, 42, 43, 44, 45, 46, 47, 48, 49, 50, 51, 52, 53, 54, 55, 56, 57, 58, 59, 60, 61, 62, 63, 64, 65, 66, 67, 68, 69, 70, 71, 72, 73, 74, 75, 76, 77, 78, 79, 80, 81, 82, 83, 84, 85, 86, 87, 88, 89, 90, 91, 92, 93, 94, 95, 96, 97, 98, 99, 100, 101, 102, 103, 104, 105, 106, 107, 108, 109, 110, 111, 112, 113, 114, 115, 116, 117, 118, 119, 120, 121, 122, 123, 133, 134, 135, 136, 137, 138, 139, 140, 141, 142, 143, 144, 145, 146, 147, 148, 149, 150] (by decide +kernel) (by decide +kernel)
set_option maxRecDepth 20000 in
theorem gX10_half_X2_lowestBarForHalf : GoodIn wsX10_half (wsV RX10 134 RX2 yX2_lowestBarForHalf wsX2_lowestBarForHalf) := goodIn_app (goodIn_of _ (by decide +kernel)) ggX10_half_X2_lowestBarForHalf
theorem dX10_half_0 : decode cX10_half 0 = .ok (.aload_n 0, 1) := by decide +kernel
theorem dX10_half_1 : decode cX10_half 1 = .ok (.getfield 35, 3) := by decide +kernel
theorem dX10_half_4 : decode cX10_half 4 = .ok (.invokevirtual 134, 3) := by decide +kernel
theorem dX10_half_7 : decode cX10_half 7 = .ok (.ireturn, 1) := by decide +kernel
set_option maxRecDepth 20000 in
theorem ggX10_letting_X10_isWithin : GoodIn wsX10_letting wsX10_isWithin := goodIn_r _ [7] (by decide +kernel) (by decide +kernel)
set_option maxRecDepth 20000 in
theorem gX10_letting_X10_isWithin : GoodIn wsX10_letting (va_wsS RX10 75 yX10_isWithin wsX10_isWithin) := goodIn_app (goodIn_of _ (by decide +kernel)) ggX10_letting_X10_isWithin
set_option maxRecDepth 20000 in
theorem ggX10_letting_X6_winLetting : GoodIn wsX10_letting wsX6_winLetting := goodIn_r _ [12, 13, 14, 15, 16, 17, 18, 19, 20, 21, 22, 23, 24, 25, 26, 27, 28, 29, 11, 30, 31, 32, 33, 34, 35, 36, 37, 38, 39, 40, 41, 42, 43, 44, 45, 46, 47, 48, 49, 50, 51, 52, 53, 54, 55, 56, 57, 58, 59, 60, 61, 62, 63, 64, 65, 66, 67, 68, 69, 70, 71, 72, 73, 74, 75, 76, 77, 78, 79, 80, 81, 82, 83, 93, 94, 95, 96, 97, 98, 99, 100, 101, 102, 103] (by decide +kernel) (by decide +kernel)
set_option maxRecDepth 20000 in
theorem gX10_letting_X6_winLetting : GoodIn wsX10_letting (wsV RX10 139 RX6 yX6_winLetting wsX6_winLetting) := goodIn_app (goodIn_of _ (by decide +kernel)) ggX10_letting_X6_winLetting
theorem dX10_letting_0 : decode cX10_letting 0 = .ok (.iload_n 1, 1) := by decide +kernel
theorem dX10_letting_1 : decode cX10_letting 1 = .ok (.i2l, 1) := by decide +kernel
theorem dX10_letting_2 : decode cX10_letting 2 = .ok (.lconst 1, 1) := by decide +kernel
theorem dX10_letting_3 : decode cX10_letting 3 = .ok (.ldc2_w 137, 3) := by decide +kernel
theorem dX10_letting_6 : decode cX10_letting 6 = .ok (.invokestatic 75, 3) := by decide +kernel
theorem dX10_letting_9 : decode cX10_letting 9 = .ok (.ifCond .eq 16, 3) := by decide +kernel
theorem dX10_letting_12 : decode cX10_letting 12 = .ok (.iload_n 2, 1) := by decide +kernel
theorem dX10_letting_13 : decode cX10_letting 13 = .ok (.i2l, 1) := by decide +kernel
theorem dX10_letting_14 : decode cX10_letting 14 = .ok (.lconst 0, 1) := by decide +kernel
theorem dX10_letting_15 : decode cX10_letting 15 = .ok (.iload_n 1, 1) := by decide +kernel
theorem dX10_letting_16 : decode cX10_letting 16 = .ok (.iconst 1, 1) := by decide +kernel
theorem dX10_letting_17 : decode cX10_letting 17 = .ok (.isub, 1) := by decide +kernel
theorem dX10_letting_18 : decode cX10_letting 18 = .ok (.i2l, 1) := by decide +kernel
theorem dX10_letting_19 : decode cX10_letting 19 = .ok (.invokestatic 75, 3) := by decide +kernel
theorem dX10_letting_22 : decode cX10_letting 22 = .ok (.ifCond .ne 5, 3) := by decide +kernel
theorem dX10_letting_25 : decode cX10_letting 25 = .ok (.iconst 0, 1) := by decide +kernel
theorem dX10_letting_26 : decode cX10_letting 26 = .ok (.ireturn, 1) := by decide +kernel
theorem dX10_letting_27 : decode cX10_letting 27 = .ok (.aload_n 0, 1) := by decide +kernel
theorem dX10_letting_28 : decode cX10_letting 28 = .ok (.getfield 42, 3) := by decide +kernel
theorem dX10_letting_31 : decode cX10_letting 31 = .ok (.iload_n 1, 1) := by decide +kernel
theorem dX10_letting_32 : decode cX10_letting 32 = .ok (.iload_n 2, 1) := by decide +kernel
theorem dX10_letting_33 : decode cX10_letting 33 = .ok (.aload_n 0, 1) := by decide +kernel
theorem dX10_letting_34 : decode cX10_letting 34 = .ok (.getfield 28, 3) := by decide +kernel
theorem dX10_letting_37 : decode cX10_letting 37 = .ok (.invokevirtual 139, 3) := by decide +kernel
theorem dX10_letting_40 : decode cX10_letting 40 = .ok (.iconst 1, 1) := by decide +kernel
theorem dX10_letting_41 : decode cX10_letting 41 = .ok (.ireturn, 1) := by decide +kernel
set_option maxRecDepth 20000 in
theorem ggX10_pass_X10_isWithin : GoodIn wsX10_pass wsX10_isWithin := goodIn_r _ [6] (by decide +kernel) (by decide +kernel)
set_option maxRecDepth 20000 in
theorem gX10_pass_X10_isWithin : GoodIn wsX10_pass (va_wsS RX10 75 yX10_isWithin wsX10_isWithin) := goodIn_app (goodIn_of _ (by decide +kernel)) ggX10_pass_X10_isWithin
set_option maxRecDepth 20000 in
theorem ggX10_pass_X6_bestToLet : GoodIn wsX10_pass wsX6_bestToLet := goodIn_r _ [11, 12, 13, 14, 15, 16, 17, 18, 19, 20, 21, 22, 23, 24, 25, 26, 27, 28, 10, 29, 30, 31, 32, 33, 34, 35, 36, 37, 38, 39, 40, 41, 42, 43, 44, 45, 46, 47, 48, 49, 50, 51, 52, 53, 54, 55, 56, 57, 58, 59, 69, 70, 71, 72, 73, 74] (by decide +kernel) (by decide +kernel)
set_option maxRecDepth 20000 in
theorem gX10_pass_X6_bestToLet : GoodIn wsX10_pass (wsV RX10 143 RX6 yX6_bestToLet wsX6_bestToLet) := goodIn_app (goodIn_of _ (by decide +kernel)) ggX10_pass_X6_bestToLet
theorem dX10_pass_0 : decode cX10_pass 0 = .ok (.iload_n 1, 1) := by decide +kernel
theorem dX10_pass_1 : decode cX10_pass 1 = .ok (.i2l, 1) := by decide +kernel
theorem dX10_pass_2 : decode cX10_pass 2 = .ok (.lconst 1, 1) := by decide +kernel
theorem dX10_pass_3 : decode cX10_pass 3 = .ok (.ldc2_w 137, 3) := by decide +kernel
theorem dX10_pass_6 : decode cX10_pass 6 = .ok (.invokestatic 75, 3) := by decide +kernel
theorem dX10_pass_9 : decode cX10_pass 9 = .ok (.ifCond .ne 5, 3) := by decide +kernel
theorem dX10_pass_12 : decode cX10_pass 12 = .ok (.iconst (-1), 1) := by decide +kernel
theorem dX10_pass_13 : decode cX10_pass 13 = .ok (.ireturn, 1) := by decide +kernel
theorem dX10_pass_14 : decode cX10_pass 14 = .ok (.aload_n 0, 1) := by decide +kernel
theorem dX10_pass_15 : decode cX10_pass 15 = .ok (.getfield 42, 3) := by decide +kernel
theorem dX10_pass_18 : decode cX10_pass 18 = .ok (.iload_n 1, 1) := by decide +kernel
theorem dX10_pass_19 : decode cX10_pass 19 = .ok (.invokevirtual 143, 3) := by decide +kernel
theorem dX10_pass_22 : decode cX10_pass 22 = .ok (.ireturn, 1) := by decide +kernel
set_option maxRecDepth 20000 in
theorem ggX10_pay_X10_isWithin : GoodIn wsX10_pay wsX10_isWithin := goodIn_r _ [7] (by decide +kernel) (by decide +kernel)
set_option maxRecDepth 20000 in
theorem gX10_pay_X10_isWithin : GoodIn wsX10_pay (va_wsS RX10 75 yX10_isWithin wsX10_isWithin) := goodIn_app (goodIn_of _ (by decide +kernel)) ggX10_pay_X10_isWithin
set_option maxRecDepth 20000 in
theorem ggX10_pay_X7_setPay : GoodIn wsX10_pay wsX7_setPay := goodIn_r _ [12, 13, 14, 5, 6, 7, 24, 25, 26, 27] (by decide +kernel) (by decide +kernel)
set_option maxRecDepth 20000 in
theorem gX10_pay_X7_setPay : GoodIn wsX10_pay (wsV RX10 150 RX7 yX7_setPay wsX7_setPay) := goodIn_app (goodIn_of _ (by decide +kernel)) ggX10_pay_X7_setPay
theorem dX10_pay_0 : decode cX10_pay 0 = .ok (.iload_n 1, 1) := by decide +kernel
theorem dX10_pay_1 : decode cX10_pay 1 = .ok (.i2l, 1) := by decide +kernel
theorem dX10_pay_2 : decode cX10_pay 2 = .ok (.lconst 1, 1) := by decide +kernel
theorem dX10_pay_3 : decode cX10_pay 3 = .ok (.ldc2_w 146, 3) := by decide +kernel
theorem dX10_pay_6 : decode cX10_pay 6 = .ok (.invokestatic 75, 3) := by decide +kernel
theorem dX10_pay_9 : decode cX10_pay 9 = .ok (.ifCond .eq 15, 3) := by decide +kernel
theorem dX10_pay_12 : decode cX10_pay 12 = .ok (.iload_n 2, 1) := by decide +kernel
theorem dX10_pay_13 : decode cX10_pay 13 = .ok (.i2l, 1) := by decide +kernel
theorem dX10_pay_14 : decode cX10_pay 14 = .ok (.lconst 0, 1) := by decide +kernel
theorem dX10_pay_15 : decode cX10_pay 15 = .ok (.ldc2_w 148, 3) := by decide +kernel
theorem dX10_pay_18 : decode cX10_pay 18 = .ok (.invokestatic 75, 3) := by decide +kernel
theorem dX10_pay_21 : decode cX10_pay 21 = .ok (.ifCond .ne 5, 3) := by decide +kernel
theorem dX10_pay_24 : decode cX10_pay 24 = .ok (.iconst 0, 1) := by decide +kernel
theorem dX10_pay_25 : decode cX10_pay 25 = .ok (.ireturn, 1) := by decide +kernel
theorem dX10_pay_26 : decode cX10_pay 26 = .ok (.aload_n 0, 1) := by decide +kernel
theorem dX10_pay_27 : decode cX10_pay 27 = .ok (.getfield 49, 3) := by decide +kernel
theorem dX10_pay_30 : decode cX10_pay 30 = .ok (.iload_n 1, 1) := by decide +kernel
theorem dX10_pay_31 : decode cX10_pay 31 = .ok (.iload_n 2, 1) := by decide +kernel
theorem dX10_pay_32 : decode cX10_pay 32 = .ok (.invokevirtual 150, 3) := by decide +kernel
theorem dX10_pay_35 : decode cX10_pay 35 = .ok (.iconst 1, 1) := by decide +kernel
theorem dX10_pay_36 : decode cX10_pay 36 = .ok (.ireturn, 1) := by decide +kernel
set_option maxRecDepth 20000 in
theorem ggX10_ranks_X10_isWithin : GoodIn wsX10_ranks wsX10_isWithin := goodIn_r _ [7] (by decide +kernel) (by decide +kernel)
set_option maxRecDepth 20000 in
theorem gX10_ranks_X10_isWithin : GoodIn wsX10_ranks (va_wsS RX10 75 yX10_isWithin wsX10_isWithin) := goodIn_app (goodIn_of _ (by decide +kernel)) ggX10_ranks_X10_isWithin
set_option maxRecDepth 20000 in
theorem ggX10_ranks_X7_meanInto : GoodIn wsX10_ranks wsX7_meanInto := goodIn_r _ [12, 13, 14, 15, 16, 11, 17, 18, 19, 20, 21, 22, 23, 24, 25, 26, 27, 28, 29, 30, 31, 32, 33, 34, 35, 36, 37, 38, 39, 40, 41, 42, 43, 44, 45, 46, 47, 48, 49, 50, 51, 52, 53, 54, 55, 56, 57, 58, 59, 60, 61, 62, 63, 64, 65, 66, 67, 68, 69, 70, 71, 72, 73, 74, 75, 76, 77, 78, 79, 80, 81, 82, 83, 84, 85, 86, 87, 88, 89, 90, 91, 92, 93, 94, 95, 96, 97, 98, 99, 100, 110, 111, 112, 113, 114, 115, 116, 117, 118, 119] (by decide +kernel) (by decide +kernel)
set_option maxRecDepth 20000 in
theorem gX10_ranks_X7_meanInto : GoodIn wsX10_ranks (wsV RX10 153 RX7 yX7_meanInto wsX7_meanInto) := goodIn_app (goodIn_of _ (by decide +kernel)) ggX10_ranks_X7_meanInto
theorem dX10_ranks_0 : decode cX10_ranks 0 = .ok (.iload_n 1, 1) := by decide +kernel
theorem dX10_ranks_1 : decode cX10_ranks 1 = .ok (.i2l, 1) := by decide +kernel
theorem dX10_ranks_2 : decode cX10_ranks 2 = .ok (.lconst 1, 1) := by decide +kernel
theorem dX10_ranks_3 : decode cX10_ranks 3 = .ok (.ldc2_w 146, 3) := by decide +kernel
theorem dX10_ranks_6 : decode cX10_ranks 6 = .ok (.invokestatic 75, 3) := by decide +kernel
theorem dX10_ranks_9 : decode cX10_ranks 9 = .ok (.ifCond .ne 5, 3) := by decide +kernel
theorem dX10_ranks_12 : decode cX10_ranks 12 = .ok (.iconst 0, 1) := by decide +kernel
theorem dX10_ranks_13 : decode cX10_ranks 13 = .ok (.ireturn, 1) := by decide +kernel
theorem dX10_ranks_14 : decode cX10_ranks 14 = .ok (.aload_n 0, 1) := by decide +kernel
theorem dX10_ranks_15 : decode cX10_ranks 15 = .ok (.getfield 49, 3) := by decide +kernel
theorem dX10_ranks_18 : decode cX10_ranks 18 = .ok (.iload_n 1, 1) := by decide +kernel
theorem dX10_ranks_19 : decode cX10_ranks 19 = .ok (.aload_n 0, 1) := by decide +kernel
theorem dX10_ranks_20 : decode cX10_ranks 20 = .ok (.getfield 28, 3) := by decide +kernel
theorem dX10_ranks_23 : decode cX10_ranks 23 = .ok (.invokevirtual 153, 3) := by decide +kernel
theorem dX10_ranks_26 : decode cX10_ranks 26 = .ok (.iconst 1, 1) := by decide +kernel
theorem dX10_ranks_27 : decode cX10_ranks 27 = .ok (.ireturn, 1) := by decide +kernel
set_option maxRecDepth 20000 in
theorem ggX10_yes_X10_isWithin : GoodIn wsX10_yes wsX10_isWithin := goodIn_r _ [6] (by decide +kernel) (by decide +kernel)
set_option maxRecDepth 20000 in
theorem gX10_yes_X10_isWithin : GoodIn wsX10_yes (va_wsS RX10 75 yX10_isWithin wsX10_isWithin) := goodIn_app (goodIn_of _ (by decide +kernel)) ggX10_yes_X10_isWithin
set_option maxRecDepth 20000 in
theorem ggX10_yes_X7_isTaken : GoodIn wsX10_yes wsX7_isTaken := goodIn_r _ [11, 12, 13, 14, 4, 5, 6, 15, 16, 17, 10, 18, 19, 20, 21, 22, 23, 24, 25, 26, 27, 28, 29, 30, 31, 32, 33, 34, 35, 36, 37, 38, 39, 40, 41, 42, 43, 44, 45, 46, 47, 48, 49, 50, 51, 52, 53, 54, 55, 56, 57, 58, 59, 60, 61, 62, 63, 64, 65, 66, 76, 77, 78, 79, 80] (by decide +kernel) (by decide +kernel)
set_option maxRecDepth 20000 in
theorem gX10_yes_X7_isTaken : GoodIn wsX10_yes (wsV RX10 156 RX7 yX7_isTaken wsX7_isTaken) := goodIn_app (goodIn_of _ (by decide +kernel)) ggX10_yes_X7_isTaken
theorem dX10_yes_0 : decode cX10_yes 0 = .ok (.iload_n 1, 1) := by decide +kernel
theorem dX10_yes_1 : decode cX10_yes 1 = .ok (.i2l, 1) := by decide +kernel
theorem dX10_yes_2 : decode cX10_yes 2 = .ok (.lconst 1, 1) := by decide +kernel
theorem dX10_yes_3 : decode cX10_yes 3 = .ok (.ldc2_w 146, 3) := by decide +kernel
theorem dX10_yes_6 : decode cX10_yes 6 = .ok (.invokestatic 75, 3) := by decide +kernel
theorem dX10_yes_9 : decode cX10_yes 9 = .ok (.ifCond .eq 25, 3) := by decide +kernel
theorem dX10_yes_12 : decode cX10_yes 12 = .ok (.iload_n 2, 1) := by decide +kernel
theorem dX10_yes_13 : decode cX10_yes 13 = .ok (.i2l, 1) := by decide +kernel
theorem dX10_yes_14 : decode cX10_yes 14 = .ok (.lconst 1, 1) := by decide +kernel
theorem dX10_yes_15 : decode cX10_yes 15 = .ok (.iload_n 1, 1) := by decide +kernel
theorem dX10_yes_16 : decode cX10_yes 16 = .ok (.i2l, 1) := by decide +kernel
theorem dX10_yes_17 : decode cX10_yes 17 = .ok (.invokestatic 75, 3) := by decide +kernel
theorem dX10_yes_20 : decode cX10_yes 20 = .ok (.ifCond .eq 14, 3) := by decide +kernel
theorem dX10_yes_23 : decode cX10_yes 23 = .ok (.iload_n 3, 1) := by decide +kernel
theorem dX10_yes_24 : decode cX10_yes 24 = .ok (.i2l, 1) := by decide +kernel
theorem dX10_yes_25 : decode cX10_yes 25 = .ok (.lconst 1, 1) := by decide +kernel
theorem dX10_yes_26 : decode cX10_yes 26 = .ok (.iload_n 2, 1) := by decide +kernel
theorem dX10_yes_27 : decode cX10_yes 27 = .ok (.i2l, 1) := by decide +kernel
theorem dX10_yes_28 : decode cX10_yes 28 = .ok (.invokestatic 75, 3) := by decide +kernel
theorem dX10_yes_31 : decode cX10_yes 31 = .ok (.ifCond .ne 5, 3) := by decide +kernel
theorem dX10_yes_34 : decode cX10_yes 34 = .ok (.iconst (-1), 1) := by decide +kernel
theorem dX10_yes_35 : decode cX10_yes 35 = .ok (.ireturn, 1) := by decide +kernel
theorem dX10_yes_36 : decode cX10_yes 36 = .ok (.aload_n 0, 1) := by decide +kernel
theorem dX10_yes_37 : decode cX10_yes 37 = .ok (.getfield 49, 3) := by decide +kernel
theorem dX10_yes_40 : decode cX10_yes 40 = .ok (.iload_n 1, 1) := by decide +kernel
theorem dX10_yes_41 : decode cX10_yes 41 = .ok (.iload_n 2, 1) := by decide +kernel
theorem dX10_yes_42 : decode cX10_yes 42 = .ok (.iload_n 3, 1) := by decide +kernel
theorem dX10_yes_43 : decode cX10_yes 43 = .ok (.invokevirtual 156, 3) := by decide +kernel
theorem dX10_yes_46 : decode cX10_yes 46 = .ok (.ifCond .eq 7, 3) := by decide +kernel
theorem dX10_yes_49 : decode cX10_yes 49 = .ok (.iconst 1, 1) := by decide +kernel
theorem dX10_yes_50 : decode cX10_yes 50 = .ok (.goto 4, 3) := by decide +kernel
theorem dX10_yes_53 : decode cX10_yes 53 = .ok (.iconst 0, 1) := by decide +kernel
theorem dX10_yes_54 : decode cX10_yes 54 = .ok (.ireturn, 1) := by decide +kernel
set_option maxRecDepth 20000 in
theorem ggX10_happen_X10_isWithin : GoodIn wsX10_happen wsX10_isWithin := goodIn_r _ [6] (by decide +kernel) (by decide +kernel)
set_option maxRecDepth 20000 in
theorem gX10_happen_X10_isWithin : GoodIn wsX10_happen (va_wsS RX10 75 yX10_isWithin wsX10_isWithin) := goodIn_app (goodIn_of _ (by decide +kernel)) ggX10_happen_X10_isWithin
set_option maxRecDepth 20000 in
theorem ggX10_happen_X4_join : GoodIn wsX10_happen wsX4_join := goodIn_r _ [11, 12, 13, 14, 24, 25, 26, 27, 28, 29] (by decide +kernel) (by decide +kernel)
set_option maxRecDepth 20000 in
theorem gX10_happen_X4_join : GoodIn wsX10_happen (wsV RX10 162 RX4 yX4_join wsX4_join) := goodIn_app (goodIn_of _ (by decide +kernel)) ggX10_happen_X4_join
theorem dX10_happen_0 : decode cX10_happen 0 = .ok (.iload_n 2, 1) := by decide +kernel
theorem dX10_happen_1 : decode cX10_happen 1 = .ok (.i2l, 1) := by decide +kernel
theorem dX10_happen_2 : decode cX10_happen 2 = .ok (.lconst 1, 1) := by decide +kernel
theorem dX10_happen_3 : decode cX10_happen 3 = .ok (.ldc2_w 160, 3) := by decide +kernel
theorem dX10_happen_6 : decode cX10_happen 6 = .ok (.invokestatic 75, 3) := by decide +kernel
theorem dX10_happen_9 : decode cX10_happen 9 = .ok (.ifCond .eq 14, 3) := by decide +kernel
theorem dX10_happen_12 : decode cX10_happen 12 = .ok (.iload_n 1, 1) := by decide +kernel
theorem dX10_happen_13 : decode cX10_happen 13 = .ok (.i2l, 1) := by decide +kernel
theorem dX10_happen_14 : decode cX10_happen 14 = .ok (.lconst 0, 1) := by decide +kernel
theorem dX10_happen_15 : decode cX10_happen 15 = .ok (.iload_n 2, 1) := by decide +kernel
theorem dX10_happen_16 : decode cX10_happen 16 = .ok (.i2l, 1) := by decide +kernel
theorem dX10_happen_17 : decode cX10_happen 17 = .ok (.invokestatic 75, 3) := by decide +kernel
theorem dX10_happen_20 : decode cX10_happen 20 = .ok (.ifCond .ne 6, 3) := by decide +kernel
theorem dX10_happen_23 : decode cX10_happen 23 = .ok (.bipush (-2), 2) := by decide +kernel
theorem dX10_happen_25 : decode cX10_happen 25 = .ok (.ireturn, 1) := by decide +kernel
theorem dX10_happen_26 : decode cX10_happen 26 = .ok (.aload_n 0, 1) := by decide +kernel
theorem dX10_happen_27 : decode cX10_happen 27 = .ok (.getfield 56, 3) := by decide +kernel
theorem dX10_happen_30 : decode cX10_happen 30 = .ok (.iload_n 1, 1) := by decide +kernel
theorem dX10_happen_31 : decode cX10_happen 31 = .ok (.iload_n 2, 1) := by decide +kernel
theorem dX10_happen_32 : decode cX10_happen 32 = .ok (.invokevirtual 162, 3) := by decide +kernel
theorem dX10_happen_35 : decode cX10_happen 35 = .ok (.ireturn, 1) := by decide +kernel
set_option maxRecDepth 20000 in
theorem ggX10_forget_X4_clear : GoodIn wsX10_forget wsX4_clear := goodIn_r _ [6, 7, 17, 18, 19, 20, 21, 22] (by decide +kernel) (by decide +kernel)
set_option maxRecDepth 20000 in
theorem gX10_forget_X4_clear : GoodIn wsX10_forget (wsV RX10 165 RX4 yX4_clear wsX4_clear) := goodIn_app (goodIn_of _ (by decide +kernel)) ggX10_forget_X4_clear
theorem dX10_forget_0 : decode cX10_forget 0 = .ok (.aload_n 0, 1) := by decide +kernel
theorem dX10_forget_1 : decode cX10_forget 1 = .ok (.getfield 56, 3) := by decide +kernel
theorem dX10_forget_4 : decode cX10_forget 4 = .ok (.invokevirtual 165, 3) := by decide +kernel
theorem dX10_forget_7 : decode cX10_forget 7 = .ok (.ireturn, 1) := by decide +kernel
set_option maxRecDepth 20000 in
theorem ggX10_last_X4_bestStart : GoodIn wsX10_last wsX4_bestStart := goodIn_r _ [7, 8, 9, 10, 11, 12, 13, 14, 15, 16, 17, 18, 19, 20, 21, 22, 23, 24, 25, 26, 6, 27, 28, 29, 30, 31, 32, 33, 34, 35, 36, 37, 38, 39, 40, 41, 42, 43, 44, 45, 46, 47, 48, 49, 50, 51, 52, 53, 54, 55, 56, 57, 58, 59, 60, 61, 62, 63, 64, 65, 66, 67, 68, 69, 70, 71, 72, 73, 74, 75, 76, 77, 78, 79, 80, 81, 82, 83, 84, 85, 86, 96, 97, 98, 99, 100, 101, 102, 103, 104, 105, 106, 107] (by decide +kernel) (by decide +kernel)
set_option maxRecDepth 20000 in
theorem gX10_last_X4_bestStart : GoodIn wsX10_last (wsV RX10 166 RX4 yX4_bestStart wsX4_bestStart) := goodIn_app (goodIn_of _ (by decide +kernel)) ggX10_last_X4_bestStart
theorem dX10_last_0 : decode cX10_last 0 = .ok (.aload_n 0, 1) := by decide +kernel
theorem dX10_last_1 : decode cX10_last 1 = .ok (.getfield 56, 3) := by decide +kernel
theorem dX10_last_4 : decode cX10_last 4 = .ok (.aload_n 0, 1) := by decide +kernel
theorem dX10_last_5 : decode cX10_last 5 = .ok (.getfield 28, 3) := by decide +kernel
theorem dX10_last_8 : decode cX10_last 8 = .ok (.invokevirtual 166, 3) := by decide +kernel
theorem dX10_last_11 : decode cX10_last 11 = .ok (.ireturn, 1) := by decide +kernel
set_option maxRecDepth 20000 in
theorem ggX10_box_X10_isBook : GoodIn wsX10_box wsX10_isBook := goodIn_r _ [8, 9, 10, 11, 7, 12, 72, 73, 74, 75, 76, 77, 78, 79, 80] (by decide +kernel) (by decide +kernel)
set_option maxRecDepth 20000 in
theorem gX10_box_X10_isBook : GoodIn wsX10_box (wsV RX10 98 RX10 yX10_isBook wsX10_isBook) := goodIn_app (goodIn_of _ (by decide +kernel)) ggX10_box_X10_isBook
set_option maxRecDepth 20000 in
theorem ggX10_box_X10_isWithin : GoodIn wsX10_box wsX10_isWithin := goodIn_r _ [12] (by decide +kernel) (by decide +kernel)
set_option maxRecDepth 20000 in
theorem gX10_box_X10_isWithin : GoodIn wsX10_box (va_wsS RX10 75 yX10_isWithin wsX10_isWithin) := goodIn_app (goodIn_of _ (by decide +kernel)) ggX10_box_X10_isWithin
set_option maxRecDepth 20000 in
theorem ggX10_box_X1_join : GoodIn wsX10_box wsX1_join := goodIn_r _ [17, 18, 19, 20, 21, 22, 23, 24, 25, 26, 27, 28, 29, 30, 31, 32, 33, 16, 34, 35, 36, 37, 38, 39, 40, 41, 11, 7, 12, 42, 43, 44, 45, 46, 47, 48, 49, 50, 51, 52, 53, 54, 55, 56, 57, 58, 59, 60, 61, 62, 63, 64, 65, 66, 67, 68, 69, 70, 71, 81, 82, 83, 84, 85, 86, 87, 88, 89, 90, 91, 92, 93, 94, 95] (by decide +kernel) (by decide +kernel)
set_option maxRecDepth 20000 in
theorem gX10_box_X1_join : GoodIn wsX10_box (wsV RX10 170 RX1 yX1_join wsX1_join) := goodIn_app (goodIn_of _ (by decide +kernel)) ggX10_box_X1_join
theorem dX10_box_0 : decode cX10_box 0 = .ok (.aload_n 0, 1) := by decide +kernel
theorem dX10_box_1 : decode cX10_box 1 = .ok (.iload_n 1, 1) := by decide +kernel
theorem dX10_box_2 : decode cX10_box 2 = .ok (.invokevirtual 98, 3) := by decide +kernel
theorem dX10_box_5 : decode cX10_box 5 = .ok (.ifCond .eq 15, 3) := by decide +kernel
theorem dX10_box_8 : decode cX10_box 8 = .ok (.iload_n 2, 1) := by decide +kernel
theorem dX10_box_9 : decode cX10_box 9 = .ok (.i2l, 1) := by decide +kernel
theorem dX10_box_10 : decode cX10_box 10 = .ok (.lconst 0, 1) := by decide +kernel
theorem dX10_box_11 : decode cX10_box 11 = .ok (.ldc2_w 148, 3) := by decide +kernel
theorem dX10_box_14 : decode cX10_box 14 = .ok (.invokestatic 75, 3) := by decide +kernel
theorem dX10_box_17 : decode cX10_box 17 = .ok (.ifCond .ne 6, 3) := by decide +kernel
theorem dX10_box_20 : decode cX10_box 20 = .ok (.bipush (-2), 2) := by decide +kernel
theorem dX10_box_22 : decode cX10_box 22 = .ok (.ireturn, 1) := by decide +kernel
theorem dX10_box_23 : decode cX10_box 23 = .ok (.aload_n 0, 1) := by decide +kernel
theorem dX10_box_24 : decode cX10_box 24 = .ok (.getfield 63, 3) := by decide +kernel
theorem dX10_box_27 : decode cX10_box 27 = .ok (.aload_n 0, 1) := by decide +kernel
theorem dX10_box_28 : decode cX10_box 28 = .ok (.getfield 17, 3) := by decide +kernel
theorem dX10_box_31 : decode cX10_box 31 = .ok (.iload_n 1, 1) := by decide +kernel
theorem dX10_box_32 : decode cX10_box 32 = .ok (.aaload, 1) := by decide +kernel
theorem dX10_box_33 : decode cX10_box 33 = .ok (.iload_n 2, 1) := by decide +kernel
theorem dX10_box_34 : decode cX10_box 34 = .ok (.invokevirtual 170, 3) := by decide +kernel
theorem dX10_box_37 : decode cX10_box 37 = .ok (.ireturn, 1) := by decide +kernel
set_option maxRecDepth 20000 in
theorem ggX10_empty_X1_clear : GoodIn wsX10_empty wsX1_clear := goodIn_r _ [6, 7, 8, 9, 10, 11, 12, 13, 14, 15, 16, 17, 27, 28, 29, 30, 31, 32, 33, 34, 35, 36, 37] (by decide +kernel) (by decide +kernel)
set_option maxRecDepth 20000 in
theorem gX10_empty_X1_clear : GoodIn wsX10_empty (wsV RX10 173 RX1 yX1_clear wsX1_clear) := goodIn_app (goodIn_of _ (by decide +kernel)) ggX10_empty_X1_clear
theorem dX10_empty_0 : decode cX10_empty 0 = .ok (.aload_n 0, 1) := by decide +kernel
theorem dX10_empty_1 : decode cX10_empty 1 = .ok (.getfield 63, 3) := by decide +kernel
theorem dX10_empty_4 : decode cX10_empty 4 = .ok (.invokevirtual 173, 3) := by decide +kernel
theorem dX10_empty_7 : decode cX10_empty 7 = .ok (.ireturn, 1) := by decide +kernel
set_option maxRecDepth 20000 in
theorem ggX10_fair_X1_size : GoodIn wsX10_fair wsX1_size := goodIn_r _ [7, 8, 9, 10, 11, 12, 13, 14, 101, 102, 103, 104, 105, 106, 107, 108, 109, 110, 111] (by decide +kernel) (by decide +kernel)
set_option maxRecDepth 20000 in
theorem gX10_fair_X1_size : GoodIn wsX10_fair (wsV RX10 174 RX1 yX1_size wsX1_size) := goodIn_app (goodIn_of _ (by decide +kernel)) ggX10_fair_X1_size
set_option maxRecDepth 20000 in
theorem ggX10_fair_X10_isWithin : GoodIn wsX10_fair wsX10_isWithin := goodIn_r _ [18] (by decide +kernel) (by decide +kernel)
set_option maxRecDepth 20000 in
theorem gX10_fair_X10_isWithin : GoodIn wsX10_fair (va_wsS RX10 75 yX10_isWithin wsX10_isWithin) := goodIn_app (goodIn_of _ (by decide +kernel)) ggX10_fair_X10_isWithin
set_option maxRecDepth 20000 in
theorem ggX10_fair_X1_fairBarInto : GoodIn wsX10_fair wsX1_fairBarInto := goodIn_r _ [22, 23, 24, 25, 16, 17, 18, 26, 27, 28, 29, 30, 31, 32, 33, 34, 35, 36, 37, 38, 39, 40, 41, 42, 43, 44, 45, 46, 47, 48, 49, 50, 51, 52, 53, 54, 55, 56, 57, 58, 59, 60, 61, 62, 63, 64, 65, 66, 67, 68, 69, 70, 71, 72, 73, 74, 75, 76, 77, 78, 79, 80, 81, 82, 83, 84, 85, 86, 87, 88, 89, 90, 91, 101, 102, 103, 104, 105, 106, 107, 108, 112, 113, 114, 115, 116, 117] (by decide +kernel) (by decide +kernel)
set_option maxRecDepth 20000 in
theorem gX10_fair_X1_fairBarInto : GoodIn wsX10_fair (wsV RX10 175 RX1 yX1_fairBarInto wsX1_fairBarInto) := goodIn_app (goodIn_of _ (by decide +kernel)) ggX10_fair_X1_fairBarInto
theorem dX10_fair_0 : decode cX10_fair 0 = .ok (.iload_n 1, 1) := by decide +kernel
theorem dX10_fair_1 : decode cX10_fair 1 = .ok (.i2l, 1) := by decide +kernel
theorem dX10_fair_2 : decode cX10_fair 2 = .ok (.lconst 0, 1) := by decide +kernel
theorem dX10_fair_3 : decode cX10_fair 3 = .ok (.aload_n 0, 1) := by decide +kernel
theorem dX10_fair_4 : decode cX10_fair 4 = .ok (.getfield 63, 3) := by decide +kernel
theorem dX10_fair_7 : decode cX10_fair 7 = .ok (.invokevirtual 174, 3) := by decide +kernel
theorem dX10_fair_10 : decode cX10_fair 10 = .ok (.iconst 1, 1) := by decide +kernel
theorem dX10_fair_11 : decode cX10_fair 11 = .ok (.isub, 1) := by decide +kernel
theorem dX10_fair_12 : decode cX10_fair 12 = .ok (.i2l, 1) := by decide +kernel
theorem dX10_fair_13 : decode cX10_fair 13 = .ok (.invokestatic 75, 3) := by decide +kernel
theorem dX10_fair_16 : decode cX10_fair 16 = .ok (.ifCond .ne 5, 3) := by decide +kernel
theorem dX10_fair_19 : decode cX10_fair 19 = .ok (.iconst 0, 1) := by decide +kernel
theorem dX10_fair_20 : decode cX10_fair 20 = .ok (.ireturn, 1) := by decide +kernel
theorem dX10_fair_21 : decode cX10_fair 21 = .ok (.aload_n 0, 1) := by decide +kernel
theorem dX10_fair_22 : decode cX10_fair 22 = .ok (.getfield 63, 3) := by decide +kernel
theorem dX10_fair_25 : decode cX10_fair 25 = .ok (.iload_n 1, 1) := by decide +kernel
theorem dX10_fair_26 : decode cX10_fair 26 = .ok (.aload_n 0, 1) := by decide +kernel
theorem dX10_fair_27 : decode cX10_fair 27 = .ok (.getfield 28, 3) := by decide +kernel
theorem dX10_fair_30 : decode cX10_fair 30 = .ok (.invokevirtual 175, 3) := by decide +kernel
theorem dX10_fair_33 : decode cX10_fair 33 = .ok (.iconst 1, 1) := by decide +kernel
theorem dX10_fair_34 : decode cX10_fair 34 = .ok (.ireturn, 1) := by decide +kernel
set_option maxRecDepth 20000 in
theorem ggX10_search_X1_searchInto : GoodIn wsX10_search wsX1_searchInto := goodIn_r _ [7, 8, 9, 10, 11, 12, 13, 14, 15, 16, 17, 18, 19, 20, 21, 22, 23, 24, 25, 26, 27, 28, 29, 30, 31, 32, 33, 34, 35, 36, 37, 38, 39, 40, 41, 42, 43, 44, 45, 46, 47, 48, 49, 50, 51, 52, 53, 54, 55, 56, 57, 6, 58, 59, 60, 61, 62, 63, 64, 65, 66, 67, 68, 69, 70, 71, 72, 73, 74, 75, 76, 77, 78, 79, 80, 81, 82, 83, 84, 85, 86, 87, 88, 89, 90, 91, 92, 93, 94, 95, 96, 97, 98, 99, 100, 101, 102, 103, 104, 105, 106, 107, 108, 109, 110, 111, 112, 113, 114, 115, 116, 117, 118, 119, 120, 121, 122, 123, 124, 125, 126, 127, 128, 129, 130, 131, 132, 133, 134, 135, 136, 137, 138, 139, 140, 141, 142, 143, 144, 145, 146, 147, 148, 158, 159, 160, 161, 162, 163, 164, 165, 166, 167, 168, 169, 170, 171, 172, 173, 174, 175, 176, 177, 178] (by decide +kernel) (by decide +kernel)
set_option maxRecDepth 20000 in
theorem gX10_search_X1_searchInto : GoodIn wsX10_search (wsV RX10 178 RX1 yX1_searchInto wsX1_searchInto) := goodIn_app (goodIn_of _ (by decide +kernel)) ggX10_search_X1_searchInto
theorem dX10_search_0 : decode cX10_search 0 = .ok (.aload_n 0, 1) := by decide +kernel
theorem dX10_search_1 : decode cX10_search 1 = .ok (.getfield 63, 3) := by decide +kernel
theorem dX10_search_4 : decode cX10_search 4 = .ok (.aload_n 0, 1) := by decide +kernel
theorem dX10_search_5 : decode cX10_search 5 = .ok (.getfield 28, 3) := by decide +kernel
theorem dX10_search_8 : decode cX10_search 8 = .ok (.invokevirtual 178, 3) := by decide +kernel
theorem dX10_search_11 : decode cX10_search 11 = .ok (.return_, 1) := by decide +kernel
set_option maxRecDepth 20000 in
theorem ggX10_look_X8_sign : GoodIn wsX10_look wsX8_sign := goodIn_r _ [6, 7, 29, 30, 31, 32, 33] (by decide +kernel) (by decide +kernel)
set_option maxRecDepth 20000 in
theorem gX10_look_X8_sign : GoodIn wsX10_look (wsV RX10 181 RX8 yX8_sign wsX8_sign) := goodIn_app (goodIn_of _ (by decide +kernel)) ggX10_look_X8_sign
set_option maxRecDepth 20000 in
theorem ggX10_look_X8_digits : GoodIn wsX10_look wsX8_digits := goodIn_r _ [11, 12, 13, 29, 30, 31, 32, 33] (by decide +kernel) (by decide +kernel)
set_option maxRecDepth 20000 in
theorem gX10_look_X8_digits : GoodIn wsX10_look (wsV RX10 184 RX8 yX8_digits wsX8_digits) := goodIn_app (goodIn_of _ (by decide +kernel)) ggX10_look_X8_digits
set_option maxRecDepth 20000 in
theorem ggX10_look_X5_partCount : GoodIn wsX10_look wsX5_partCount := goodIn_r _ [18, 19, 34] (by decide +kernel) (by decide +kernel)
set_option maxRecDepth 20000 in
theorem gX10_look_X5_partCount : GoodIn wsX10_look (wsV RX10 188 RX5 yX5_partCount wsX5_partCount) := goodIn_app (goodIn_of _ (by decide +kernel)) ggX10_look_X5_partCount
theorem dX10_look_0 : decode cX10_look 0 = .ok (.iload_n 1, 1) := by decide +kernel
theorem dX10_look_1 : decode cX10_look 1 = .ok (.tableswitch 59 0 2 #[27, 35, 47], 27) := by decide +kernel
theorem dX10_look_28 : decode cX10_look 28 = .ok (.aload_n 0, 1) := by decide +kernel
theorem dX10_look_29 : decode cX10_look 29 = .ok (.getfield 28, 3) := by decide +kernel
theorem dX10_look_32 : decode cX10_look 32 = .ok (.invokevirtual 181, 3) := by decide +kernel
theorem dX10_look_35 : decode cX10_look 35 = .ok (.ireturn, 1) := by decide +kernel
theorem dX10_look_36 : decode cX10_look 36 = .ok (.aload_n 0, 1) := by decide +kernel
theorem dX10_look_37 : decode cX10_look 37 = .ok (.getfield 28, 3) := by decide +kernel
theorem dX10_look_40 : decode cX10_look 40 = .ok (.iconst 0, 1) := by decide +kernel
theorem dX10_look_41 : decode cX10_look 41 = .ok (.invokevirtual 184, 3) := by decide +kernel
theorem dX10_look_44 : decode cX10_look 44 = .ok (.invokevirtual 188, 3) := by decide +kernel
theorem dX10_look_47 : decode cX10_look 47 = .ok (.ireturn, 1) := by decide +kernel
theorem dX10_look_48 : decode cX10_look 48 = .ok (.aload_n 0, 1) := by decide +kernel
theorem dX10_look_49 : decode cX10_look 49 = .ok (.getfield 28, 3) := by decide +kernel
theorem dX10_look_52 : decode cX10_look 52 = .ok (.iconst 1, 1) := by decide +kernel
theorem dX10_look_53 : decode cX10_look 53 = .ok (.invokevirtual 184, 3) := by decide +kernel
theorem dX10_look_56 : decode cX10_look 56 = .ok (.invokevirtual 188, 3) := by decide +kernel
theorem dX10_look_59 : decode cX10_look 59 = .ok (.ireturn, 1) := by decide +kernel
theorem dX10_look_60 : decode cX10_look 60 = .ok (.iconst (-1), 1) := by decide +kernel
theorem dX10_look_61 : decode cX10_look 61 = .ok (.ireturn, 1) := by decide +kernel
set_option maxRecDepth 20000 in
theorem ggX10_part_X8_digits : GoodIn wsX10_part wsX8_digits := goodIn_r _ [6, 7, 8, 28, 29, 30, 31, 32] (by decide +kernel) (by decide +kernel)
set_option maxRecDepth 20000 in
theorem gX10_part_X8_digits : GoodIn wsX10_part (wsV RX10 184 RX8 yX8_digits wsX8_digits) := goodIn_app (goodIn_of _ (by decide +kernel)) ggX10_part_X8_digits
set_option maxRecDepth 20000 in
theorem ggX10_part_X5_partAt : GoodIn wsX10_part wsX5_partAt := goodIn_r _ [13, 14, 15, 16, 17, 18, 33] (by decide +kernel) (by decide +kernel)
set_option maxRecDepth 20000 in
theorem gX10_part_X5_partAt : GoodIn wsX10_part (wsV RX10 193 RX5 yX5_partAt wsX5_partAt) := goodIn_app (goodIn_of _ (by decide +kernel)) ggX10_part_X5_partAt
theorem dX10_part_0 : decode cX10_part 0 = .ok (.aload_n 0, 1) := by decide +kernel
theorem dX10_part_1 : decode cX10_part 1 = .ok (.getfield 28, 3) := by decide +kernel
theorem dX10_part_4 : decode cX10_part 4 = .ok (.iload_n 1, 1) := by decide +kernel
theorem dX10_part_5 : decode cX10_part 5 = .ok (.invokevirtual 184, 3) := by decide +kernel
theorem dX10_part_8 : decode cX10_part 8 = .ok (.iload_n 2, 1) := by decide +kernel
theorem dX10_part_9 : decode cX10_part 9 = .ok (.invokevirtual 193, 3) := by decide +kernel
theorem dX10_part_12 : decode cX10_part 12 = .ok (.ireturn, 1) := by decide +kernel
set_option maxRecDepth 20000 in
theorem ggX10_compare_X8_against : GoodIn wsX10_compare wsX8_against := goodIn_r _ [6, 7, 8, 9, 10, 11, 12, 13, 14, 15, 16, 17, 18, 19, 20, 21, 22, 23, 24, 25, 26, 27, 28, 29, 30, 31, 32, 33, 34, 35, 36, 37, 38, 39, 49, 50, 51, 52, 53, 54] (by decide +kernel) (by decide +kernel)
set_option maxRecDepth 20000 in
theorem gX10_compare_X8_against : GoodIn wsX10_compare (wsV RX10 196 RX8 yX8_against wsX8_against) := goodIn_app (goodIn_of _ (by decide +kernel)) ggX10_compare_X8_against
theorem dX10_compare_0 : decode cX10_compare 0 = .ok (.iload_n 2, 1) := by decide +kernel
theorem dX10_compare_1 : decode cX10_compare 1 = .ok (.iconst 1, 1) := by decide +kernel
theorem dX10_compare_2 : decode cX10_compare 2 = .ok (.if_icmp .ge 6, 3) := by decide +kernel
theorem dX10_compare_5 : decode cX10_compare 5 = .ok (.bipush (-2), 2) := by decide +kernel
theorem dX10_compare_7 : decode cX10_compare 7 = .ok (.ireturn, 1) := by decide +kernel
theorem dX10_compare_8 : decode cX10_compare 8 = .ok (.aload_n 0, 1) := by decide +kernel
theorem dX10_compare_9 : decode cX10_compare 9 = .ok (.getfield 28, 3) := by decide +kernel
theorem dX10_compare_12 : decode cX10_compare 12 = .ok (.iload_n 1, 1) := by decide +kernel
theorem dX10_compare_13 : decode cX10_compare 13 = .ok (.iload_n 2, 1) := by decide +kernel
theorem dX10_compare_14 : decode cX10_compare 14 = .ok (.invokevirtual 196, 3) := by decide +kernel
theorem dX10_compare_17 : decode cX10_compare 17 = .ok (.ireturn, 1) := by decide +kernel
set_option maxRecDepth 20000 in
theorem ggX10_count_X2_size : GoodIn wsX10_count wsX2_size := goodIn_r _ [9, 10, 11, 12, 13, 14, 15, 16, 51, 52, 53, 54, 55, 56, 57, 58, 59, 60, 61, 62, 63] (by decide +kernel) (by decide +kernel)
set_option maxRecDepth 20000 in
theorem gX10_count_X2_size : GoodIn wsX10_count (wsV RX10 109 RX2 yX2_size wsX2_size) := goodIn_app (goodIn_of _ (by decide +kernel)) ggX10_count_X2_size
set_option maxRecDepth 20000 in
theorem ggX10_count_X4_size : GoodIn wsX10_count wsX4_size := goodIn_r _ [21, 22, 64, 65, 66, 67, 68, 69] (by decide +kernel) (by decide +kernel)
set_option maxRecDepth 20000 in
theorem gX10_count_X4_size : GoodIn wsX10_count (wsV RX10 199 RX4 yX4_size wsX4_size) := goodIn_app (goodIn_of _ (by decide +kernel)) ggX10_count_X4_size
set_option maxRecDepth 20000 in
theorem ggX10_count_X1_size : GoodIn wsX10_count wsX1_size := goodIn_r _ [27, 28, 29, 12, 13, 14, 15, 16, 70, 71, 72, 73, 74, 75, 76, 77, 61, 62, 63] (by decide +kernel) (by decide +kernel)
set_option maxRecDepth 20000 in
theorem gX10_count_X1_size : GoodIn wsX10_count (wsV RX10 174 RX1 yX1_size wsX1_size) := goodIn_app (goodIn_of _ (by decide +kernel)) ggX10_count_X1_size
set_option maxRecDepth 20000 in
theorem ggX10_count_X10_rowsThere : GoodIn wsX10_count wsX10_rowsThere := goodIn_r _ [34, 35, 36, 37, 38, 39, 40, 41, 42, 43, 44, 45, 46, 47, 48, 49, 50, 78, 79, 80] (by decide +kernel) (by decide +kernel)
set_option maxRecDepth 20000 in
theorem gX10_count_X10_rowsThere : GoodIn wsX10_count (wsV RX10 200 RX10 yX10_rowsThere wsX10_rowsThere) := goodIn_app (goodIn_of _ (by decide +kernel)) ggX10_count_X10_rowsThere
theorem dX10_count_0 : decode cX10_count 0 = .ok (.iload_n 1, 1) := by decide +kernel
theorem dX10_count_1 : decode cX10_count 1 = .ok (.tableswitch 69 0 4 #[35, 40, 48, 56, 64], 35) := by decide +kernel
theorem dX10_count_36 : decode cX10_count 36 = .ok (.aload_n 0, 1) := by decide +kernel
theorem dX10_count_37 : decode cX10_count 37 = .ok (.getfield 21, 3) := by decide +kernel
theorem dX10_count_40 : decode cX10_count 40 = .ok (.ireturn, 1) := by decide +kernel
theorem dX10_count_41 : decode cX10_count 41 = .ok (.aload_n 0, 1) := by decide +kernel
theorem dX10_count_42 : decode cX10_count 42 = .ok (.getfield 35, 3) := by decide +kernel
theorem dX10_count_45 : decode cX10_count 45 = .ok (.invokevirtual 109, 3) := by decide +kernel
theorem dX10_count_48 : decode cX10_count 48 = .ok (.ireturn, 1) := by decide +kernel
theorem dX10_count_49 : decode cX10_count 49 = .ok (.aload_n 0, 1) := by decide +kernel
theorem dX10_count_50 : decode cX10_count 50 = .ok (.getfield 56, 3) := by decide +kernel
theorem dX10_count_53 : decode cX10_count 53 = .ok (.invokevirtual 199, 3) := by decide +kernel
theorem dX10_count_56 : decode cX10_count 56 = .ok (.ireturn, 1) := by decide +kernel
theorem dX10_count_57 : decode cX10_count 57 = .ok (.aload_n 0, 1) := by decide +kernel
theorem dX10_count_58 : decode cX10_count 58 = .ok (.getfield 63, 3) := by decide +kernel
theorem dX10_count_61 : decode cX10_count 61 = .ok (.invokevirtual 174, 3) := by decide +kernel
theorem dX10_count_64 : decode cX10_count 64 = .ok (.ireturn, 1) := by decide +kernel
theorem dX10_count_65 : decode cX10_count 65 = .ok (.aload_n 0, 1) := by decide +kernel
theorem dX10_count_66 : decode cX10_count 66 = .ok (.invokevirtual 200, 3) := by decide +kernel
theorem dX10_count_69 : decode cX10_count 69 = .ok (.ireturn, 1) := by decide +kernel
theorem dX10_count_70 : decode cX10_count 70 = .ok (.iconst (-1), 1) := by decide +kernel
theorem dX10_count_71 : decode cX10_count 71 = .ok (.ireturn, 1) := by decide +kernel
set_option maxRecDepth 20000 in
theorem ggX10_rowsThere_X9_isThere : GoodIn wsX10_rowsThere wsX9_isThere := goodIn_r _ [6, 7, 17, 18, 19] (by decide +kernel) (by decide +kernel)
set_option maxRecDepth 20000 in
theorem gX10_rowsThere_X9_isThere : GoodIn wsX10_rowsThere (wsV RX10 83 RX9 yX9_isThere wsX9_isThere) := goodIn_app (goodIn_of _ (by decide +kernel)) ggX10_rowsThere_X9_isThere
theorem dX10_rowsThere_0 : decode cX10_rowsThere 0 = .ok (.iconst 0, 1) := by decide +kernel
theorem dX10_rowsThere_1 : decode cX10_rowsThere 1 = .ok (.istore_n 1, 1) := by decide +kernel
theorem dX10_rowsThere_2 : decode cX10_rowsThere 2 = .ok (.iconst 0, 1) := by decide +kernel
theorem dX10_rowsThere_3 : decode cX10_rowsThere 3 = .ok (.istore_n 2, 1) := by decide +kernel
theorem dX10_rowsThere_4 : decode cX10_rowsThere 4 = .ok (.iload_n 2, 1) := by decide +kernel
theorem dX10_rowsThere_5 : decode cX10_rowsThere 5 = .ok (.aload_n 0, 1) := by decide +kernel
theorem dX10_rowsThere_6 : decode cX10_rowsThere 6 = .ok (.getfield 11, 3) := by decide +kernel
theorem dX10_rowsThere_9 : decode cX10_rowsThere 9 = .ok (.arraylength, 1) := by decide +kernel
theorem dX10_rowsThere_10 : decode cX10_rowsThere 10 = .ok (.if_icmp .ge 24, 3) := by decide +kernel
theorem dX10_rowsThere_13 : decode cX10_rowsThere 13 = .ok (.aload_n 0, 1) := by decide +kernel
theorem dX10_rowsThere_14 : decode cX10_rowsThere 14 = .ok (.getfield 11, 3) := by decide +kernel
theorem dX10_rowsThere_17 : decode cX10_rowsThere 17 = .ok (.iload_n 2, 1) := by decide +kernel
theorem dX10_rowsThere_18 : decode cX10_rowsThere 18 = .ok (.aaload, 1) := by decide +kernel
theorem dX10_rowsThere_19 : decode cX10_rowsThere 19 = .ok (.invokevirtual 83, 3) := by decide +kernel
theorem dX10_rowsThere_22 : decode cX10_rowsThere 22 = .ok (.ifCond .eq 6, 3) := by decide +kernel
theorem dX10_rowsThere_25 : decode cX10_rowsThere 25 = .ok (.iinc 1 1, 3) := by decide +kernel
theorem dX10_rowsThere_28 : decode cX10_rowsThere 28 = .ok (.iinc 2 1, 3) := by decide +kernel
theorem dX10_rowsThere_31 : decode cX10_rowsThere 31 = .ok (.goto (-27), 3) := by decide +kernel
theorem dX10_rowsThere_34 : decode cX10_rowsThere 34 = .ok (.iload_n 1, 1) := by decide +kernel
theorem dX10_rowsThere_35 : decode cX10_rowsThere 35 = .ok (.ireturn, 1) := by decide +kernel
set_option maxRecDepth 20000 in
theorem ggX10_isBook_X10_isWithin : GoodIn wsX10_isBook wsX10_isWithin := goodIn_r _ [5] (by decide +kernel) (by decide +kernel)
set_option maxRecDepth 20000 in
theorem gX10_isBook_X10_isWithin : GoodIn wsX10_isBook (va_wsS RX10 75 yX10_isWithin wsX10_isWithin) := goodIn_app (goodIn_of _ (by decide +kernel)) ggX10_isBook_X10_isWithin
theorem dX10_isBook_0 : decode cX10_isBook 0 = .ok (.iload_n 1, 1) := by decide +kernel
theorem dX10_isBook_1 : decode cX10_isBook 1 = .ok (.i2l, 1) := by decide +kernel
theorem dX10_isBook_2 : decode cX10_isBook 2 = .ok (.lconst 0, 1) := by decide +kernel
theorem dX10_isBook_3 : decode cX10_isBook 3 = .ok (.aload_n 0, 1) := by decide +kernel
theorem dX10_isBook_4 : decode cX10_isBook 4 = .ok (.getfield 21, 3) := by decide +kernel
theorem dX10_isBook_7 : decode cX10_isBook 7 = .ok (.iconst 1, 1) := by decide +kernel
theorem dX10_isBook_8 : decode cX10_isBook 8 = .ok (.isub, 1) := by decide +kernel
theorem dX10_isBook_9 : decode cX10_isBook 9 = .ok (.i2l, 1) := by decide +kernel
theorem dX10_isBook_10 : decode cX10_isBook 10 = .ok (.invokestatic 75, 3) := by decide +kernel
theorem dX10_isBook_13 : decode cX10_isBook 13 = .ok (.ireturn, 1) := by decide +kernel
set_option maxRecDepth 20000 in
theorem ggX10_isSlot_X10_isWithin : GoodIn wsX10_isSlot wsX10_isWithin := goodIn_r _ [5] (by decide +kernel) (by decide +kernel)
set_option maxRecDepth 20000 in
theorem gX10_isSlot_X10_isWithin : GoodIn wsX10_isSlot (va_wsS RX10 75 yX10_isWithin wsX10_isWithin) := goodIn_app (goodIn_of _ (by decide +kernel)) ggX10_isSlot_X10_isWithin
theorem dX10_isSlot_0 : decode cX10_isSlot 0 = .ok (.iload_n 0, 1) := by decide +kernel
theorem dX10_isSlot_1 : decode cX10_isSlot 1 = .ok (.i2l, 1) := by decide +kernel
theorem dX10_isSlot_2 : decode cX10_isSlot 2 = .ok (.lconst 0, 1) := by decide +kernel
theorem dX10_isSlot_3 : decode cX10_isSlot 3 = .ok (.ldc2_w 203, 3) := by decide +kernel
theorem dX10_isSlot_6 : decode cX10_isSlot 6 = .ok (.invokestatic 75, 3) := by decide +kernel
theorem dX10_isSlot_9 : decode cX10_isSlot 9 = .ok (.ireturn, 1) := by decide +kernel
theorem dX10_isWithin_0 : decode cX10_isWithin 0 = .ok (.lload_n 2, 1) := by decide +kernel
theorem dX10_isWithin_1 : decode cX10_isWithin 1 = .ok (.lload_n 0, 1) := by decide +kernel
theorem dX10_isWithin_2 : decode cX10_isWithin 2 = .ok (.lcmp, 1) := by decide +kernel
theorem dX10_isWithin_3 : decode cX10_isWithin 3 = .ok (.ifCond .gt 14, 3) := by decide +kernel
theorem dX10_isWithin_6 : decode cX10_isWithin 6 = .ok (.lload_n 0, 1) := by decide +kernel
theorem dX10_isWithin_7 : decode cX10_isWithin 7 = .ok (.lload 4, 2) := by decide +kernel
theorem dX10_isWithin_9 : decode cX10_isWithin 9 = .ok (.lcmp, 1) := by decide +kernel
theorem dX10_isWithin_10 : decode cX10_isWithin 10 = .ok (.ifCond .gt 7, 3) := by decide +kernel
theorem dX10_isWithin_13 : decode cX10_isWithin 13 = .ok (.iconst 1, 1) := by decide +kernel
theorem dX10_isWithin_14 : decode cX10_isWithin 14 = .ok (.goto 4, 3) := by decide +kernel
theorem dX10_isWithin_17 : decode cX10_isWithin 17 = .ok (.iconst 0, 1) := by decide +kernel
theorem dX10_isWithin_18 : decode cX10_isWithin 18 = .ok (.ireturn, 1) := by decide +kernel
