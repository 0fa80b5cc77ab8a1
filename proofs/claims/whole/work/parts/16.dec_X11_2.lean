theorem dX11_multiple_25 : decode cX11_multiple 25 = .ok (.istore 6, 2) := by decide +kernel
theorem dX11_multiple_27 : decode cX11_multiple 27 = .ok (.iload 6, 2) := by decide +kernel
theorem dX11_multiple_29 : decode cX11_multiple 29 = .ok (.ifCond .lt 31, 3) := by decide +kernel
theorem dX11_multiple_32 : decode cX11_multiple 32 = .ok (.lload 4, 2) := by decide +kernel
theorem dX11_multiple_34 : decode cX11_multiple 34 = .ok (.ldc2_w 64, 3) := by decide +kernel
theorem dX11_multiple_37 : decode cX11_multiple 37 = .ok (.lmul, 1) := by decide +kernel
theorem dX11_multiple_38 : decode cX11_multiple 38 = .ok (.aload_n 0, 1) := by decide +kernel
theorem dX11_multiple_39 : decode cX11_multiple 39 = .ok (.getfield 10, 3) := by decide +kernel
theorem dX11_multiple_42 : decode cX11_multiple 42 = .ok (.bipush 60, 2) := by decide +kernel
theorem dX11_multiple_44 : decode cX11_multiple 44 = .ok (.iload 6, 2) := by decide +kernel
theorem dX11_multiple_46 : decode cX11_multiple 46 = .ok (.iadd, 1) := by decide +kernel
theorem dX11_multiple_47 : decode cX11_multiple 47 = .ok (.laload, 1) := by decide +kernel
theorem dX11_multiple_48 : decode cX11_multiple 48 = .ok (.ladd, 1) := by decide +kernel
theorem dX11_multiple_49 : decode cX11_multiple 49 = .ok (.iload_n 3, 1) := by decide +kernel
theorem dX11_multiple_50 : decode cX11_multiple 50 = .ok (.i2l, 1) := by decide +kernel
theorem dX11_multiple_51 : decode cX11_multiple 51 = .ok (.lrem, 1) := by decide +kernel
theorem dX11_multiple_52 : decode cX11_multiple 52 = .ok (.lstore 4, 2) := by decide +kernel
theorem dX11_multiple_54 : decode cX11_multiple 54 = .ok (.iinc 6 (-1), 3) := by decide +kernel
theorem dX11_multiple_57 : decode cX11_multiple 57 = .ok (.goto (-30), 3) := by decide +kernel
theorem dX11_multiple_60 : decode cX11_multiple 60 = .ok (.aload_n 0, 1) := by decide +kernel
theorem dX11_multiple_61 : decode cX11_multiple 61 = .ok (.iload_n 1, 1) := by decide +kernel
theorem dX11_multiple_62 : decode cX11_multiple 62 = .ok (.iload_n 3, 1) := by decide +kernel
theorem dX11_multiple_63 : decode cX11_multiple 63 = .ok (.iload_n 3, 1) := by decide +kernel
theorem dX11_multiple_64 : decode cX11_multiple 64 = .ok (.lload 4, 2) := by decide +kernel
theorem dX11_multiple_66 : decode cX11_multiple 66 = .ok (.l2i, 1) := by decide +kernel
theorem dX11_multiple_67 : decode cX11_multiple 67 = .ok (.invokestatic 149, 3) := by decide +kernel
theorem dX11_multiple_70 : decode cX11_multiple 70 = .ok (.idiv, 1) := by decide +kernel
theorem dX11_multiple_71 : decode cX11_multiple 71 = .ok (.i2l, 1) := by decide +kernel
theorem dX11_multiple_72 : decode cX11_multiple 72 = .ok (.invokevirtual 93, 3) := by decide +kernel
theorem dX11_multiple_75 : decode cX11_multiple 75 = .ok (.iinc 3 1, 3) := by decide +kernel
theorem dX11_multiple_78 : decode cX11_multiple 78 = .ok (.goto (-70), 3) := by decide +kernel
theorem dX11_multiple_81 : decode cX11_multiple 81 = .ok (.return_, 1) := by decide +kernel
set_option maxRecDepth 20000 in
theorem ggX11_lets_X11_copy : GoodIn wsX11_lets wsX11_copy := goodIn_r _ [5, 6, 35, 36, 37, 38, 39, 40, 41, 42, 43, 44, 45, 46, 47, 48, 49, 50, 51, 52, 53, 54, 55] (by decide +kernel) (by decide +kernel)
set_option maxRecDepth 20000 in
theorem gX11_lets_X11_copy : GoodIn wsX11_lets (wsV RX11 83 RX11 yX11_copy wsX11_copy) := goodIn_app (goodIn_of _ (by decide +kernel)) ggX11_lets_X11_copy
set_option maxRecDepth 20000 in
theorem ggX11_lets_X11_set : GoodIn wsX11_lets wsX11_set := goodIn_r _ [10, 6, 11, 12, 13, 4, 14, 15, 16, 17, 18, 19, 20, 21, 22, 35, 36, 37, 38, 39, 40, 41, 42, 43, 44, 45, 46, 47, 48, 49, 50, 51, 52, 53, 54, 55] (by decide +kernel) (by decide +kernel)
set_option maxRecDepth 20000 in
theorem gX11_lets_X11_set : GoodIn wsX11_lets (wsV RX11 60 RX11 yX11_set wsX11_set) := goodIn_app (goodIn_of _ (by decide +kernel)) ggX11_lets_X11_set
set_option maxRecDepth 20000 in
theorem ggX11_lets_X11_over : GoodIn wsX11_lets wsX11_over := goodIn_r _ [26, 15, 6, 35, 36, 37, 38, 39, 40, 41, 42, 43, 44, 45, 46, 47, 48, 49, 50, 51, 52, 53, 54, 55] (by decide +kernel) (by decide +kernel)
set_option maxRecDepth 20000 in
theorem gX11_lets_X11_over : GoodIn wsX11_lets (wsV RX11 103 RX11 yX11_over wsX11_over) := goodIn_app (goodIn_of _ (by decide +kernel)) ggX11_lets_X11_over
set_option maxRecDepth 20000 in
theorem ggX11_lets_X11_more : GoodIn wsX11_lets wsX11_more := goodIn_r _ [30, 6, 11, 12, 13, 4, 14, 15, 16, 17, 18, 19, 20, 21, 22, 35, 36, 37, 38, 39, 40, 41, 42, 43, 44, 45, 46, 47, 48, 49, 50, 51, 52, 53, 54, 55] (by decide +kernel) (by decide +kernel)
set_option maxRecDepth 20000 in
theorem gX11_lets_X11_more : GoodIn wsX11_lets (wsV RX11 87 RX11 yX11_more wsX11_more) := goodIn_app (goodIn_of _ (by decide +kernel)) ggX11_lets_X11_more
set_option maxRecDepth 20000 in
theorem ggX11_lets_X11_times : GoodIn wsX11_lets wsX11_times := goodIn_r _ [34, 6, 11, 12, 13, 4, 14, 15, 16, 17, 18, 19, 20, 21, 22, 35, 36, 37, 38, 39, 40, 41, 42, 43, 44, 45, 46, 47, 48, 49, 50, 51, 52, 53, 54, 55] (by decide +kernel) (by decide +kernel)
set_option maxRecDepth 20000 in
theorem gX11_lets_X11_times : GoodIn wsX11_lets (wsV RX11 93 RX11 yX11_times wsX11_times) := goodIn_app (goodIn_of _ (by decide +kernel)) ggX11_lets_X11_times
theorem dX11_lets_0 : decode cX11_lets 0 = .ok (.aload_n 0, 1) := by decide +kernel
theorem dX11_lets_1 : decode cX11_lets 1 = .ok (.iconst 2, 1) := by decide +kernel
theorem dX11_lets_2 : decode cX11_lets 2 = .ok (.iconst 3, 1) := by decide +kernel
theorem dX11_lets_3 : decode cX11_lets 3 = .ok (.invokevirtual 83, 3) := by decide +kernel
theorem dX11_lets_6 : decode cX11_lets 6 = .ok (.iload_n 2, 1) := by decide +kernel
theorem dX11_lets_7 : decode cX11_lets 7 = .ok (.ifCond .ne 4, 3) := by decide +kernel
theorem dX11_lets_10 : decode cX11_lets 10 = .ok (.return_, 1) := by decide +kernel
theorem dX11_lets_11 : decode cX11_lets 11 = .ok (.aload_n 0, 1) := by decide +kernel
theorem dX11_lets_12 : decode cX11_lets 12 = .ok (.iconst 2, 1) := by decide +kernel
theorem dX11_lets_13 : decode cX11_lets 13 = .ok (.lconst 0, 1) := by decide +kernel
theorem dX11_lets_14 : decode cX11_lets 14 = .ok (.invokevirtual 60, 3) := by decide +kernel
theorem dX11_lets_17 : decode cX11_lets 17 = .ok (.iload_n 2, 1) := by decide +kernel
theorem dX11_lets_18 : decode cX11_lets 18 = .ok (.iconst 1, 1) := by decide +kernel
theorem dX11_lets_19 : decode cX11_lets 19 = .ok (.iadd, 1) := by decide +kernel
theorem dX11_lets_20 : decode cX11_lets 20 = .ok (.istore_n 3, 1) := by decide +kernel
theorem dX11_lets_21 : decode cX11_lets 21 = .ok (.iload_n 3, 1) := by decide +kernel
theorem dX11_lets_22 : decode cX11_lets 22 = .ok (.iload_n 1, 1) := by decide +kernel
theorem dX11_lets_23 : decode cX11_lets 23 = .ok (.if_icmp .gt 31, 3) := by decide +kernel
theorem dX11_lets_26 : decode cX11_lets 26 = .ok (.aload_n 0, 1) := by decide +kernel
theorem dX11_lets_27 : decode cX11_lets 27 = .ok (.iconst 4, 1) := by decide +kernel
theorem dX11_lets_28 : decode cX11_lets 28 = .ok (.iconst 3, 1) := by decide +kernel
theorem dX11_lets_29 : decode cX11_lets 29 = .ok (.invokevirtual 83, 3) := by decide +kernel
theorem dX11_lets_32 : decode cX11_lets 32 = .ok (.aload_n 0, 1) := by decide +kernel
theorem dX11_lets_33 : decode cX11_lets 33 = .ok (.iconst 4, 1) := by decide +kernel
theorem dX11_lets_34 : decode cX11_lets 34 = .ok (.iload_n 3, 1) := by decide +kernel
theorem dX11_lets_35 : decode cX11_lets 35 = .ok (.iconst 1, 1) := by decide +kernel
theorem dX11_lets_36 : decode cX11_lets 36 = .ok (.isub, 1) := by decide +kernel
theorem dX11_lets_37 : decode cX11_lets 37 = .ok (.i2l, 1) := by decide +kernel
theorem dX11_lets_38 : decode cX11_lets 38 = .ok (.invokevirtual 103, 3) := by decide +kernel
theorem dX11_lets_41 : decode cX11_lets 41 = .ok (.aload_n 0, 1) := by decide +kernel
theorem dX11_lets_42 : decode cX11_lets 42 = .ok (.iconst 2, 1) := by decide +kernel
theorem dX11_lets_43 : decode cX11_lets 43 = .ok (.iconst 4, 1) := by decide +kernel
theorem dX11_lets_44 : decode cX11_lets 44 = .ok (.lconst 1, 1) := by decide +kernel
theorem dX11_lets_45 : decode cX11_lets 45 = .ok (.invokevirtual 87, 3) := by decide +kernel
theorem dX11_lets_48 : decode cX11_lets 48 = .ok (.iinc 3 1, 3) := by decide +kernel
theorem dX11_lets_51 : decode cX11_lets 51 = .ok (.goto (-30), 3) := by decide +kernel
theorem dX11_lets_54 : decode cX11_lets 54 = .ok (.aload_n 0, 1) := by decide +kernel
theorem dX11_lets_55 : decode cX11_lets 55 = .ok (.iconst 2, 1) := by decide +kernel
theorem dX11_lets_56 : decode cX11_lets 56 = .ok (.iload_n 2, 1) := by decide +kernel
theorem dX11_lets_57 : decode cX11_lets 57 = .ok (.i2l, 1) := by decide +kernel
theorem dX11_lets_58 : decode cX11_lets 58 = .ok (.invokevirtual 93, 3) := by decide +kernel
theorem dX11_lets_61 : decode cX11_lets 61 = .ok (.return_, 1) := by decide +kernel
set_option maxRecDepth 20000 in
theorem ggX11_letting_X11_multiple : GoodIn wsX11_letting wsX11_multiple := goodIn_r _ [5, 6, 7, 8, 9, 10, 4, 11, 12, 13, 14, 15, 16, 17, 18, 19, 20, 21, 22, 23, 24, 25, 26, 27, 28, 29, 30, 31, 32, 33, 69, 70, 71, 72, 73, 74, 75, 76, 77, 78, 79, 80, 81, 82, 83, 84, 85, 86, 87, 88, 89] (by decide +kernel) (by decide +kernel)
set_option maxRecDepth 20000 in
theorem gX11_letting_X11_multiple : GoodIn wsX11_letting (wsV RX11 152 RX11 yX11_multiple wsX11_multiple) := goodIn_app (goodIn_of _ (by decide +kernel)) ggX11_letting_X11_multiple
set_option maxRecDepth 20000 in
theorem ggX11_letting_X11_lets : GoodIn wsX11_letting wsX11_lets := goodIn_r _ [37, 23, 24, 25, 4, 26, 7, 8, 9, 10, 11, 12, 13, 14, 15, 6, 16, 17, 18, 19, 20, 21, 22, 38, 39, 40, 41, 42, 43, 44, 45, 30, 31, 32, 33, 69, 70, 71, 72, 73, 74, 75, 76, 77, 78, 79, 80, 81, 82, 83, 84, 85, 86, 87, 88, 89] (by decide +kernel) (by decide +kernel)
set_option maxRecDepth 20000 in
theorem gX11_letting_X11_lets : GoodIn wsX11_letting (wsV RX11 155 RX11 yX11_lets wsX11_lets) := goodIn_app (goodIn_of _ (by decide +kernel)) ggX11_letting_X11_lets
set_option maxRecDepth 20000 in
theorem ggX11_letting_X11_copy : GoodIn wsX11_letting wsX11_copy := goodIn_r _ [26, 7, 69, 70, 71, 72, 73, 74, 75, 76, 77, 78, 79, 80, 81, 82, 83, 84, 85, 86, 87, 88, 89] (by decide +kernel) (by decide +kernel)
set_option maxRecDepth 20000 in
theorem gX11_letting_X11_copy : GoodIn wsX11_letting (wsV RX11 83 RX11 yX11_copy wsX11_copy) := goodIn_app (goodIn_of _ (by decide +kernel)) ggX11_letting_X11_copy
set_option maxRecDepth 20000 in
theorem ggX11_letting_X11_times : GoodIn wsX11_letting wsX11_times := goodIn_r _ [33, 7, 12, 13, 14, 4, 15, 6, 16, 17, 18, 19, 20, 21, 22, 69, 70, 71, 72, 73, 74, 75, 76, 77, 78, 79, 80, 81, 82, 83, 84, 85, 86, 87, 88, 89] (by decide +kernel) (by decide +kernel)
set_option maxRecDepth 20000 in
theorem gX11_letting_X11_times : GoodIn wsX11_letting (wsV RX11 93 RX11 yX11_times wsX11_times) := goodIn_app (goodIn_of _ (by decide +kernel)) ggX11_letting_X11_times
set_option maxRecDepth 20000 in
theorem ggX11_letting_X11_result : GoodIn wsX11_letting wsX11_result := goodIn_r _ [49, 7, 50, 51, 23, 24, 25, 4, 26, 30, 31, 32, 33, 12, 13, 14, 15, 6, 16, 17, 18, 19, 20, 21, 22, 52, 53, 54, 55, 8, 9, 10, 11, 56, 57, 58, 59, 38, 39, 40, 41, 60, 61, 62, 63, 42, 43, 44, 45, 64, 65, 66, 67, 68, 69, 70, 71, 72, 73, 74, 75, 76, 77, 78, 79, 80, 81, 82, 83, 84, 85, 86, 87, 88, 89] (by decide +kernel) (by decide +kernel)
set_option maxRecDepth 20000 in
theorem gX11_letting_X11_result : GoodIn wsX11_letting (wsV RX11 137 RX11 yX11_result wsX11_result) := goodIn_app (goodIn_of _ (by decide +kernel)) ggX11_letting_X11_result
theorem dX11_letting_0 : decode cX11_letting 0 = .ok (.iload_n 1, 1) := by decide +kernel
theorem dX11_letting_1 : decode cX11_letting 1 = .ok (.iconst 1, 1) := by decide +kernel
theorem dX11_letting_2 : decode cX11_letting 2 = .ok (.if_icmp .lt 18, 3) := by decide +kernel
theorem dX11_letting_5 : decode cX11_letting 5 = .ok (.iload_n 1, 1) := by decide +kernel
theorem dX11_letting_6 : decode cX11_letting 6 = .ok (.bipush 60, 2) := by decide +kernel
theorem dX11_letting_8 : decode cX11_letting 8 = .ok (.if_icmp .gt 12, 3) := by decide +kernel
theorem dX11_letting_11 : decode cX11_letting 11 = .ok (.iload_n 2, 1) := by decide +kernel
theorem dX11_letting_12 : decode cX11_letting 12 = .ok (.ifCond .lt 8, 3) := by decide +kernel
theorem dX11_letting_15 : decode cX11_letting 15 = .ok (.iload_n 2, 1) := by decide +kernel
theorem dX11_letting_16 : decode cX11_letting 16 = .ok (.iload_n 1, 1) := by decide +kernel
theorem dX11_letting_17 : decode cX11_letting 17 = .ok (.if_icmp .lt 5, 3) := by decide +kernel
theorem dX11_letting_20 : decode cX11_letting 20 = .ok (.iconst 0, 1) := by decide +kernel
theorem dX11_letting_21 : decode cX11_letting 21 = .ok (.ireturn, 1) := by decide +kernel
theorem dX11_letting_22 : decode cX11_letting 22 = .ok (.aload_n 0, 1) := by decide +kernel
theorem dX11_letting_23 : decode cX11_letting 23 = .ok (.iconst 3, 1) := by decide +kernel
theorem dX11_letting_24 : decode cX11_letting 24 = .ok (.iload_n 1, 1) := by decide +kernel
theorem dX11_letting_25 : decode cX11_letting 25 = .ok (.invokevirtual 152, 3) := by decide +kernel
theorem dX11_letting_28 : decode cX11_letting 28 = .ok (.aload_n 0, 1) := by decide +kernel
theorem dX11_letting_29 : decode cX11_letting 29 = .ok (.iload_n 1, 1) := by decide +kernel
theorem dX11_letting_30 : decode cX11_letting 30 = .ok (.iload_n 2, 1) := by decide +kernel
theorem dX11_letting_31 : decode cX11_letting 31 = .ok (.invokevirtual 155, 3) := by decide +kernel
theorem dX11_letting_34 : decode cX11_letting 34 = .ok (.aload_n 0, 1) := by decide +kernel
theorem dX11_letting_35 : decode cX11_letting 35 = .ok (.bipush 10, 2) := by decide +kernel
theorem dX11_letting_37 : decode cX11_letting 37 = .ok (.iconst 2, 1) := by decide +kernel
theorem dX11_letting_38 : decode cX11_letting 38 = .ok (.invokevirtual 83, 3) := by decide +kernel
theorem dX11_letting_41 : decode cX11_letting 41 = .ok (.aload_n 0, 1) := by decide +kernel
theorem dX11_letting_42 : decode cX11_letting 42 = .ok (.bipush 11, 2) := by decide +kernel
theorem dX11_letting_44 : decode cX11_letting 44 = .ok (.iconst 3, 1) := by decide +kernel
theorem dX11_letting_45 : decode cX11_letting 45 = .ok (.invokevirtual 83, 3) := by decide +kernel
theorem dX11_letting_48 : decode cX11_letting 48 = .ok (.aload_n 0, 1) := by decide +kernel
theorem dX11_letting_49 : decode cX11_letting 49 = .ok (.bipush 11, 2) := by decide +kernel
theorem dX11_letting_51 : decode cX11_letting 51 = .ok (.iload_n 1, 1) := by decide +kernel
theorem dX11_letting_52 : decode cX11_letting 52 = .ok (.i2l, 1) := by decide +kernel
theorem dX11_letting_53 : decode cX11_letting 53 = .ok (.invokevirtual 93, 3) := by decide +kernel
theorem dX11_letting_56 : decode cX11_letting 56 = .ok (.aload_n 0, 1) := by decide +kernel
theorem dX11_letting_57 : decode cX11_letting 57 = .ok (.bipush 10, 2) := by decide +kernel
theorem dX11_letting_59 : decode cX11_letting 59 = .ok (.bipush 11, 2) := by decide +kernel
theorem dX11_letting_61 : decode cX11_letting 61 = .ok (.invokevirtual 137, 3) := by decide +kernel
theorem dX11_letting_64 : decode cX11_letting 64 = .ok (.iconst 1, 1) := by decide +kernel
theorem dX11_letting_65 : decode cX11_letting 65 = .ok (.ireturn, 1) := by decide +kernel
set_option maxRecDepth 20000 in
theorem ggX11_pass_X11_multiple : GoodIn wsX11_pass wsX11_multiple := goodIn_r _ [5, 6, 7, 8, 9, 10, 4, 11, 12, 13, 14, 15, 16, 17, 18, 19, 20, 21, 22, 23, 24, 25, 26, 27, 28, 29, 30, 31, 32, 33, 50, 51, 52, 53, 54, 55, 56, 57, 58, 59, 60, 61, 62, 63, 64, 65, 66, 67, 68, 69, 70] (by decide +kernel) (by decide +kernel)
set_option maxRecDepth 20000 in
theorem gX11_pass_X11_multiple : GoodIn wsX11_pass (wsV RX11 152 RX11 yX11_multiple wsX11_multiple) := goodIn_app (goodIn_of _ (by decide +kernel)) ggX11_pass_X11_multiple
set_option maxRecDepth 20000 in
theorem ggX11_pass_X11_lets : GoodIn wsX11_pass wsX11_lets := goodIn_r _ [37, 23, 24, 25, 4, 26, 7, 8, 9, 10, 11, 12, 13, 14, 15, 6, 16, 17, 18, 19, 20, 21, 22, 38, 39, 40, 41, 42, 43, 44, 45, 30, 31, 32, 33, 50, 51, 52, 53, 54, 55, 56, 57, 58, 59, 60, 61, 62, 63, 64, 65, 66, 67, 68, 69, 70] (by decide +kernel) (by decide +kernel)
set_option maxRecDepth 20000 in
theorem gX11_pass_X11_lets : GoodIn wsX11_pass (wsV RX11 155 RX11 yX11_lets wsX11_lets) := goodIn_app (goodIn_of _ (by decide +kernel)) ggX11_pass_X11_lets
set_option maxRecDepth 20000 in
theorem ggX11_pass_X11_copy : GoodIn wsX11_pass wsX11_copy := goodIn_r _ [26, 7, 50, 51, 52, 53, 54, 55, 56, 57, 58, 59, 60, 61, 62, 63, 64, 65, 66, 67, 68, 69, 70] (by decide +kernel) (by decide +kernel)
set_option maxRecDepth 20000 in
theorem gX11_pass_X11_copy : GoodIn wsX11_pass (wsV RX11 83 RX11 yX11_copy wsX11_copy) := goodIn_app (goodIn_of _ (by decide +kernel)) ggX11_pass_X11_copy
set_option maxRecDepth 20000 in
theorem ggX11_pass_X11_compared : GoodIn wsX11_pass wsX11_compared := goodIn_r _ [49, 7, 50, 51, 52, 53, 54, 55, 56, 57, 58, 59, 60, 61, 62, 63, 64, 65, 66, 67, 68, 69, 70] (by decide +kernel) (by decide +kernel)
set_option maxRecDepth 20000 in
theorem gX11_pass_X11_compared : GoodIn wsX11_pass (wsV RX11 106 RX11 yX11_compared wsX11_compared) := goodIn_app (goodIn_of _ (by decide +kernel)) ggX11_pass_X11_compared
theorem dX11_pass_0 : decode cX11_pass 0 = .ok (.iload_n 1, 1) := by decide +kernel
theorem dX11_pass_1 : decode cX11_pass 1 = .ok (.iconst 1, 1) := by decide +kernel
theorem dX11_pass_2 : decode cX11_pass 2 = .ok (.if_icmp .lt 9, 3) := by decide +kernel
theorem dX11_pass_5 : decode cX11_pass 5 = .ok (.iload_n 1, 1) := by decide +kernel
theorem dX11_pass_6 : decode cX11_pass 6 = .ok (.bipush 60, 2) := by decide +kernel
theorem dX11_pass_8 : decode cX11_pass 8 = .ok (.if_icmp .le 5, 3) := by decide +kernel
theorem dX11_pass_11 : decode cX11_pass 11 = .ok (.iconst (-1), 1) := by decide +kernel
theorem dX11_pass_12 : decode cX11_pass 12 = .ok (.ireturn, 1) := by decide +kernel
theorem dX11_pass_13 : decode cX11_pass 13 = .ok (.aload_n 0, 1) := by decide +kernel
theorem dX11_pass_14 : decode cX11_pass 14 = .ok (.iconst 3, 1) := by decide +kernel
theorem dX11_pass_15 : decode cX11_pass 15 = .ok (.iload_n 1, 1) := by decide +kernel
theorem dX11_pass_16 : decode cX11_pass 16 = .ok (.invokevirtual 152, 3) := by decide +kernel
theorem dX11_pass_19 : decode cX11_pass 19 = .ok (.iconst 0, 1) := by decide +kernel
theorem dX11_pass_20 : decode cX11_pass 20 = .ok (.istore_n 2, 1) := by decide +kernel
theorem dX11_pass_21 : decode cX11_pass 21 = .ok (.aload_n 0, 1) := by decide +kernel
theorem dX11_pass_22 : decode cX11_pass 22 = .ok (.iload_n 1, 1) := by decide +kernel
theorem dX11_pass_23 : decode cX11_pass 23 = .ok (.iconst 0, 1) := by decide +kernel
theorem dX11_pass_24 : decode cX11_pass 24 = .ok (.invokevirtual 155, 3) := by decide +kernel
theorem dX11_pass_27 : decode cX11_pass 27 = .ok (.aload_n 0, 1) := by decide +kernel
theorem dX11_pass_28 : decode cX11_pass 28 = .ok (.bipush 10, 2) := by decide +kernel
theorem dX11_pass_30 : decode cX11_pass 30 = .ok (.iconst 2, 1) := by decide +kernel
theorem dX11_pass_31 : decode cX11_pass 31 = .ok (.invokevirtual 83, 3) := by decide +kernel
theorem dX11_pass_34 : decode cX11_pass 34 = .ok (.iconst 1, 1) := by decide +kernel
theorem dX11_pass_35 : decode cX11_pass 35 = .ok (.istore_n 3, 1) := by decide +kernel
theorem dX11_pass_36 : decode cX11_pass 36 = .ok (.iload_n 3, 1) := by decide +kernel
theorem dX11_pass_37 : decode cX11_pass 37 = .ok (.iload_n 1, 1) := by decide +kernel
theorem dX11_pass_38 : decode cX11_pass 38 = .ok (.if_icmp .ge 34, 3) := by decide +kernel
theorem dX11_pass_41 : decode cX11_pass 41 = .ok (.aload_n 0, 1) := by decide +kernel
theorem dX11_pass_42 : decode cX11_pass 42 = .ok (.iload_n 1, 1) := by decide +kernel
theorem dX11_pass_43 : decode cX11_pass 43 = .ok (.iload_n 3, 1) := by decide +kernel
theorem dX11_pass_44 : decode cX11_pass 44 = .ok (.invokevirtual 155, 3) := by decide +kernel
theorem dX11_pass_47 : decode cX11_pass 47 = .ok (.aload_n 0, 1) := by decide +kernel
theorem dX11_pass_48 : decode cX11_pass 48 = .ok (.iconst 2, 1) := by decide +kernel
theorem dX11_pass_49 : decode cX11_pass 49 = .ok (.bipush 10, 2) := by decide +kernel
theorem dX11_pass_51 : decode cX11_pass 51 = .ok (.invokevirtual 106, 3) := by decide +kernel
theorem dX11_pass_54 : decode cX11_pass 54 = .ok (.ifCond .le 12, 3) := by decide +kernel
theorem dX11_pass_57 : decode cX11_pass 57 = .ok (.aload_n 0, 1) := by decide +kernel
theorem dX11_pass_58 : decode cX11_pass 58 = .ok (.bipush 10, 2) := by decide +kernel
theorem dX11_pass_60 : decode cX11_pass 60 = .ok (.iconst 2, 1) := by decide +kernel
theorem dX11_pass_61 : decode cX11_pass 61 = .ok (.invokevirtual 83, 3) := by decide +kernel
theorem dX11_pass_64 : decode cX11_pass 64 = .ok (.iload_n 3, 1) := by decide +kernel
theorem dX11_pass_65 : decode cX11_pass 65 = .ok (.istore_n 2, 1) := by decide +kernel
theorem dX11_pass_66 : decode cX11_pass 66 = .ok (.iinc 3 1, 3) := by decide +kernel
theorem dX11_pass_69 : decode cX11_pass 69 = .ok (.goto (-33), 3) := by decide +kernel
theorem dX11_pass_72 : decode cX11_pass 72 = .ok (.iload_n 2, 1) := by decide +kernel
theorem dX11_pass_73 : decode cX11_pass 73 = .ok (.ireturn, 1) := by decide +kernel
theorem dX11_pay_0 : decode cX11_pay 0 = .ok (.iload_n 1, 1) := by decide +kernel
theorem dX11_pay_1 : decode cX11_pay 1 = .ok (.iconst 1, 1) := by decide +kernel
theorem dX11_pay_2 : decode cX11_pay 2 = .ok (.if_icmp .lt 20, 3) := by decide +kernel
theorem dX11_pay_5 : decode cX11_pay 5 = .ok (.iload_n 1, 1) := by decide +kernel
theorem dX11_pay_6 : decode cX11_pay 6 = .ok (.bipush 20, 2) := by decide +kernel
theorem dX11_pay_8 : decode cX11_pay 8 = .ok (.if_icmp .gt 14, 3) := by decide +kernel
theorem dX11_pay_11 : decode cX11_pay 11 = .ok (.iload_n 2, 1) := by decide +kernel
theorem dX11_pay_12 : decode cX11_pay 12 = .ok (.ifCond .lt 10, 3) := by decide +kernel
theorem dX11_pay_15 : decode cX11_pay 15 = .ok (.iload_n 2, 1) := by decide +kernel
theorem dX11_pay_16 : decode cX11_pay 16 = .ok (.sipush 1000, 3) := by decide +kernel
theorem dX11_pay_19 : decode cX11_pay 19 = .ok (.if_icmp .le 5, 3) := by decide +kernel
theorem dX11_pay_22 : decode cX11_pay 22 = .ok (.iconst 0, 1) := by decide +kernel
theorem dX11_pay_23 : decode cX11_pay 23 = .ok (.ireturn, 1) := by decide +kernel
theorem dX11_pay_24 : decode cX11_pay 24 = .ok (.aload_n 0, 1) := by decide +kernel
theorem dX11_pay_25 : decode cX11_pay 25 = .ok (.getfield 42, 3) := by decide +kernel
theorem dX11_pay_28 : decode cX11_pay 28 = .ok (.iload_n 1, 1) := by decide +kernel
theorem dX11_pay_29 : decode cX11_pay 29 = .ok (.iload_n 2, 1) := by decide +kernel
theorem dX11_pay_30 : decode cX11_pay 30 = .ok (.iastore, 1) := by decide +kernel
theorem dX11_pay_31 : decode cX11_pay 31 = .ok (.iconst 1, 1) := by decide +kernel
theorem dX11_pay_32 : decode cX11_pay 32 = .ok (.ireturn, 1) := by decide +kernel
theorem dX11_choose_0 : decode cX11_choose 0 = .ok (.iload_n 1, 1) := by decide +kernel
theorem dX11_choose_1 : decode cX11_choose 1 = .ok (.ifCond .lt 8, 3) := by decide +kernel
theorem dX11_choose_4 : decode cX11_choose 4 = .ok (.iload_n 1, 1) := by decide +kernel
theorem dX11_choose_5 : decode cX11_choose 5 = .ok (.iload_n 0, 1) := by decide +kernel
theorem dX11_choose_6 : decode cX11_choose 6 = .ok (.if_icmp .le 5, 3) := by decide +kernel
theorem dX11_choose_9 : decode cX11_choose 9 = .ok (.lconst 0, 1) := by decide +kernel
theorem dX11_choose_10 : decode cX11_choose 10 = .ok (.lreturn, 1) := by decide +kernel
theorem dX11_choose_11 : decode cX11_choose 11 = .ok (.lconst 1, 1) := by decide +kernel
theorem dX11_choose_12 : decode cX11_choose 12 = .ok (.lstore_n 2, 1) := by decide +kernel
theorem dX11_choose_13 : decode cX11_choose 13 = .ok (.iconst 0, 1) := by decide +kernel
theorem dX11_choose_14 : decode cX11_choose 14 = .ok (.istore 4, 2) := by decide +kernel
theorem dX11_choose_16 : decode cX11_choose 16 = .ok (.iload 4, 2) := by decide +kernel
theorem dX11_choose_18 : decode cX11_choose 18 = .ok (.iload_n 1, 1) := by decide +kernel
theorem dX11_choose_19 : decode cX11_choose 19 = .ok (.if_icmp .ge 23, 3) := by decide +kernel
theorem dX11_choose_22 : decode cX11_choose 22 = .ok (.lload_n 2, 1) := by decide +kernel
theorem dX11_choose_23 : decode cX11_choose 23 = .ok (.iload_n 0, 1) := by decide +kernel
theorem dX11_choose_24 : decode cX11_choose 24 = .ok (.iload 4, 2) := by decide +kernel
theorem dX11_choose_26 : decode cX11_choose 26 = .ok (.isub, 1) := by decide +kernel
theorem dX11_choose_27 : decode cX11_choose 27 = .ok (.i2l, 1) := by decide +kernel
theorem dX11_choose_28 : decode cX11_choose 28 = .ok (.lmul, 1) := by decide +kernel
theorem dX11_choose_29 : decode cX11_choose 29 = .ok (.iload 4, 2) := by decide +kernel
theorem dX11_choose_31 : decode cX11_choose 31 = .ok (.iconst 1, 1) := by decide +kernel
theorem dX11_choose_32 : decode cX11_choose 32 = .ok (.iadd, 1) := by decide +kernel
theorem dX11_choose_33 : decode cX11_choose 33 = .ok (.i2l, 1) := by decide +kernel
theorem dX11_choose_34 : decode cX11_choose 34 = .ok (.ldiv, 1) := by decide +kernel
theorem dX11_choose_35 : decode cX11_choose 35 = .ok (.lstore_n 2, 1) := by decide +kernel
theorem dX11_choose_36 : decode cX11_choose 36 = .ok (.iinc 4 1, 3) := by decide +kernel
theorem dX11_choose_39 : decode cX11_choose 39 = .ok (.goto (-23), 3) := by decide +kernel
theorem dX11_choose_42 : decode cX11_choose 42 = .ok (.lload_n 2, 1) := by decide +kernel
theorem dX11_choose_43 : decode cX11_choose 43 = .ok (.lreturn, 1) := by decide +kernel
set_option maxRecDepth 20000 in
theorem ggX11_yesOf_X11_set : GoodIn wsX11_yesOf wsX11_set := goodIn_r _ [6, 7, 8, 9, 10, 5, 11, 12, 13, 14, 15, 16, 17, 18, 19, 31, 32, 33, 34, 35, 36, 37, 38, 39, 40, 41, 42, 43, 44, 45, 46, 47, 48, 49, 50, 51] (by decide +kernel) (by decide +kernel)
set_option maxRecDepth 20000 in
theorem gX11_yesOf_X11_set : GoodIn wsX11_yesOf (wsV RX11 60 RX11 yX11_set wsX11_set) := goodIn_app (goodIn_of _ (by decide +kernel)) ggX11_yesOf_X11_set
set_option maxRecDepth 20000 in
theorem ggX11_yesOf_X11_choose : GoodIn wsX11_yesOf wsX11_choose := goodIn_r _ [22] (by decide +kernel) (by decide +kernel)
set_option maxRecDepth 20000 in
theorem gX11_yesOf_X11_choose : GoodIn wsX11_yesOf (va_wsS RX11 158 yX11_choose wsX11_choose) := goodIn_app (goodIn_of _ (by decide +kernel)) ggX11_yesOf_X11_choose
set_option maxRecDepth 20000 in
theorem ggX11_yesOf_X11_times : GoodIn wsX11_yesOf wsX11_times := goodIn_r _ [26, 7, 8, 9, 10, 5, 11, 12, 13, 14, 15, 16, 17, 18, 19, 31, 32, 33, 34, 35, 36, 37, 38, 39, 40, 41, 42, 43, 44, 45, 46, 47, 48, 49, 50, 51] (by decide +kernel) (by decide +kernel)
set_option maxRecDepth 20000 in
theorem gX11_yesOf_X11_times : GoodIn wsX11_yesOf (wsV RX11 93 RX11 yX11_times wsX11_times) := goodIn_app (goodIn_of _ (by decide +kernel)) ggX11_yesOf_X11_times
set_option maxRecDepth 20000 in
theorem ggX11_yesOf_X11_more : GoodIn wsX11_yesOf wsX11_more := goodIn_r _ [30, 7, 8, 9, 10, 5, 11, 12, 13, 14, 15, 16, 17, 18, 19, 31, 32, 33, 34, 35, 36, 37, 38, 39, 40, 41, 42, 43, 44, 45, 46, 47, 48, 49, 50, 51] (by decide +kernel) (by decide +kernel)
set_option maxRecDepth 20000 in
theorem gX11_yesOf_X11_more : GoodIn wsX11_yesOf (wsV RX11 87 RX11 yX11_more wsX11_more) := goodIn_app (goodIn_of _ (by decide +kernel)) ggX11_yesOf_X11_more
theorem dX11_yesOf_0 : decode cX11_yesOf 0 = .ok (.aload_n 0, 1) := by decide +kernel
theorem dX11_yesOf_1 : decode cX11_yesOf 1 = .ok (.iconst 2, 1) := by decide +kernel
theorem dX11_yesOf_2 : decode cX11_yesOf 2 = .ok (.lconst 0, 1) := by decide +kernel
theorem dX11_yesOf_3 : decode cX11_yesOf 3 = .ok (.invokevirtual 60, 3) := by decide +kernel
theorem dX11_yesOf_6 : decode cX11_yesOf 6 = .ok (.iconst 1, 1) := by decide +kernel
theorem dX11_yesOf_7 : decode cX11_yesOf 7 = .ok (.istore 4, 2) := by decide +kernel
theorem dX11_yesOf_9 : decode cX11_yesOf 9 = .ok (.iload 4, 2) := by decide +kernel
theorem dX11_yesOf_11 : decode cX11_yesOf 11 = .ok (.iload_n 1, 1) := by decide +kernel
theorem dX11_yesOf_12 : decode cX11_yesOf 12 = .ok (.if_icmp .gt 53, 3) := by decide +kernel
theorem dX11_yesOf_15 : decode cX11_yesOf 15 = .ok (.aload_n 0, 1) := by decide +kernel
theorem dX11_yesOf_16 : decode cX11_yesOf 16 = .ok (.iconst 4, 1) := by decide +kernel
theorem dX11_yesOf_17 : decode cX11_yesOf 17 = .ok (.iload 4, 2) := by decide +kernel
theorem dX11_yesOf_19 : decode cX11_yesOf 19 = .ok (.iconst 1, 1) := by decide +kernel
theorem dX11_yesOf_20 : decode cX11_yesOf 20 = .ok (.isub, 1) := by decide +kernel
theorem dX11_yesOf_21 : decode cX11_yesOf 21 = .ok (.iload_n 3, 1) := by decide +kernel
theorem dX11_yesOf_22 : decode cX11_yesOf 22 = .ok (.iconst 1, 1) := by decide +kernel
theorem dX11_yesOf_23 : decode cX11_yesOf 23 = .ok (.isub, 1) := by decide +kernel
theorem dX11_yesOf_24 : decode cX11_yesOf 24 = .ok (.invokestatic 158, 3) := by decide +kernel
theorem dX11_yesOf_27 : decode cX11_yesOf 27 = .ok (.invokevirtual 60, 3) := by decide +kernel
theorem dX11_yesOf_30 : decode cX11_yesOf 30 = .ok (.aload_n 0, 1) := by decide +kernel
theorem dX11_yesOf_31 : decode cX11_yesOf 31 = .ok (.iconst 4, 1) := by decide +kernel
theorem dX11_yesOf_32 : decode cX11_yesOf 32 = .ok (.iload_n 1, 1) := by decide +kernel
theorem dX11_yesOf_33 : decode cX11_yesOf 33 = .ok (.iload 4, 2) := by decide +kernel
theorem dX11_yesOf_35 : decode cX11_yesOf 35 = .ok (.isub, 1) := by decide +kernel
theorem dX11_yesOf_36 : decode cX11_yesOf 36 = .ok (.iload_n 2, 1) := by decide +kernel
theorem dX11_yesOf_37 : decode cX11_yesOf 37 = .ok (.iload_n 3, 1) := by decide +kernel
theorem dX11_yesOf_38 : decode cX11_yesOf 38 = .ok (.isub, 1) := by decide +kernel
theorem dX11_yesOf_39 : decode cX11_yesOf 39 = .ok (.invokestatic 158, 3) := by decide +kernel
theorem dX11_yesOf_42 : decode cX11_yesOf 42 = .ok (.invokevirtual 93, 3) := by decide +kernel
theorem dX11_yesOf_45 : decode cX11_yesOf 45 = .ok (.aload_n 0, 1) := by decide +kernel
theorem dX11_yesOf_46 : decode cX11_yesOf 46 = .ok (.iconst 2, 1) := by decide +kernel
theorem dX11_yesOf_47 : decode cX11_yesOf 47 = .ok (.iconst 4, 1) := by decide +kernel
theorem dX11_yesOf_48 : decode cX11_yesOf 48 = .ok (.aload_n 0, 1) := by decide +kernel
theorem dX11_yesOf_49 : decode cX11_yesOf 49 = .ok (.getfield 42, 3) := by decide +kernel
theorem dX11_yesOf_52 : decode cX11_yesOf 52 = .ok (.iload 4, 2) := by decide +kernel
theorem dX11_yesOf_54 : decode cX11_yesOf 54 = .ok (.iaload, 1) := by decide +kernel
theorem dX11_yesOf_55 : decode cX11_yesOf 55 = .ok (.i2l, 1) := by decide +kernel
theorem dX11_yesOf_56 : decode cX11_yesOf 56 = .ok (.invokevirtual 87, 3) := by decide +kernel
theorem dX11_yesOf_59 : decode cX11_yesOf 59 = .ok (.iinc 4 1, 3) := by decide +kernel
theorem dX11_yesOf_62 : decode cX11_yesOf 62 = .ok (.goto (-53), 3) := by decide +kernel
theorem dX11_yesOf_65 : decode cX11_yesOf 65 = .ok (.iconst 2, 1) := by decide +kernel
theorem dX11_yesOf_66 : decode cX11_yesOf 66 = .ok (.istore 4, 2) := by decide +kernel
theorem dX11_yesOf_68 : decode cX11_yesOf 68 = .ok (.iload 4, 2) := by decide +kernel
theorem dX11_yesOf_70 : decode cX11_yesOf 70 = .ok (.iload_n 2, 1) := by decide +kernel
theorem dX11_yesOf_71 : decode cX11_yesOf 71 = .ok (.if_icmp .gt 17, 3) := by decide +kernel
theorem dX11_yesOf_74 : decode cX11_yesOf 74 = .ok (.aload_n 0, 1) := by decide +kernel
theorem dX11_yesOf_75 : decode cX11_yesOf 75 = .ok (.iconst 2, 1) := by decide +kernel
theorem dX11_yesOf_76 : decode cX11_yesOf 76 = .ok (.iload 4, 2) := by decide +kernel
theorem dX11_yesOf_78 : decode cX11_yesOf 78 = .ok (.i2l, 1) := by decide +kernel
theorem dX11_yesOf_79 : decode cX11_yesOf 79 = .ok (.invokevirtual 93, 3) := by decide +kernel
theorem dX11_yesOf_82 : decode cX11_yesOf 82 = .ok (.iinc 4 1, 3) := by decide +kernel
theorem dX11_yesOf_85 : decode cX11_yesOf 85 = .ok (.goto (-17), 3) := by decide +kernel
theorem dX11_yesOf_88 : decode cX11_yesOf 88 = .ok (.iconst 2, 1) := by decide +kernel
theorem dX11_yesOf_89 : decode cX11_yesOf 89 = .ok (.istore 4, 2) := by decide +kernel
theorem dX11_yesOf_91 : decode cX11_yesOf 91 = .ok (.iload 4, 2) := by decide +kernel
theorem dX11_yesOf_93 : decode cX11_yesOf 93 = .ok (.iload_n 1, 1) := by decide +kernel
theorem dX11_yesOf_94 : decode cX11_yesOf 94 = .ok (.iload_n 2, 1) := by decide +kernel
theorem dX11_yesOf_95 : decode cX11_yesOf 95 = .ok (.isub, 1) := by decide +kernel
theorem dX11_yesOf_96 : decode cX11_yesOf 96 = .ok (.if_icmp .gt 17, 3) := by decide +kernel
theorem dX11_yesOf_99 : decode cX11_yesOf 99 = .ok (.aload_n 0, 1) := by decide +kernel
theorem dX11_yesOf_100 : decode cX11_yesOf 100 = .ok (.iconst 2, 1) := by decide +kernel
theorem dX11_yesOf_101 : decode cX11_yesOf 101 = .ok (.iload 4, 2) := by decide +kernel
theorem dX11_yesOf_103 : decode cX11_yesOf 103 = .ok (.i2l, 1) := by decide +kernel
theorem dX11_yesOf_104 : decode cX11_yesOf 104 = .ok (.invokevirtual 93, 3) := by decide +kernel
theorem dX11_yesOf_107 : decode cX11_yesOf 107 = .ok (.iinc 4 1, 3) := by decide +kernel
theorem dX11_yesOf_110 : decode cX11_yesOf 110 = .ok (.goto (-19), 3) := by decide +kernel
theorem dX11_yesOf_113 : decode cX11_yesOf 113 = .ok (.iload_n 2, 1) := by decide +kernel
theorem dX11_yesOf_114 : decode cX11_yesOf 114 = .ok (.iconst 1, 1) := by decide +kernel
theorem dX11_yesOf_115 : decode cX11_yesOf 115 = .ok (.iadd, 1) := by decide +kernel
theorem dX11_yesOf_116 : decode cX11_yesOf 116 = .ok (.istore 4, 2) := by decide +kernel
theorem dX11_yesOf_118 : decode cX11_yesOf 118 = .ok (.iload 4, 2) := by decide +kernel
theorem dX11_yesOf_120 : decode cX11_yesOf 120 = .ok (.iload_n 1, 1) := by decide +kernel
theorem dX11_yesOf_121 : decode cX11_yesOf 121 = .ok (.if_icmp .gt 17, 3) := by decide +kernel
theorem dX11_yesOf_124 : decode cX11_yesOf 124 = .ok (.aload_n 0, 1) := by decide +kernel
theorem dX11_yesOf_125 : decode cX11_yesOf 125 = .ok (.iconst 2, 1) := by decide +kernel
theorem dX11_yesOf_126 : decode cX11_yesOf 126 = .ok (.iload 4, 2) := by decide +kernel
theorem dX11_yesOf_128 : decode cX11_yesOf 128 = .ok (.i2l, 1) := by decide +kernel
theorem dX11_yesOf_129 : decode cX11_yesOf 129 = .ok (.invokevirtual 93, 3) := by decide +kernel
theorem dX11_yesOf_132 : decode cX11_yesOf 132 = .ok (.iinc 4 1, 3) := by decide +kernel
theorem dX11_yesOf_135 : decode cX11_yesOf 135 = .ok (.goto (-17), 3) := by decide +kernel
theorem dX11_yesOf_138 : decode cX11_yesOf 138 = .ok (.return_, 1) := by decide +kernel
set_option maxRecDepth 20000 in
theorem ggX11_goesOn_X11_set : GoodIn wsX11_goesOn wsX11_set := goodIn_r _ [5, 6, 7, 8, 9, 4, 10, 11, 12, 13, 14, 15, 16, 17, 18, 39, 40, 41, 42, 43, 44, 45, 46, 47, 48, 49, 50, 51, 52, 53, 54, 55, 56, 57, 58, 59] (by decide +kernel) (by decide +kernel)
set_option maxRecDepth 20000 in
theorem gX11_goesOn_X11_set : GoodIn wsX11_goesOn (wsV RX11 60 RX11 yX11_set wsX11_set) := goodIn_app (goodIn_of _ (by decide +kernel)) ggX11_goesOn_X11_set
set_option maxRecDepth 20000 in
theorem ggX11_goesOn_X11_yesOf : GoodIn wsX11_goesOn wsX11_yesOf := goodIn_r _ [22, 23, 1, 2, 3, 4, 5, 6, 7, 8, 9, 10, 11, 12, 13, 14, 15, 16, 17, 18, 24, 25, 26, 27, 28, 29, 30, 31, 32, 33, 34, 39, 40, 41, 42, 43, 44, 45, 46, 47, 48, 49, 50, 51, 52, 53, 54, 55, 56, 57, 58, 59] (by decide +kernel) (by decide +kernel)
set_option maxRecDepth 20000 in
theorem gX11_goesOn_X11_yesOf : GoodIn wsX11_goesOn (wsV RX11 162 RX11 yX11_yesOf wsX11_yesOf) := goodIn_app (goodIn_of _ (by decide +kernel)) ggX11_goesOn_X11_yesOf
set_option maxRecDepth 20000 in
theorem ggX11_goesOn_X11_compared : GoodIn wsX11_goesOn wsX11_compared := goodIn_r _ [38, 6, 39, 40, 41, 42, 43, 44, 45, 46, 47, 48, 49, 50, 51, 52, 53, 54, 55, 56, 57, 58, 59] (by decide +kernel) (by decide +kernel)
set_option maxRecDepth 20000 in
theorem gX11_goesOn_X11_compared : GoodIn wsX11_goesOn (wsV RX11 106 RX11 yX11_compared wsX11_compared) := goodIn_app (goodIn_of _ (by decide +kernel)) ggX11_goesOn_X11_compared
set_option maxRecDepth 20000 in
theorem ggX11_goesOn_X11_more : GoodIn wsX11_goesOn wsX11_more := goodIn_r _ [34, 6, 7, 8, 9, 4, 10, 11, 12, 13, 14, 15, 16, 17, 18, 39, 40, 41, 42, 43, 44, 45, 46, 47, 48, 49, 50, 51, 52, 53, 54, 55, 56, 57, 58, 59] (by decide +kernel) (by decide +kernel)
set_option maxRecDepth 20000 in
theorem gX11_goesOn_X11_more : GoodIn wsX11_goesOn (wsV RX11 87 RX11 yX11_more wsX11_more) := goodIn_app (goodIn_of _ (by decide +kernel)) ggX11_goesOn_X11_more
theorem dX11_goesOn_0 : decode cX11_goesOn 0 = .ok (.iload_n 1, 1) := by decide +kernel
theorem dX11_goesOn_1 : decode cX11_goesOn 1 = .ok (.iconst 1, 1) := by decide +kernel
theorem dX11_goesOn_2 : decode cX11_goesOn 2 = .ok (.isub, 1) := by decide +kernel
theorem dX11_goesOn_3 : decode cX11_goesOn 3 = .ok (.istore_n 2, 1) := by decide +kernel
theorem dX11_goesOn_4 : decode cX11_goesOn 4 = .ok (.iload_n 2, 1) := by decide +kernel
theorem dX11_goesOn_5 : decode cX11_goesOn 5 = .ok (.ifCond .lt 94, 3) := by decide +kernel
theorem dX11_goesOn_8 : decode cX11_goesOn 8 = .ok (.aload_n 0, 1) := by decide +kernel
theorem dX11_goesOn_9 : decode cX11_goesOn 9 = .ok (.bipush 10, 2) := by decide +kernel
theorem dX11_goesOn_11 : decode cX11_goesOn 11 = .ok (.iload_n 2, 1) := by decide +kernel
theorem dX11_goesOn_12 : decode cX11_goesOn 12 = .ok (.iadd, 1) := by decide +kernel
theorem dX11_goesOn_13 : decode cX11_goesOn 13 = .ok (.lconst 0, 1) := by decide +kernel
theorem dX11_goesOn_14 : decode cX11_goesOn 14 = .ok (.invokevirtual 60, 3) := by decide +kernel
theorem dX11_goesOn_17 : decode cX11_goesOn 17 = .ok (.iconst 1, 1) := by decide +kernel
theorem dX11_goesOn_18 : decode cX11_goesOn 18 = .ok (.istore_n 3, 1) := by decide +kernel
theorem dX11_goesOn_19 : decode cX11_goesOn 19 = .ok (.iload_n 3, 1) := by decide +kernel
theorem dX11_goesOn_20 : decode cX11_goesOn 20 = .ok (.iload_n 2, 1) := by decide +kernel
theorem dX11_goesOn_21 : decode cX11_goesOn 21 = .ok (.iconst 1, 1) := by decide +kernel
theorem dX11_goesOn_22 : decode cX11_goesOn 22 = .ok (.iadd, 1) := by decide +kernel
theorem dX11_goesOn_23 : decode cX11_goesOn 23 = .ok (.if_icmp .gt 70, 3) := by decide +kernel
theorem dX11_goesOn_26 : decode cX11_goesOn 26 = .ok (.aload_n 0, 1) := by decide +kernel
theorem dX11_goesOn_27 : decode cX11_goesOn 27 = .ok (.iload_n 1, 1) := by decide +kernel
theorem dX11_goesOn_28 : decode cX11_goesOn 28 = .ok (.iload_n 2, 1) := by decide +kernel
theorem dX11_goesOn_29 : decode cX11_goesOn 29 = .ok (.iconst 1, 1) := by decide +kernel
theorem dX11_goesOn_30 : decode cX11_goesOn 30 = .ok (.iadd, 1) := by decide +kernel
theorem dX11_goesOn_31 : decode cX11_goesOn 31 = .ok (.iload_n 3, 1) := by decide +kernel
theorem dX11_goesOn_32 : decode cX11_goesOn 32 = .ok (.invokevirtual 162, 3) := by decide +kernel
theorem dX11_goesOn_35 : decode cX11_goesOn 35 = .ok (.iload_n 2, 1) := by decide +kernel
theorem dX11_goesOn_36 : decode cX11_goesOn 36 = .ok (.iconst 1, 1) := by decide +kernel
theorem dX11_goesOn_37 : decode cX11_goesOn 37 = .ok (.iadd, 1) := by decide +kernel
theorem dX11_goesOn_38 : decode cX11_goesOn 38 = .ok (.iload_n 1, 1) := by decide +kernel
theorem dX11_goesOn_39 : decode cX11_goesOn 39 = .ok (.if_icmp .eq 17, 3) := by decide +kernel
theorem dX11_goesOn_42 : decode cX11_goesOn 42 = .ok (.aload_n 0, 1) := by decide +kernel
theorem dX11_goesOn_43 : decode cX11_goesOn 43 = .ok (.iconst 2, 1) := by decide +kernel
theorem dX11_goesOn_44 : decode cX11_goesOn 44 = .ok (.bipush 10, 2) := by decide +kernel
theorem dX11_goesOn_46 : decode cX11_goesOn 46 = .ok (.iload_n 2, 1) := by decide +kernel
theorem dX11_goesOn_47 : decode cX11_goesOn 47 = .ok (.iadd, 1) := by decide +kernel
theorem dX11_goesOn_48 : decode cX11_goesOn 48 = .ok (.iconst 1, 1) := by decide +kernel
theorem dX11_goesOn_49 : decode cX11_goesOn 49 = .ok (.iadd, 1) := by decide +kernel
theorem dX11_goesOn_50 : decode cX11_goesOn 50 = .ok (.invokevirtual 106, 3) := by decide +kernel
theorem dX11_goesOn_53 : decode cX11_goesOn 53 = .ok (.ifCond .lt 7, 3) := by decide +kernel
theorem dX11_goesOn_56 : decode cX11_goesOn 56 = .ok (.iconst 1, 1) := by decide +kernel
theorem dX11_goesOn_57 : decode cX11_goesOn 57 = .ok (.goto 4, 3) := by decide +kernel
theorem dX11_goesOn_60 : decode cX11_goesOn 60 = .ok (.iconst 0, 1) := by decide +kernel
theorem dX11_goesOn_61 : decode cX11_goesOn 61 = .ok (.istore 4, 2) := by decide +kernel
theorem dX11_goesOn_63 : decode cX11_goesOn 63 = .ok (.aload_n 0, 1) := by decide +kernel
theorem dX11_goesOn_64 : decode cX11_goesOn 64 = .ok (.bipush 10, 2) := by decide +kernel
theorem dX11_goesOn_66 : decode cX11_goesOn 66 = .ok (.iload_n 2, 1) := by decide +kernel
theorem dX11_goesOn_67 : decode cX11_goesOn 67 = .ok (.iadd, 1) := by decide +kernel
theorem dX11_goesOn_68 : decode cX11_goesOn 68 = .ok (.iload 4, 2) := by decide +kernel
theorem dX11_goesOn_70 : decode cX11_goesOn 70 = .ok (.ifCond .eq 7, 3) := by decide +kernel
theorem dX11_goesOn_73 : decode cX11_goesOn 73 = .ok (.iconst 2, 1) := by decide +kernel
theorem dX11_goesOn_74 : decode cX11_goesOn 74 = .ok (.goto 9, 3) := by decide +kernel
theorem dX11_goesOn_77 : decode cX11_goesOn 77 = .ok (.bipush 10, 2) := by decide +kernel
theorem dX11_goesOn_79 : decode cX11_goesOn 79 = .ok (.iload_n 2, 1) := by decide +kernel
theorem dX11_goesOn_80 : decode cX11_goesOn 80 = .ok (.iadd, 1) := by decide +kernel
theorem dX11_goesOn_81 : decode cX11_goesOn 81 = .ok (.iconst 1, 1) := by decide +kernel
theorem dX11_goesOn_82 : decode cX11_goesOn 82 = .ok (.iadd, 1) := by decide +kernel
theorem dX11_goesOn_83 : decode cX11_goesOn 83 = .ok (.lconst 1, 1) := by decide +kernel
theorem dX11_goesOn_84 : decode cX11_goesOn 84 = .ok (.invokevirtual 87, 3) := by decide +kernel
theorem dX11_goesOn_87 : decode cX11_goesOn 87 = .ok (.iinc 3 1, 3) := by decide +kernel
theorem dX11_goesOn_90 : decode cX11_goesOn 90 = .ok (.goto (-71), 3) := by decide +kernel
theorem dX11_goesOn_93 : decode cX11_goesOn 93 = .ok (.iinc 2 (-1), 3) := by decide +kernel
theorem dX11_goesOn_96 : decode cX11_goesOn 96 = .ok (.goto (-92), 3) := by decide +kernel
theorem dX11_goesOn_99 : decode cX11_goesOn 99 = .ok (.return_, 1) := by decide +kernel
set_option maxRecDepth 20000 in
theorem ggX11_ranks_X11_goesOn : GoodIn wsX11_ranks wsX11_goesOn := goodIn_r _ [5, 6, 7, 8, 4, 9, 10, 11, 12, 13, 14, 15, 16, 17, 18, 19, 20, 21, 22, 23, 24, 25, 26, 27, 28, 29, 30, 31, 32, 33, 34, 35, 36, 37, 38, 39, 40, 41, 42, 70, 71, 72, 73, 74, 75, 76, 77, 78, 79, 80, 81, 82, 83, 84, 85, 86, 87, 88, 89, 90] (by decide +kernel) (by decide +kernel)
set_option maxRecDepth 20000 in
theorem gX11_ranks_X11_goesOn : GoodIn wsX11_ranks (wsV RX11 166 RX11 yX11_goesOn wsX11_goesOn) := goodIn_app (goodIn_of _ (by decide +kernel)) ggX11_ranks_X11_goesOn
set_option maxRecDepth 20000 in
theorem ggX11_ranks_X11_set : GoodIn wsX11_ranks wsX11_set := goodIn_r _ [9, 10, 11, 12, 13, 4, 14, 15, 16, 17, 18, 19, 20, 21, 22, 70, 71, 72, 73, 74, 75, 76, 77, 78, 79, 80, 81, 82, 83, 84, 85, 86, 87, 88, 89, 90] (by decide +kernel) (by decide +kernel)
set_option maxRecDepth 20000 in
theorem gX11_ranks_X11_set : GoodIn wsX11_ranks (wsV RX11 60 RX11 yX11_set wsX11_set) := goodIn_app (goodIn_of _ (by decide +kernel)) ggX11_ranks_X11_set
set_option maxRecDepth 20000 in
theorem ggX11_ranks_X11_times : GoodIn wsX11_ranks wsX11_times := goodIn_r _ [34, 10, 11, 12, 13, 4, 14, 15, 16, 17, 18, 19, 20, 21, 22, 70, 71, 72, 73, 74, 75, 76, 77, 78, 79, 80, 81, 82, 83, 84, 85, 86, 87, 88, 89, 90] (by decide +kernel) (by decide +kernel)
set_option maxRecDepth 20000 in
theorem gX11_ranks_X11_times : GoodIn wsX11_ranks (wsV RX11 93 RX11 yX11_times wsX11_times) := goodIn_app (goodIn_of _ (by decide +kernel)) ggX11_ranks_X11_times
set_option maxRecDepth 20000 in
theorem ggX11_ranks_X11_result : GoodIn wsX11_ranks wsX11_result := goodIn_r _ [46, 10, 47, 48, 49, 50, 51, 4, 52, 31, 32, 33, 34, 11, 12, 13, 14, 15, 16, 17, 18, 19, 20, 21, 22, 53, 54, 55, 56, 6, 7, 8, 9, 57, 58, 59, 60, 61, 62, 63, 64, 39, 40, 41, 42, 35, 36, 37, 38, 65, 66, 67, 68, 69, 70, 71, 72, 73, 74, 75, 76, 77, 78, 79, 80, 81, 82, 83, 84, 85, 86, 87, 88, 89, 90] (by decide +kernel) (by decide +kernel)
set_option maxRecDepth 20000 in
theorem gX11_ranks_X11_result : GoodIn wsX11_ranks (wsV RX11 137 RX11 yX11_result wsX11_result) := goodIn_app (goodIn_of _ (by decide +kernel)) ggX11_ranks_X11_result
theorem dX11_ranks_0 : decode cX11_ranks 0 = .ok (.iload_n 1, 1) := by decide +kernel
theorem dX11_ranks_1 : decode cX11_ranks 1 = .ok (.iconst 1, 1) := by decide +kernel
theorem dX11_ranks_2 : decode cX11_ranks 2 = .ok (.if_icmp .lt 9, 3) := by decide +kernel
theorem dX11_ranks_5 : decode cX11_ranks 5 = .ok (.iload_n 1, 1) := by decide +kernel
theorem dX11_ranks_6 : decode cX11_ranks 6 = .ok (.bipush 20, 2) := by decide +kernel
theorem dX11_ranks_8 : decode cX11_ranks 8 = .ok (.if_icmp .le 5, 3) := by decide +kernel
theorem dX11_ranks_11 : decode cX11_ranks 11 = .ok (.iconst 0, 1) := by decide +kernel
theorem dX11_ranks_12 : decode cX11_ranks 12 = .ok (.ireturn, 1) := by decide +kernel
theorem dX11_ranks_13 : decode cX11_ranks 13 = .ok (.aload_n 0, 1) := by decide +kernel
theorem dX11_ranks_14 : decode cX11_ranks 14 = .ok (.iload_n 1, 1) := by decide +kernel
theorem dX11_ranks_15 : decode cX11_ranks 15 = .ok (.invokevirtual 166, 3) := by decide +kernel
theorem dX11_ranks_18 : decode cX11_ranks 18 = .ok (.aload_n 0, 1) := by decide +kernel
theorem dX11_ranks_19 : decode cX11_ranks 19 = .ok (.bipush 40, 2) := by decide +kernel
theorem dX11_ranks_21 : decode cX11_ranks 21 = .ok (.lconst 1, 1) := by decide +kernel
theorem dX11_ranks_22 : decode cX11_ranks 22 = .ok (.invokevirtual 60, 3) := by decide +kernel
theorem dX11_ranks_25 : decode cX11_ranks 25 = .ok (.iconst 2, 1) := by decide +kernel
theorem dX11_ranks_26 : decode cX11_ranks 26 = .ok (.istore_n 2, 1) := by decide +kernel
theorem dX11_ranks_27 : decode cX11_ranks 27 = .ok (.iload_n 2, 1) := by decide +kernel
theorem dX11_ranks_28 : decode cX11_ranks 28 = .ok (.iload_n 1, 1) := by decide +kernel
theorem dX11_ranks_29 : decode cX11_ranks 29 = .ok (.if_icmp .gt 25, 3) := by decide +kernel
theorem dX11_ranks_32 : decode cX11_ranks 32 = .ok (.aload_n 0, 1) := by decide +kernel
theorem dX11_ranks_33 : decode cX11_ranks 33 = .ok (.bipush 40, 2) := by decide +kernel
theorem dX11_ranks_35 : decode cX11_ranks 35 = .ok (.iload_n 2, 1) := by decide +kernel
theorem dX11_ranks_36 : decode cX11_ranks 36 = .ok (.i2l, 1) := by decide +kernel
theorem dX11_ranks_37 : decode cX11_ranks 37 = .ok (.invokevirtual 93, 3) := by decide +kernel
theorem dX11_ranks_40 : decode cX11_ranks 40 = .ok (.aload_n 0, 1) := by decide +kernel
theorem dX11_ranks_41 : decode cX11_ranks 41 = .ok (.bipush 40, 2) := by decide +kernel
theorem dX11_ranks_43 : decode cX11_ranks 43 = .ok (.iload_n 2, 1) := by decide +kernel
theorem dX11_ranks_44 : decode cX11_ranks 44 = .ok (.i2l, 1) := by decide +kernel
theorem dX11_ranks_45 : decode cX11_ranks 45 = .ok (.invokevirtual 93, 3) := by decide +kernel
theorem dX11_ranks_48 : decode cX11_ranks 48 = .ok (.iinc 2 1, 3) := by decide +kernel
theorem dX11_ranks_51 : decode cX11_ranks 51 = .ok (.goto (-24), 3) := by decide +kernel
theorem dX11_ranks_54 : decode cX11_ranks 54 = .ok (.aload_n 0, 1) := by decide +kernel
theorem dX11_ranks_55 : decode cX11_ranks 55 = .ok (.bipush 10, 2) := by decide +kernel
theorem dX11_ranks_57 : decode cX11_ranks 57 = .ok (.bipush 40, 2) := by decide +kernel
theorem dX11_ranks_59 : decode cX11_ranks 59 = .ok (.invokevirtual 137, 3) := by decide +kernel
theorem dX11_ranks_62 : decode cX11_ranks 62 = .ok (.iconst 1, 1) := by decide +kernel
theorem dX11_ranks_63 : decode cX11_ranks 63 = .ok (.ireturn, 1) := by decide +kernel
set_option maxRecDepth 20000 in
theorem ggX11_yes_X11_goesOn : GoodIn wsX11_yes wsX11_goesOn := goodIn_r _ [5, 6, 7, 8, 4, 9, 10, 11, 12, 13, 14, 15, 16, 17, 18, 19, 20, 21, 22, 23, 24, 25, 26, 27, 28, 29, 30, 31, 32, 33, 34, 35, 36, 37, 38, 39, 40, 41, 42, 43, 44, 45, 46, 47, 48, 49, 50, 51, 52, 53, 54, 55, 56, 57, 58, 59, 60, 61, 62, 63] (by decide +kernel) (by decide +kernel)
set_option maxRecDepth 20000 in
theorem gX11_yes_X11_goesOn : GoodIn wsX11_yes (wsV RX11 166 RX11 yX11_goesOn wsX11_goesOn) := goodIn_app (goodIn_of _ (by decide +kernel)) ggX11_yes_X11_goesOn
set_option maxRecDepth 20000 in
theorem ggX11_yes_X11_yesOf : GoodIn wsX11_yes wsX11_yesOf := goodIn_r _ [26, 27, 6, 7, 8, 4, 9, 10, 11, 12, 13, 14, 15, 16, 17, 18, 19, 20, 21, 22, 28, 29, 30, 31, 32, 33, 34, 35, 36, 37, 38, 43, 44, 45, 46, 47, 48, 49, 50, 51, 52, 53, 54, 55, 56, 57, 58, 59, 60, 61, 62, 63] (by decide +kernel) (by decide +kernel)
set_option maxRecDepth 20000 in
theorem gX11_yes_X11_yesOf : GoodIn wsX11_yes (wsV RX11 162 RX11 yX11_yesOf wsX11_yesOf) := goodIn_app (goodIn_of _ (by decide +kernel)) ggX11_yes_X11_yesOf
set_option maxRecDepth 20000 in
theorem ggX11_yes_X11_compared : GoodIn wsX11_yes wsX11_compared := goodIn_r _ [42, 10, 43, 44, 45, 46, 47, 48, 49, 50, 51, 52, 53, 54, 55, 56, 57, 58, 59, 60, 61, 62, 63] (by decide +kernel) (by decide +kernel)
set_option maxRecDepth 20000 in
theorem gX11_yes_X11_compared : GoodIn wsX11_yes (wsV RX11 106 RX11 yX11_compared wsX11_compared) := goodIn_app (goodIn_of _ (by decide +kernel)) ggX11_yes_X11_compared
theorem dX11_yes_0 : decode cX11_yes 0 = .ok (.iload_n 1, 1) := by decide +kernel
theorem dX11_yes_1 : decode cX11_yes 1 = .ok (.iconst 1, 1) := by decide +kernel
theorem dX11_yes_2 : decode cX11_yes 2 = .ok (.if_icmp .lt 29, 3) := by decide +kernel
theorem dX11_yes_5 : decode cX11_yes 5 = .ok (.iload_n 1, 1) := by decide +kernel
theorem dX11_yes_6 : decode cX11_yes 6 = .ok (.bipush 20, 2) := by decide +kernel
theorem dX11_yes_8 : decode cX11_yes 8 = .ok (.if_icmp .gt 23, 3) := by decide +kernel
theorem dX11_yes_11 : decode cX11_yes 11 = .ok (.iload_n 2, 1) := by decide +kernel
theorem dX11_yes_12 : decode cX11_yes 12 = .ok (.iconst 1, 1) := by decide +kernel
theorem dX11_yes_13 : decode cX11_yes 13 = .ok (.if_icmp .lt 18, 3) := by decide +kernel
theorem dX11_yes_16 : decode cX11_yes 16 = .ok (.iload_n 2, 1) := by decide +kernel
theorem dX11_yes_17 : decode cX11_yes 17 = .ok (.iload_n 1, 1) := by decide +kernel
theorem dX11_yes_18 : decode cX11_yes 18 = .ok (.if_icmp .gt 13, 3) := by decide +kernel
theorem dX11_yes_21 : decode cX11_yes 21 = .ok (.iload_n 3, 1) := by decide +kernel
theorem dX11_yes_22 : decode cX11_yes 22 = .ok (.iconst 1, 1) := by decide +kernel
theorem dX11_yes_23 : decode cX11_yes 23 = .ok (.if_icmp .lt 8, 3) := by decide +kernel
theorem dX11_yes_26 : decode cX11_yes 26 = .ok (.iload_n 3, 1) := by decide +kernel
theorem dX11_yes_27 : decode cX11_yes 27 = .ok (.iload_n 2, 1) := by decide +kernel
theorem dX11_yes_28 : decode cX11_yes 28 = .ok (.if_icmp .le 5, 3) := by decide +kernel
theorem dX11_yes_31 : decode cX11_yes 31 = .ok (.iconst (-1), 1) := by decide +kernel
theorem dX11_yes_32 : decode cX11_yes 32 = .ok (.ireturn, 1) := by decide +kernel
theorem dX11_yes_33 : decode cX11_yes 33 = .ok (.iload_n 2, 1) := by decide +kernel
theorem dX11_yes_34 : decode cX11_yes 34 = .ok (.iload_n 1, 1) := by decide +kernel
theorem dX11_yes_35 : decode cX11_yes 35 = .ok (.if_icmp .ne 5, 3) := by decide +kernel
theorem dX11_yes_38 : decode cX11_yes 38 = .ok (.iconst 1, 1) := by decide +kernel
theorem dX11_yes_39 : decode cX11_yes 39 = .ok (.ireturn, 1) := by decide +kernel
theorem dX11_yes_40 : decode cX11_yes 40 = .ok (.aload_n 0, 1) := by decide +kernel
theorem dX11_yes_41 : decode cX11_yes 41 = .ok (.iload_n 1, 1) := by decide +kernel
theorem dX11_yes_42 : decode cX11_yes 42 = .ok (.invokevirtual 166, 3) := by decide +kernel
theorem dX11_yes_45 : decode cX11_yes 45 = .ok (.aload_n 0, 1) := by decide +kernel
theorem dX11_yes_46 : decode cX11_yes 46 = .ok (.iload_n 1, 1) := by decide +kernel
theorem dX11_yes_47 : decode cX11_yes 47 = .ok (.iload_n 2, 1) := by decide +kernel
theorem dX11_yes_48 : decode cX11_yes 48 = .ok (.iload_n 3, 1) := by decide +kernel
theorem dX11_yes_49 : decode cX11_yes 49 = .ok (.invokevirtual 162, 3) := by decide +kernel
theorem dX11_yes_52 : decode cX11_yes 52 = .ok (.aload_n 0, 1) := by decide +kernel
theorem dX11_yes_53 : decode cX11_yes 53 = .ok (.iconst 2, 1) := by decide +kernel
theorem dX11_yes_54 : decode cX11_yes 54 = .ok (.bipush 10, 2) := by decide +kernel
theorem dX11_yes_56 : decode cX11_yes 56 = .ok (.iload_n 2, 1) := by decide +kernel
theorem dX11_yes_57 : decode cX11_yes 57 = .ok (.iadd, 1) := by decide +kernel
theorem dX11_yes_58 : decode cX11_yes 58 = .ok (.invokevirtual 106, 3) := by decide +kernel
theorem dX11_yes_61 : decode cX11_yes 61 = .ok (.ifCond .lt 7, 3) := by decide +kernel
theorem dX11_yes_64 : decode cX11_yes 64 = .ok (.iconst 1, 1) := by decide +kernel
theorem dX11_yes_65 : decode cX11_yes 65 = .ok (.goto 4, 3) := by decide +kernel
theorem dX11_yes_68 : decode cX11_yes 68 = .ok (.iconst 0, 1) := by decide +kernel
theorem dX11_yes_69 : decode cX11_yes 69 = .ok (.ireturn, 1) := by decide +kernel
theorem dX11_happen_0 : decode cX11_happen 0 = .ok (.iload_n 2, 1) := by decide +kernel
theorem dX11_happen_1 : decode cX11_happen 1 = .ok (.iconst 1, 1) := by decide +kernel
theorem dX11_happen_2 : decode cX11_happen 2 = .ok (.if_icmp .lt 18, 3) := by decide +kernel
theorem dX11_happen_5 : decode cX11_happen 5 = .ok (.iload_n 2, 1) := by decide +kernel
theorem dX11_happen_6 : decode cX11_happen 6 = .ok (.bipush 100, 2) := by decide +kernel
theorem dX11_happen_8 : decode cX11_happen 8 = .ok (.if_icmp .gt 12, 3) := by decide +kernel
theorem dX11_happen_11 : decode cX11_happen 11 = .ok (.iload_n 1, 1) := by decide +kernel
theorem dX11_happen_12 : decode cX11_happen 12 = .ok (.ifCond .lt 8, 3) := by decide +kernel
theorem dX11_happen_15 : decode cX11_happen 15 = .ok (.iload_n 1, 1) := by decide +kernel
theorem dX11_happen_16 : decode cX11_happen 16 = .ok (.iload_n 2, 1) := by decide +kernel
theorem dX11_happen_17 : decode cX11_happen 17 = .ok (.if_icmp .le 6, 3) := by decide +kernel
theorem dX11_happen_20 : decode cX11_happen 20 = .ok (.bipush (-2), 2) := by decide +kernel
theorem dX11_happen_22 : decode cX11_happen 22 = .ok (.ireturn, 1) := by decide +kernel
theorem dX11_happen_23 : decode cX11_happen 23 = .ok (.aload_n 0, 1) := by decide +kernel
theorem dX11_happen_24 : decode cX11_happen 24 = .ok (.getfield 169, 3) := by decide +kernel
theorem dX11_happen_27 : decode cX11_happen 27 = .ok (.bipush 20, 2) := by decide +kernel
theorem dX11_happen_29 : decode cX11_happen 29 = .ok (.if_icmp .ne 6, 3) := by decide +kernel
theorem dX11_happen_32 : decode cX11_happen 32 = .ok (.bipush (-8), 2) := by decide +kernel
theorem dX11_happen_34 : decode cX11_happen 34 = .ok (.ireturn, 1) := by decide +kernel
theorem dX11_happen_35 : decode cX11_happen 35 = .ok (.aload_n 0, 1) := by decide +kernel
theorem dX11_happen_36 : decode cX11_happen 36 = .ok (.getfield 45, 3) := by decide +kernel
theorem dX11_happen_39 : decode cX11_happen 39 = .ok (.aload_n 0, 1) := by decide +kernel
theorem dX11_happen_40 : decode cX11_happen 40 = .ok (.getfield 169, 3) := by decide +kernel
theorem dX11_happen_43 : decode cX11_happen 43 = .ok (.iload_n 1, 1) := by decide +kernel
theorem dX11_happen_44 : decode cX11_happen 44 = .ok (.iastore, 1) := by decide +kernel
theorem dX11_happen_45 : decode cX11_happen 45 = .ok (.aload_n 0, 1) := by decide +kernel
theorem dX11_happen_46 : decode cX11_happen 46 = .ok (.getfield 48, 3) := by decide +kernel
theorem dX11_happen_49 : decode cX11_happen 49 = .ok (.aload_n 0, 1) := by decide +kernel
theorem dX11_happen_50 : decode cX11_happen 50 = .ok (.getfield 169, 3) := by decide +kernel
theorem dX11_happen_53 : decode cX11_happen 53 = .ok (.iload_n 2, 1) := by decide +kernel
theorem dX11_happen_54 : decode cX11_happen 54 = .ok (.iastore, 1) := by decide +kernel
theorem dX11_happen_55 : decode cX11_happen 55 = .ok (.aload_n 0, 1) := by decide +kernel
theorem dX11_happen_56 : decode cX11_happen 56 = .ok (.dup, 1) := by decide +kernel
theorem dX11_happen_57 : decode cX11_happen 57 = .ok (.getfield 169, 3) := by decide +kernel
theorem dX11_happen_60 : decode cX11_happen 60 = .ok (.iconst 1, 1) := by decide +kernel
theorem dX11_happen_61 : decode cX11_happen 61 = .ok (.iadd, 1) := by decide +kernel
theorem dX11_happen_62 : decode cX11_happen 62 = .ok (.putfield 169, 3) := by decide +kernel
theorem dX11_happen_65 : decode cX11_happen 65 = .ok (.aload_n 0, 1) := by decide +kernel
theorem dX11_happen_66 : decode cX11_happen 66 = .ok (.getfield 169, 3) := by decide +kernel
theorem dX11_happen_69 : decode cX11_happen 69 = .ok (.iconst 1, 1) := by decide +kernel
theorem dX11_happen_70 : decode cX11_happen 70 = .ok (.isub, 1) := by decide +kernel
theorem dX11_happen_71 : decode cX11_happen 71 = .ok (.ireturn, 1) := by decide +kernel
theorem dX11_forget_0 : decode cX11_forget 0 = .ok (.aload_n 0, 1) := by decide +kernel
theorem dX11_forget_1 : decode cX11_forget 1 = .ok (.getfield 169, 3) := by decide +kernel
theorem dX11_forget_4 : decode cX11_forget 4 = .ok (.istore_n 1, 1) := by decide +kernel
theorem dX11_forget_5 : decode cX11_forget 5 = .ok (.aload_n 0, 1) := by decide +kernel
theorem dX11_forget_6 : decode cX11_forget 6 = .ok (.iconst 0, 1) := by decide +kernel
theorem dX11_forget_7 : decode cX11_forget 7 = .ok (.putfield 169, 3) := by decide +kernel
theorem dX11_forget_10 : decode cX11_forget 10 = .ok (.iload_n 1, 1) := by decide +kernel
theorem dX11_forget_11 : decode cX11_forget 11 = .ok (.ireturn, 1) := by decide +kernel
set_option maxRecDepth 20000 in
theorem ggX11_last_X11_set : GoodIn wsX11_last wsX11_set := goodIn_r _ [8, 9, 10, 11, 12, 7, 13, 14, 15, 16, 17, 18, 19, 20, 21, 61, 62, 63, 64, 65, 66, 67, 68, 69, 70, 71, 72, 73, 74, 75, 76, 77, 78, 79, 80, 81] (by decide +kernel) (by decide +kernel)
set_option maxRecDepth 20000 in
theorem gX11_last_X11_set : GoodIn wsX11_last (wsV RX11 60 RX11 yX11_set wsX11_set) := goodIn_app (goodIn_of _ (by decide +kernel)) ggX11_last_X11_set
set_option maxRecDepth 20000 in
theorem ggX11_last_X11_times : GoodIn wsX11_last wsX11_times := goodIn_r _ [25, 9, 10, 11, 12, 7, 13, 14, 15, 16, 17, 18, 19, 20, 21, 61, 62, 63, 64, 65, 66, 67, 68, 69, 70, 71, 72, 73, 74, 75, 76, 77, 78, 79, 80, 81] (by decide +kernel) (by decide +kernel)
set_option maxRecDepth 20000 in
theorem gX11_last_X11_times : GoodIn wsX11_last (wsV RX11 93 RX11 yX11_times wsX11_times) := goodIn_app (goodIn_of _ (by decide +kernel)) ggX11_last_X11_times
set_option maxRecDepth 20000 in
theorem ggX11_last_X11_more : GoodIn wsX11_last wsX11_more := goodIn_r _ [29, 9, 10, 11, 12, 7, 13, 14, 15, 16, 17, 18, 19, 20, 21, 61, 62, 63, 64, 65, 66, 67, 68, 69, 70, 71, 72, 73, 74, 75, 76, 77, 78, 79, 80, 81] (by decide +kernel) (by decide +kernel)
set_option maxRecDepth 20000 in
theorem gX11_last_X11_more : GoodIn wsX11_last (wsV RX11 87 RX11 yX11_more wsX11_more) := goodIn_app (goodIn_of _ (by decide +kernel)) ggX11_last_X11_more
set_option maxRecDepth 20000 in
theorem ggX11_last_X11_copy : GoodIn wsX11_last wsX11_copy := goodIn_r _ [33, 9, 61, 62, 63, 64, 65, 66, 67, 68, 69, 70, 71, 72, 73, 74, 75, 76, 77, 78, 79, 80, 81] (by decide +kernel) (by decide +kernel)
set_option maxRecDepth 20000 in
theorem gX11_last_X11_copy : GoodIn wsX11_last (wsV RX11 83 RX11 yX11_copy wsX11_copy) := goodIn_app (goodIn_of _ (by decide +kernel)) ggX11_last_X11_copy
set_option maxRecDepth 20000 in
theorem ggX11_last_X11_compared : GoodIn wsX11_last wsX11_compared := goodIn_r _ [37, 9, 61, 62, 63, 64, 65, 66, 67, 68, 69, 70, 71, 72, 73, 74, 75, 76, 77, 78, 79, 80, 81] (by decide +kernel) (by decide +kernel)
set_option maxRecDepth 20000 in
theorem gX11_last_X11_compared : GoodIn wsX11_last (wsV RX11 106 RX11 yX11_compared wsX11_compared) := goodIn_app (goodIn_of _ (by decide +kernel)) ggX11_last_X11_compared
set_option maxRecDepth 20000 in
theorem ggX11_last_X11_result : GoodIn wsX11_last wsX11_result := goodIn_r _ [41, 9, 42, 43, 30, 31, 32, 7, 33, 22, 23, 24, 25, 10, 11, 12, 13, 14, 15, 16, 17, 18, 19, 20, 21, 44, 45, 46, 47, 4, 5, 6, 8, 48, 49, 50, 51, 52, 53, 54, 55, 34, 35, 36, 37, 26, 27, 28, 29, 56, 57, 58, 59, 60, 61, 62, 63, 64, 65, 66, 67, 68, 69, 70, 71, 72, 73, 74, 75, 76, 77, 78, 79, 80, 81] (by decide +kernel) (by decide +kernel)
set_option maxRecDepth 20000 in
theorem gX11_last_X11_result : GoodIn wsX11_last (wsV RX11 137 RX11 yX11_result wsX11_result) := goodIn_app (goodIn_of _ (by decide +kernel)) ggX11_last_X11_result
theorem dX11_last_0 : decode cX11_last 0 = .ok (.aload_n 0, 1) := by decide +kernel
theorem dX11_last_1 : decode cX11_last 1 = .ok (.getfield 169, 3) := by decide +kernel
theorem dX11_last_4 : decode cX11_last 4 = .ok (.ifCond .ne 5, 3) := by decide +kernel
theorem dX11_last_7 : decode cX11_last 7 = .ok (.iconst (-1), 1) := by decide +kernel
theorem dX11_last_8 : decode cX11_last 8 = .ok (.ireturn, 1) := by decide +kernel
theorem dX11_last_9 : decode cX11_last 9 = .ok (.iconst (-1), 1) := by decide +kernel
theorem dX11_last_10 : decode cX11_last 10 = .ok (.istore_n 1, 1) := by decide +kernel
theorem dX11_last_11 : decode cX11_last 11 = .ok (.aload_n 0, 1) := by decide +kernel
theorem dX11_last_12 : decode cX11_last 12 = .ok (.iconst 2, 1) := by decide +kernel
theorem dX11_last_13 : decode cX11_last 13 = .ok (.lconst 1, 1) := by decide +kernel
theorem dX11_last_14 : decode cX11_last 14 = .ok (.invokevirtual 60, 3) := by decide +kernel
theorem dX11_last_17 : decode cX11_last 17 = .ok (.aload_n 0, 1) := by decide +kernel
theorem dX11_last_18 : decode cX11_last 18 = .ok (.iconst 3, 1) := by decide +kernel
theorem dX11_last_19 : decode cX11_last 19 = .ok (.lconst 0, 1) := by decide +kernel
theorem dX11_last_20 : decode cX11_last 20 = .ok (.invokevirtual 60, 3) := by decide +kernel
theorem dX11_last_23 : decode cX11_last 23 = .ok (.aload_n 0, 1) := by decide +kernel
theorem dX11_last_24 : decode cX11_last 24 = .ok (.getfield 169, 3) := by decide +kernel
theorem dX11_last_27 : decode cX11_last 27 = .ok (.iconst 1, 1) := by decide +kernel
theorem dX11_last_28 : decode cX11_last 28 = .ok (.isub, 1) := by decide +kernel
theorem dX11_last_29 : decode cX11_last 29 = .ok (.istore_n 2, 1) := by decide +kernel
theorem dX11_last_30 : decode cX11_last 30 = .ok (.iload_n 2, 1) := by decide +kernel
theorem dX11_last_31 : decode cX11_last 31 = .ok (.ifCond .lt 107, 3) := by decide +kernel
theorem dX11_last_34 : decode cX11_last 34 = .ok (.aload_n 0, 1) := by decide +kernel
theorem dX11_last_35 : decode cX11_last 35 = .ok (.getfield 48, 3) := by decide +kernel
theorem dX11_last_38 : decode cX11_last 38 = .ok (.iload_n 2, 1) := by decide +kernel
theorem dX11_last_39 : decode cX11_last 39 = .ok (.iaload, 1) := by decide +kernel
theorem dX11_last_40 : decode cX11_last 40 = .ok (.aload_n 0, 1) := by decide +kernel
theorem dX11_last_41 : decode cX11_last 41 = .ok (.getfield 45, 3) := by decide +kernel
theorem dX11_last_44 : decode cX11_last 44 = .ok (.iload_n 2, 1) := by decide +kernel
theorem dX11_last_45 : decode cX11_last 45 = .ok (.iaload, 1) := by decide +kernel
theorem dX11_last_46 : decode cX11_last 46 = .ok (.isub, 1) := by decide +kernel
theorem dX11_last_47 : decode cX11_last 47 = .ok (.i2l, 1) := by decide +kernel
theorem dX11_last_48 : decode cX11_last 48 = .ok (.lstore_n 3, 1) := by decide +kernel
theorem dX11_last_49 : decode cX11_last 49 = .ok (.aload_n 0, 1) := by decide +kernel
theorem dX11_last_50 : decode cX11_last 50 = .ok (.iconst 3, 1) := by decide +kernel
theorem dX11_last_51 : decode cX11_last 51 = .ok (.lload_n 3, 1) := by decide +kernel
theorem dX11_last_52 : decode cX11_last 52 = .ok (.invokevirtual 93, 3) := by decide +kernel
theorem dX11_last_55 : decode cX11_last 55 = .ok (.aload_n 0, 1) := by decide +kernel
theorem dX11_last_56 : decode cX11_last 56 = .ok (.iconst 3, 1) := by decide +kernel
theorem dX11_last_57 : decode cX11_last 57 = .ok (.iconst 2, 1) := by decide +kernel
theorem dX11_last_58 : decode cX11_last 58 = .ok (.aload_n 0, 1) := by decide +kernel
theorem dX11_last_59 : decode cX11_last 59 = .ok (.getfield 45, 3) := by decide +kernel
theorem dX11_last_62 : decode cX11_last 62 = .ok (.iload_n 2, 1) := by decide +kernel
theorem dX11_last_63 : decode cX11_last 63 = .ok (.iaload, 1) := by decide +kernel
theorem dX11_last_64 : decode cX11_last 64 = .ok (.i2l, 1) := by decide +kernel
theorem dX11_last_65 : decode cX11_last 65 = .ok (.invokevirtual 87, 3) := by decide +kernel
theorem dX11_last_68 : decode cX11_last 68 = .ok (.aload_n 0, 1) := by decide +kernel
theorem dX11_last_69 : decode cX11_last 69 = .ok (.iconst 2, 1) := by decide +kernel
theorem dX11_last_70 : decode cX11_last 70 = .ok (.lload_n 3, 1) := by decide +kernel
theorem dX11_last_71 : decode cX11_last 71 = .ok (.invokevirtual 93, 3) := by decide +kernel
theorem dX11_last_74 : decode cX11_last 74 = .ok (.aload_n 0, 1) := by decide +kernel
theorem dX11_last_75 : decode cX11_last 75 = .ok (.iconst 4, 1) := by decide +kernel
theorem dX11_last_76 : decode cX11_last 76 = .ok (.iconst 3, 1) := by decide +kernel
theorem dX11_last_77 : decode cX11_last 77 = .ok (.invokevirtual 83, 3) := by decide +kernel
theorem dX11_last_80 : decode cX11_last 80 = .ok (.iconst 0, 1) := by decide +kernel
theorem dX11_last_81 : decode cX11_last 81 = .ok (.istore 5, 2) := by decide +kernel
theorem dX11_last_83 : decode cX11_last 83 = .ok (.iload 5, 2) := by decide +kernel
theorem dX11_last_85 : decode cX11_last 85 = .ok (.iload_n 2, 1) := by decide +kernel
theorem dX11_last_86 : decode cX11_last 86 = .ok (.if_icmp .ge 22, 3) := by decide +kernel
theorem dX11_last_89 : decode cX11_last 89 = .ok (.aload_n 0, 1) := by decide +kernel
theorem dX11_last_90 : decode cX11_last 90 = .ok (.iconst 4, 1) := by decide +kernel
theorem dX11_last_91 : decode cX11_last 91 = .ok (.aload_n 0, 1) := by decide +kernel
theorem dX11_last_92 : decode cX11_last 92 = .ok (.getfield 48, 3) := by decide +kernel
theorem dX11_last_95 : decode cX11_last 95 = .ok (.iload 5, 2) := by decide +kernel
theorem dX11_last_97 : decode cX11_last 97 = .ok (.iaload, 1) := by decide +kernel
theorem dX11_last_98 : decode cX11_last 98 = .ok (.i2l, 1) := by decide +kernel
theorem dX11_last_99 : decode cX11_last 99 = .ok (.invokevirtual 93, 3) := by decide +kernel
theorem dX11_last_102 : decode cX11_last 102 = .ok (.iinc 5 1, 3) := by decide +kernel
theorem dX11_last_105 : decode cX11_last 105 = .ok (.goto (-22), 3) := by decide +kernel
theorem dX11_last_108 : decode cX11_last 108 = .ok (.iload_n 1, 1) := by decide +kernel
theorem dX11_last_109 : decode cX11_last 109 = .ok (.iconst (-1), 1) := by decide +kernel
theorem dX11_last_110 : decode cX11_last 110 = .ok (.if_icmp .eq 13, 3) := by decide +kernel
theorem dX11_last_113 : decode cX11_last 113 = .ok (.aload_n 0, 1) := by decide +kernel
theorem dX11_last_114 : decode cX11_last 114 = .ok (.iconst 4, 1) := by decide +kernel
theorem dX11_last_115 : decode cX11_last 115 = .ok (.bipush 10, 2) := by decide +kernel
theorem dX11_last_117 : decode cX11_last 117 = .ok (.invokevirtual 106, 3) := by decide +kernel
theorem dX11_last_120 : decode cX11_last 120 = .ok (.ifCond .le 12, 3) := by decide +kernel
theorem dX11_last_123 : decode cX11_last 123 = .ok (.aload_n 0, 1) := by decide +kernel
theorem dX11_last_124 : decode cX11_last 124 = .ok (.bipush 10, 2) := by decide +kernel
theorem dX11_last_126 : decode cX11_last 126 = .ok (.iconst 4, 1) := by decide +kernel
theorem dX11_last_127 : decode cX11_last 127 = .ok (.invokevirtual 83, 3) := by decide +kernel
theorem dX11_last_130 : decode cX11_last 130 = .ok (.iload_n 2, 1) := by decide +kernel
theorem dX11_last_131 : decode cX11_last 131 = .ok (.istore_n 1, 1) := by decide +kernel
theorem dX11_last_132 : decode cX11_last 132 = .ok (.iinc 2 (-1), 3) := by decide +kernel
theorem dX11_last_135 : decode cX11_last 135 = .ok (.goto (-105), 3) := by decide +kernel
theorem dX11_last_138 : decode cX11_last 138 = .ok (.aload_n 0, 1) := by decide +kernel
theorem dX11_last_139 : decode cX11_last 139 = .ok (.bipush 11, 2) := by decide +kernel
theorem dX11_last_141 : decode cX11_last 141 = .ok (.lconst 1, 1) := by decide +kernel
theorem dX11_last_142 : decode cX11_last 142 = .ok (.invokevirtual 60, 3) := by decide +kernel
theorem dX11_last_145 : decode cX11_last 145 = .ok (.iconst 0, 1) := by decide +kernel
theorem dX11_last_146 : decode cX11_last 146 = .ok (.istore_n 2, 1) := by decide +kernel
theorem dX11_last_147 : decode cX11_last 147 = .ok (.iload_n 2, 1) := by decide +kernel
theorem dX11_last_148 : decode cX11_last 148 = .ok (.aload_n 0, 1) := by decide +kernel
theorem dX11_last_149 : decode cX11_last 149 = .ok (.getfield 169, 3) := by decide +kernel
theorem dX11_last_152 : decode cX11_last 152 = .ok (.if_icmp .ge 22, 3) := by decide +kernel
theorem dX11_last_155 : decode cX11_last 155 = .ok (.aload_n 0, 1) := by decide +kernel
theorem dX11_last_156 : decode cX11_last 156 = .ok (.bipush 11, 2) := by decide +kernel
theorem dX11_last_158 : decode cX11_last 158 = .ok (.aload_n 0, 1) := by decide +kernel
theorem dX11_last_159 : decode cX11_last 159 = .ok (.getfield 48, 3) := by decide +kernel
theorem dX11_last_162 : decode cX11_last 162 = .ok (.iload_n 2, 1) := by decide +kernel
theorem dX11_last_163 : decode cX11_last 163 = .ok (.iaload, 1) := by decide +kernel
theorem dX11_last_164 : decode cX11_last 164 = .ok (.i2l, 1) := by decide +kernel
theorem dX11_last_165 : decode cX11_last 165 = .ok (.invokevirtual 93, 3) := by decide +kernel
theorem dX11_last_168 : decode cX11_last 168 = .ok (.iinc 2 1, 3) := by decide +kernel
theorem dX11_last_171 : decode cX11_last 171 = .ok (.goto (-24), 3) := by decide +kernel
theorem dX11_last_174 : decode cX11_last 174 = .ok (.aload_n 0, 1) := by decide +kernel
theorem dX11_last_175 : decode cX11_last 175 = .ok (.bipush 10, 2) := by decide +kernel
theorem dX11_last_177 : decode cX11_last 177 = .ok (.bipush 11, 2) := by decide +kernel
theorem dX11_last_179 : decode cX11_last 179 = .ok (.invokevirtual 137, 3) := by decide +kernel
theorem dX11_last_182 : decode cX11_last 182 = .ok (.iload_n 1, 1) := by decide +kernel
theorem dX11_last_183 : decode cX11_last 183 = .ok (.ireturn, 1) := by decide +kernel
set_option maxRecDepth 20000 in
theorem ggX11_box_X11_isBook : GoodIn wsX11_box wsX11_isBook := goodIn_r _ [8, 9, 10, 11, 12, 13, 14, 15, 16, 17, 18, 19, 20, 21, 22, 23, 24, 25, 26, 27, 28, 29, 30] (by decide +kernel) (by decide +kernel)
set_option maxRecDepth 20000 in
theorem gX11_box_X11_isBook : GoodIn wsX11_box (wsV RX11 124 RX11 yX11_isBook wsX11_isBook) := goodIn_app (goodIn_of _ (by decide +kernel)) ggX11_box_X11_isBook
theorem dX11_box_0 : decode cX11_box 0 = .ok (.aload_n 0, 1) := by decide +kernel
theorem dX11_box_1 : decode cX11_box 1 = .ok (.iload_n 1, 1) := by decide +kernel
theorem dX11_box_2 : decode cX11_box 2 = .ok (.invokevirtual 124, 3) := by decide +kernel
theorem dX11_box_5 : decode cX11_box 5 = .ok (.ifCond .eq 14, 3) := by decide +kernel
theorem dX11_box_8 : decode cX11_box 8 = .ok (.iload_n 2, 1) := by decide +kernel
theorem dX11_box_9 : decode cX11_box 9 = .ok (.ifCond .lt 10, 3) := by decide +kernel
theorem dX11_box_12 : decode cX11_box 12 = .ok (.iload_n 2, 1) := by decide +kernel
theorem dX11_box_13 : decode cX11_box 13 = .ok (.sipush 1000, 3) := by decide +kernel
theorem dX11_box_16 : decode cX11_box 16 = .ok (.if_icmp .le 6, 3) := by decide +kernel
theorem dX11_box_19 : decode cX11_box 19 = .ok (.bipush (-2), 2) := by decide +kernel
theorem dX11_box_21 : decode cX11_box 21 = .ok (.ireturn, 1) := by decide +kernel
theorem dX11_box_22 : decode cX11_box 22 = .ok (.aload_n 0, 1) := by decide +kernel
theorem dX11_box_23 : decode cX11_box 23 = .ok (.getfield 172, 3) := by decide +kernel
theorem dX11_box_26 : decode cX11_box 26 = .ok (.bipush 6, 2) := by decide +kernel
theorem dX11_box_28 : decode cX11_box 28 = .ok (.if_icmp .ne 6, 3) := by decide +kernel
theorem dX11_box_31 : decode cX11_box 31 = .ok (.bipush (-8), 2) := by decide +kernel
theorem dX11_box_33 : decode cX11_box 33 = .ok (.ireturn, 1) := by decide +kernel
theorem dX11_box_34 : decode cX11_box 34 = .ok (.aload_n 0, 1) := by decide +kernel
theorem dX11_box_35 : decode cX11_box 35 = .ok (.getfield 51, 3) := by decide +kernel
theorem dX11_box_38 : decode cX11_box 38 = .ok (.aload_n 0, 1) := by decide +kernel
theorem dX11_box_39 : decode cX11_box 39 = .ok (.getfield 172, 3) := by decide +kernel
theorem dX11_box_42 : decode cX11_box 42 = .ok (.iload_n 1, 1) := by decide +kernel
theorem dX11_box_43 : decode cX11_box 43 = .ok (.iastore, 1) := by decide +kernel
theorem dX11_box_44 : decode cX11_box 44 = .ok (.aload_n 0, 1) := by decide +kernel
theorem dX11_box_45 : decode cX11_box 45 = .ok (.getfield 54, 3) := by decide +kernel
theorem dX11_box_48 : decode cX11_box 48 = .ok (.aload_n 0, 1) := by decide +kernel
theorem dX11_box_49 : decode cX11_box 49 = .ok (.getfield 172, 3) := by decide +kernel
theorem dX11_box_52 : decode cX11_box 52 = .ok (.iload_n 2, 1) := by decide +kernel
theorem dX11_box_53 : decode cX11_box 53 = .ok (.iastore, 1) := by decide +kernel
theorem dX11_box_54 : decode cX11_box 54 = .ok (.aload_n 0, 1) := by decide +kernel
theorem dX11_box_55 : decode cX11_box 55 = .ok (.dup, 1) := by decide +kernel
theorem dX11_box_56 : decode cX11_box 56 = .ok (.getfield 172, 3) := by decide +kernel
theorem dX11_box_59 : decode cX11_box 59 = .ok (.iconst 1, 1) := by decide +kernel
theorem dX11_box_60 : decode cX11_box 60 = .ok (.iadd, 1) := by decide +kernel
theorem dX11_box_61 : decode cX11_box 61 = .ok (.putfield 172, 3) := by decide +kernel
theorem dX11_box_64 : decode cX11_box 64 = .ok (.aload_n 0, 1) := by decide +kernel
theorem dX11_box_65 : decode cX11_box 65 = .ok (.getfield 172, 3) := by decide +kernel
theorem dX11_box_68 : decode cX11_box 68 = .ok (.iconst 1, 1) := by decide +kernel
theorem dX11_box_69 : decode cX11_box 69 = .ok (.isub, 1) := by decide +kernel
theorem dX11_box_70 : decode cX11_box 70 = .ok (.ireturn, 1) := by decide +kernel
theorem dX11_empty_0 : decode cX11_empty 0 = .ok (.aload_n 0, 1) := by decide +kernel
theorem dX11_empty_1 : decode cX11_empty 1 = .ok (.getfield 172, 3) := by decide +kernel
theorem dX11_empty_4 : decode cX11_empty 4 = .ok (.istore_n 1, 1) := by decide +kernel
theorem dX11_empty_5 : decode cX11_empty 5 = .ok (.aload_n 0, 1) := by decide +kernel
theorem dX11_empty_6 : decode cX11_empty 6 = .ok (.iconst 0, 1) := by decide +kernel
theorem dX11_empty_7 : decode cX11_empty 7 = .ok (.putfield 172, 3) := by decide +kernel
theorem dX11_empty_10 : decode cX11_empty 10 = .ok (.iload_n 1, 1) := by decide +kernel
theorem dX11_empty_11 : decode cX11_empty 11 = .ok (.ireturn, 1) := by decide +kernel
set_option maxRecDepth 20000 in
theorem ggX11_fair_X11_weightOf : GoodIn wsX11_fair wsX11_weightOf := goodIn_r _ [9, 10, 11, 12, 69, 70, 71, 72, 73, 74, 75, 76, 77, 78, 79, 80, 81, 82, 83, 84, 85, 86, 87, 88, 89] (by decide +kernel) (by decide +kernel)
set_option maxRecDepth 20000 in
theorem gX11_fair_X11_weightOf : GoodIn wsX11_fair (wsV RX11 130 RX11 yX11_weightOf wsX11_weightOf) := goodIn_app (goodIn_of _ (by decide +kernel)) ggX11_fair_X11_weightOf
set_option maxRecDepth 20000 in
theorem ggX11_fair_X11_set : GoodIn wsX11_fair wsX11_set := goodIn_r _ [16, 17, 18, 19, 20, 8, 21, 22, 23, 24, 25, 26, 27, 28, 29, 69, 70, 71, 72, 73, 74, 75, 76, 77, 78, 79, 80, 81, 82, 83, 84, 85, 86, 87, 88, 89] (by decide +kernel) (by decide +kernel)
set_option maxRecDepth 20000 in
theorem gX11_fair_X11_set : GoodIn wsX11_fair (wsV RX11 60 RX11 yX11_set wsX11_set) := goodIn_app (goodIn_of _ (by decide +kernel)) ggX11_fair_X11_set
set_option maxRecDepth 20000 in
theorem ggX11_fair_X11_result : GoodIn wsX11_fair wsX11_result := goodIn_r _ [33, 17, 34, 35, 36, 37, 38, 8, 39, 40, 41, 42, 43, 18, 19, 20, 21, 22, 23, 24, 25, 26, 27, 28, 29, 44, 45, 46, 47, 13, 14, 15, 16, 48, 49, 50, 51, 52, 53, 54, 55, 56, 57, 58, 59, 60, 61, 62, 63, 64, 65, 66, 67, 68, 69, 70, 71, 72, 73, 74, 75, 76, 77, 78, 79, 80, 81, 82, 83, 84, 85, 86, 87, 88, 89] (by decide +kernel) (by decide +kernel)
set_option maxRecDepth 20000 in
theorem gX11_fair_X11_result : GoodIn wsX11_fair (wsV RX11 137 RX11 yX11_result wsX11_result) := goodIn_app (goodIn_of _ (by decide +kernel)) ggX11_fair_X11_result
theorem dX11_fair_0 : decode cX11_fair 0 = .ok (.iload_n 1, 1) := by decide +kernel
theorem dX11_fair_1 : decode cX11_fair 1 = .ok (.ifCond .lt 11, 3) := by decide +kernel
theorem dX11_fair_4 : decode cX11_fair 4 = .ok (.iload_n 1, 1) := by decide +kernel
theorem dX11_fair_5 : decode cX11_fair 5 = .ok (.aload_n 0, 1) := by decide +kernel
theorem dX11_fair_6 : decode cX11_fair 6 = .ok (.getfield 172, 3) := by decide +kernel
theorem dX11_fair_9 : decode cX11_fair 9 = .ok (.if_icmp .lt 5, 3) := by decide +kernel
theorem dX11_fair_12 : decode cX11_fair 12 = .ok (.iconst 0, 1) := by decide +kernel
theorem dX11_fair_13 : decode cX11_fair 13 = .ok (.ireturn, 1) := by decide +kernel
theorem dX11_fair_14 : decode cX11_fair 14 = .ok (.aload_n 0, 1) := by decide +kernel
theorem dX11_fair_15 : decode cX11_fair 15 = .ok (.getfield 51, 3) := by decide +kernel
theorem dX11_fair_18 : decode cX11_fair 18 = .ok (.iload_n 1, 1) := by decide +kernel
theorem dX11_fair_19 : decode cX11_fair 19 = .ok (.iaload, 1) := by decide +kernel
theorem dX11_fair_20 : decode cX11_fair 20 = .ok (.istore_n 2, 1) := by decide +kernel
theorem dX11_fair_21 : decode cX11_fair 21 = .ok (.aload_n 0, 1) := by decide +kernel
theorem dX11_fair_22 : decode cX11_fair 22 = .ok (.getfield 54, 3) := by decide +kernel
theorem dX11_fair_25 : decode cX11_fair 25 = .ok (.iload_n 1, 1) := by decide +kernel
theorem dX11_fair_26 : decode cX11_fair 26 = .ok (.iaload, 1) := by decide +kernel
theorem dX11_fair_27 : decode cX11_fair 27 = .ok (.i2l, 1) := by decide +kernel
theorem dX11_fair_28 : decode cX11_fair 28 = .ok (.aload_n 0, 1) := by decide +kernel
theorem dX11_fair_29 : decode cX11_fair 29 = .ok (.getfield 33, 3) := by decide +kernel
theorem dX11_fair_32 : decode cX11_fair 32 = .ok (.iload_n 2, 1) := by decide +kernel
theorem dX11_fair_33 : decode cX11_fair 33 = .ok (.iaload, 1) := by decide +kernel
theorem dX11_fair_34 : decode cX11_fair 34 = .ok (.i2l, 1) := by decide +kernel
theorem dX11_fair_35 : decode cX11_fair 35 = .ok (.lmul, 1) := by decide +kernel
theorem dX11_fair_36 : decode cX11_fair 36 = .ok (.lstore_n 3, 1) := by decide +kernel
theorem dX11_fair_37 : decode cX11_fair 37 = .ok (.lconst 0, 1) := by decide +kernel
theorem dX11_fair_38 : decode cX11_fair 38 = .ok (.lstore 5, 2) := by decide +kernel
theorem dX11_fair_40 : decode cX11_fair 40 = .ok (.lconst 0, 1) := by decide +kernel
theorem dX11_fair_41 : decode cX11_fair 41 = .ok (.lstore 7, 2) := by decide +kernel
theorem dX11_fair_43 : decode cX11_fair 43 = .ok (.sipush 1000, 3) := by decide +kernel
theorem dX11_fair_46 : decode cX11_fair 46 = .ok (.istore 9, 2) := by decide +kernel
theorem dX11_fair_48 : decode cX11_fair 48 = .ok (.iload 9, 2) := by decide +kernel
theorem dX11_fair_50 : decode cX11_fair 50 = .ok (.ifCond .lt 81, 3) := by decide +kernel
theorem dX11_fair_53 : decode cX11_fair 53 = .ok (.aload_n 0, 1) := by decide +kernel
theorem dX11_fair_54 : decode cX11_fair 54 = .ok (.iload_n 2, 1) := by decide +kernel
theorem dX11_fair_55 : decode cX11_fair 55 = .ok (.iload 9, 2) := by decide +kernel
theorem dX11_fair_57 : decode cX11_fair 57 = .ok (.iload 9, 2) := by decide +kernel
theorem dX11_fair_59 : decode cX11_fair 59 = .ok (.invokevirtual 130, 3) := by decide +kernel
theorem dX11_fair_62 : decode cX11_fair 62 = .ok (.istore 10, 2) := by decide +kernel
theorem dX11_fair_64 : decode cX11_fair 64 = .ok (.iload 10, 2) := by decide +kernel
theorem dX11_fair_66 : decode cX11_fair 66 = .ok (.ifCond .ne 6, 3) := by decide +kernel
theorem dX11_fair_69 : decode cX11_fair 69 = .ok (.goto 56, 3) := by decide +kernel
theorem dX11_fair_72 : decode cX11_fair 72 = .ok (.lload 7, 2) := by decide +kernel
theorem dX11_fair_74 : decode cX11_fair 74 = .ok (.lconst 0, 1) := by decide +kernel
theorem dX11_fair_75 : decode cX11_fair 75 = .ok (.lcmp, 1) := by decide +kernel
theorem dX11_fair_76 : decode cX11_fair 76 = .ok (.ifCond .le 20, 3) := by decide +kernel
theorem dX11_fair_79 : decode cX11_fair 79 = .ok (.lload 5, 2) := by decide +kernel
theorem dX11_fair_81 : decode cX11_fair 81 = .ok (.lload_n 3, 1) := by decide +kernel
theorem dX11_fair_82 : decode cX11_fair 82 = .ok (.lsub, 1) := by decide +kernel
theorem dX11_fair_83 : decode cX11_fair 83 = .ok (.iload 9, 2) := by decide +kernel
theorem dX11_fair_85 : decode cX11_fair 85 = .ok (.i2l, 1) := by decide +kernel
theorem dX11_fair_86 : decode cX11_fair 86 = .ok (.lload 7, 2) := by decide +kernel
theorem dX11_fair_88 : decode cX11_fair 88 = .ok (.lmul, 1) := by decide +kernel
theorem dX11_fair_89 : decode cX11_fair 89 = .ok (.lcmp, 1) := by decide +kernel
theorem dX11_fair_90 : decode cX11_fair 90 = .ok (.ifCond .lt 6, 3) := by decide +kernel
theorem dX11_fair_93 : decode cX11_fair 93 = .ok (.goto 38, 3) := by decide +kernel
theorem dX11_fair_96 : decode cX11_fair 96 = .ok (.lload 5, 2) := by decide +kernel
theorem dX11_fair_98 : decode cX11_fair 98 = .ok (.iload 9, 2) := by decide +kernel
theorem dX11_fair_100 : decode cX11_fair 100 = .ok (.i2l, 1) := by decide +kernel
theorem dX11_fair_101 : decode cX11_fair 101 = .ok (.iload 10, 2) := by decide +kernel
theorem dX11_fair_103 : decode cX11_fair 103 = .ok (.i2l, 1) := by decide +kernel
theorem dX11_fair_104 : decode cX11_fair 104 = .ok (.lmul, 1) := by decide +kernel
theorem dX11_fair_105 : decode cX11_fair 105 = .ok (.ladd, 1) := by decide +kernel
theorem dX11_fair_106 : decode cX11_fair 106 = .ok (.lstore 5, 2) := by decide +kernel
theorem dX11_fair_108 : decode cX11_fair 108 = .ok (.lload 7, 2) := by decide +kernel
theorem dX11_fair_110 : decode cX11_fair 110 = .ok (.iload 10, 2) := by decide +kernel
theorem dX11_fair_112 : decode cX11_fair 112 = .ok (.i2l, 1) := by decide +kernel
theorem dX11_fair_113 : decode cX11_fair 113 = .ok (.ladd, 1) := by decide +kernel
theorem dX11_fair_114 : decode cX11_fair 114 = .ok (.lstore 7, 2) := by decide +kernel
theorem dX11_fair_116 : decode cX11_fair 116 = .ok (.lload_n 3, 1) := by decide +kernel
theorem dX11_fair_117 : decode cX11_fair 117 = .ok (.lconst 0, 1) := by decide +kernel
theorem dX11_fair_118 : decode cX11_fair 118 = .ok (.lcmp, 1) := by decide +kernel
theorem dX11_fair_119 : decode cX11_fair 119 = .ok (.ifCond .ne 6, 3) := by decide +kernel
theorem dX11_fair_122 : decode cX11_fair 122 = .ok (.goto 9, 3) := by decide +kernel
theorem dX11_fair_125 : decode cX11_fair 125 = .ok (.iinc 9 (-1), 3) := by decide +kernel
theorem dX11_fair_128 : decode cX11_fair 128 = .ok (.goto (-80), 3) := by decide +kernel
theorem dX11_fair_131 : decode cX11_fair 131 = .ok (.aload_n 0, 1) := by decide +kernel
theorem dX11_fair_132 : decode cX11_fair 132 = .ok (.bipush 10, 2) := by decide +kernel
theorem dX11_fair_134 : decode cX11_fair 134 = .ok (.lload 5, 2) := by decide +kernel
theorem dX11_fair_136 : decode cX11_fair 136 = .ok (.lload_n 3, 1) := by decide +kernel
theorem dX11_fair_137 : decode cX11_fair 137 = .ok (.lsub, 1) := by decide +kernel
theorem dX11_fair_138 : decode cX11_fair 138 = .ok (.invokevirtual 60, 3) := by decide +kernel
theorem dX11_fair_141 : decode cX11_fair 141 = .ok (.aload_n 0, 1) := by decide +kernel
theorem dX11_fair_142 : decode cX11_fair 142 = .ok (.bipush 11, 2) := by decide +kernel
theorem dX11_fair_144 : decode cX11_fair 144 = .ok (.lload 7, 2) := by decide +kernel
theorem dX11_fair_146 : decode cX11_fair 146 = .ok (.invokevirtual 60, 3) := by decide +kernel
theorem dX11_fair_149 : decode cX11_fair 149 = .ok (.aload_n 0, 1) := by decide +kernel
theorem dX11_fair_150 : decode cX11_fair 150 = .ok (.bipush 10, 2) := by decide +kernel
theorem dX11_fair_152 : decode cX11_fair 152 = .ok (.bipush 11, 2) := by decide +kernel
theorem dX11_fair_154 : decode cX11_fair 154 = .ok (.invokevirtual 137, 3) := by decide +kernel
theorem dX11_fair_157 : decode cX11_fair 157 = .ok (.iconst 1, 1) := by decide +kernel
theorem dX11_fair_158 : decode cX11_fair 158 = .ok (.ireturn, 1) := by decide +kernel
theorem dX11_placeOf_0 : decode cX11_placeOf 0 = .ok (.iconst 0, 1) := by decide +kernel
theorem dX11_placeOf_1 : decode cX11_placeOf 1 = .ok (.istore_n 2, 1) := by decide +kernel
theorem dX11_placeOf_2 : decode cX11_placeOf 2 = .ok (.aload_n 0, 1) := by decide +kernel
theorem dX11_placeOf_3 : decode cX11_placeOf 3 = .ok (.getfield 57, 3) := by decide +kernel
theorem dX11_placeOf_6 : decode cX11_placeOf 6 = .ok (.iload_n 2, 1) := by decide +kernel
theorem dX11_placeOf_7 : decode cX11_placeOf 7 = .ok (.iaload, 1) := by decide +kernel
