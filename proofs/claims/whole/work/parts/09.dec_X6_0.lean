set_option maxRecDepth 20000 in
theorem ggX6_init_X5_init : GoodIn wsX6_init wsX5_init := goodIn_r _ [14, 15, 2, 3, 16, 17, 31] (by decide +kernel) (by decide +kernel)
set_option maxRecDepth 20000 in
theorem gX6_init_X5_init_n9 : GoodIn wsX6_init (wsX5_init) := ggX6_init_X5_init
set_option maxRecDepth 20000 in
theorem ggX6_init_X5_put : GoodIn wsX6_init wsX5_put := goodIn_r _ [21, 22, 23, 24, 25, 17, 26, 31] (by decide +kernel) (by decide +kernel)
set_option maxRecDepth 20000 in
theorem gX6_init_X5_put : GoodIn wsX6_init (wsV RX6 28 RX5 yX5_put wsX5_put) := goodIn_app (goodIn_of _ (by decide +kernel)) ggX6_init_X5_put
set_option maxRecDepth 20000 in
theorem ggX6_init_X5_times : GoodIn wsX6_init wsX5_times := goodIn_r _ [30, 17, 26, 31] (by decide +kernel) (by decide +kernel)
set_option maxRecDepth 20000 in
theorem gX6_init_X5_times : GoodIn wsX6_init (wsV RX6 36 RX5 yX5_times wsX5_times) := goodIn_app (goodIn_of _ (by decide +kernel)) ggX6_init_X5_times
theorem dX6_init_0 : decode cX6_init 0 = .ok (.aload_n 0, 1) := by decide +kernel
theorem dX6_init_1 : decode cX6_init 1 = .ok (.invokespecial 1, 3) := by decide +kernel
theorem dX6_init_4 : decode cX6_init 4 = .ok (.aload_n 0, 1) := by decide +kernel
theorem dX6_init_5 : decode cX6_init 5 = .ok (.new 7, 3) := by decide +kernel
theorem dX6_init_8 : decode cX6_init 8 = .ok (.dup, 1) := by decide +kernel
theorem dX6_init_9 : decode cX6_init 9 = .ok (.invokespecial 9, 3) := by decide +kernel
theorem dX6_init_12 : decode cX6_init 12 = .ok (.putfield 10, 3) := by decide +kernel
theorem dX6_init_15 : decode cX6_init 15 = .ok (.aload_n 0, 1) := by decide +kernel
theorem dX6_init_16 : decode cX6_init 16 = .ok (.new 7, 3) := by decide +kernel
theorem dX6_init_19 : decode cX6_init 19 = .ok (.dup, 1) := by decide +kernel
theorem dX6_init_20 : decode cX6_init 20 = .ok (.invokespecial 9, 3) := by decide +kernel
theorem dX6_init_23 : decode cX6_init 23 = .ok (.putfield 16, 3) := by decide +kernel
theorem dX6_init_26 : decode cX6_init 26 = .ok (.aload_n 0, 1) := by decide +kernel
theorem dX6_init_27 : decode cX6_init 27 = .ok (.new 7, 3) := by decide +kernel
theorem dX6_init_30 : decode cX6_init 30 = .ok (.dup, 1) := by decide +kernel
theorem dX6_init_31 : decode cX6_init 31 = .ok (.invokespecial 9, 3) := by decide +kernel
theorem dX6_init_34 : decode cX6_init 34 = .ok (.putfield 19, 3) := by decide +kernel
theorem dX6_init_37 : decode cX6_init 37 = .ok (.aload_n 0, 1) := by decide +kernel
theorem dX6_init_38 : decode cX6_init 38 = .ok (.new 7, 3) := by decide +kernel
theorem dX6_init_41 : decode cX6_init 41 = .ok (.dup, 1) := by decide +kernel
theorem dX6_init_42 : decode cX6_init 42 = .ok (.invokespecial 9, 3) := by decide +kernel
theorem dX6_init_45 : decode cX6_init 45 = .ok (.putfield 22, 3) := by decide +kernel
theorem dX6_init_48 : decode cX6_init 48 = .ok (.aload_n 0, 1) := by decide +kernel
theorem dX6_init_49 : decode cX6_init 49 = .ok (.new 7, 3) := by decide +kernel
theorem dX6_init_52 : decode cX6_init 52 = .ok (.dup, 1) := by decide +kernel
theorem dX6_init_53 : decode cX6_init 53 = .ok (.invokespecial 9, 3) := by decide +kernel
theorem dX6_init_56 : decode cX6_init 56 = .ok (.putfield 25, 3) := by decide +kernel
theorem dX6_init_59 : decode cX6_init 59 = .ok (.aload_n 0, 1) := by decide +kernel
theorem dX6_init_60 : decode cX6_init 60 = .ok (.getfield 10, 3) := by decide +kernel
theorem dX6_init_63 : decode cX6_init 63 = .ok (.lconst 1, 1) := by decide +kernel
theorem dX6_init_64 : decode cX6_init 64 = .ok (.invokevirtual 28, 3) := by decide +kernel
theorem dX6_init_67 : decode cX6_init 67 = .ok (.iconst 0, 1) := by decide +kernel
theorem dX6_init_68 : decode cX6_init 68 = .ok (.istore_n 1, 1) := by decide +kernel
theorem dX6_init_69 : decode cX6_init 69 = .ok (.iload_n 1, 1) := by decide +kernel
theorem dX6_init_70 : decode cX6_init 70 = .ok (.getstatic 32, 3) := by decide +kernel
theorem dX6_init_73 : decode cX6_init 73 = .ok (.arraylength, 1) := by decide +kernel
theorem dX6_init_74 : decode cX6_init 74 = .ok (.if_icmp .ge 22, 3) := by decide +kernel
theorem dX6_init_77 : decode cX6_init 77 = .ok (.aload_n 0, 1) := by decide +kernel
theorem dX6_init_78 : decode cX6_init 78 = .ok (.getfield 10, 3) := by decide +kernel
theorem dX6_init_81 : decode cX6_init 81 = .ok (.getstatic 32, 3) := by decide +kernel
theorem dX6_init_84 : decode cX6_init 84 = .ok (.iload_n 1, 1) := by decide +kernel
theorem dX6_init_85 : decode cX6_init 85 = .ok (.iaload, 1) := by decide +kernel
theorem dX6_init_86 : decode cX6_init 86 = .ok (.i2l, 1) := by decide +kernel
theorem dX6_init_87 : decode cX6_init 87 = .ok (.invokevirtual 36, 3) := by decide +kernel
theorem dX6_init_90 : decode cX6_init 90 = .ok (.iinc 1 1, 3) := by decide +kernel
theorem dX6_init_93 : decode cX6_init 93 = .ok (.goto (-24), 3) := by decide +kernel
theorem dX6_init_96 : decode cX6_init 96 = .ok (.return_, 1) := by decide +kernel
set_option maxRecDepth 20000 in
theorem ggX6_winLetting_X5_put : GoodIn wsX6_winLetting wsX5_put := goodIn_r _ [8, 9, 10, 11, 12, 13, 14, 78] (by decide +kernel) (by decide +kernel)
set_option maxRecDepth 20000 in
theorem gX6_winLetting_X5_put : GoodIn wsX6_winLetting (wsV RX6 28 RX5 yX5_put wsX5_put) := goodIn_app (goodIn_of _ (by decide +kernel)) ggX6_winLetting_X5_put
set_option maxRecDepth 20000 in
theorem ggX6_winLetting_X6_letOneLess : GoodIn wsX6_winLetting wsX6_letOneLess := goodIn_r _ [19, 2, 20, 21, 1, 22, 23, 24, 7, 25, 13, 26, 27, 28, 29, 30, 31, 32, 33, 14, 34, 35, 36, 37, 38, 39, 40, 41, 73, 74, 75, 76, 77, 78] (by decide +kernel) (by decide +kernel)
set_option maxRecDepth 20000 in
theorem gX6_winLetting_X6_letOneLess : GoodIn wsX6_winLetting (wsV RX6 39 RX6 yX6_letOneLess wsX6_letOneLess) := goodIn_app (goodIn_of _ (by decide +kernel)) ggX6_winLetting_X6_letOneLess
set_option maxRecDepth 20000 in
theorem ggX6_winLetting_X8_put : GoodIn wsX6_winLetting wsX8_put := goodIn_r _ [46, 47, 48, 49, 50, 23, 24, 7, 25, 13, 26, 27, 28, 29, 51, 5, 6, 8, 9, 10, 11, 12, 14, 52, 53, 54, 55, 56, 57, 58, 59, 79, 80, 81, 82, 83, 78] (by decide +kernel) (by decide +kernel)
set_option maxRecDepth 20000 in
theorem gX6_winLetting_X8_put : GoodIn wsX6_winLetting (wsV RX6 43 RX8 yX8_put wsX8_put) := goodIn_app (goodIn_of _ (by decide +kernel)) ggX6_winLetting_X8_put
set_option maxRecDepth 20000 in
theorem ggX6_winLetting_X8_over : GoodIn wsX6_winLetting wsX8_over := goodIn_r _ [63, 47, 48, 64, 65, 66, 7, 67, 14, 13, 68, 69, 45, 70, 71, 31, 32, 33, 72, 39, 40, 41, 79, 80, 81, 82, 83, 78] (by decide +kernel) (by decide +kernel)
set_option maxRecDepth 20000 in
theorem gX6_winLetting_X8_over : GoodIn wsX6_winLetting (wsV RX6 48 RX8 yX8_over wsX8_over) := goodIn_app (goodIn_of _ (by decide +kernel)) ggX6_winLetting_X8_over
theorem dX6_winLetting_0 : decode cX6_winLetting 0 = .ok (.aload_n 0, 1) := by decide +kernel
theorem dX6_winLetting_1 : decode cX6_winLetting 1 = .ok (.getfield 19, 3) := by decide +kernel
theorem dX6_winLetting_4 : decode cX6_winLetting 4 = .ok (.lconst 0, 1) := by decide +kernel
theorem dX6_winLetting_5 : decode cX6_winLetting 5 = .ok (.invokevirtual 28, 3) := by decide +kernel
theorem dX6_winLetting_8 : decode cX6_winLetting 8 = .ok (.iload_n 1, 1) := by decide +kernel
theorem dX6_winLetting_9 : decode cX6_winLetting 9 = .ok (.iconst 1, 1) := by decide +kernel
theorem dX6_winLetting_10 : decode cX6_winLetting 10 = .ok (.isub, 1) := by decide +kernel
theorem dX6_winLetting_11 : decode cX6_winLetting 11 = .ok (.istore 4, 2) := by decide +kernel
theorem dX6_winLetting_13 : decode cX6_winLetting 13 = .ok (.iload 4, 2) := by decide +kernel
theorem dX6_winLetting_15 : decode cX6_winLetting 15 = .ok (.iload_n 2, 1) := by decide +kernel
theorem dX6_winLetting_16 : decode cX6_winLetting 16 = .ok (.if_icmp .lt 15, 3) := by decide +kernel
theorem dX6_winLetting_19 : decode cX6_winLetting 19 = .ok (.aload_n 0, 1) := by decide +kernel
theorem dX6_winLetting_20 : decode cX6_winLetting 20 = .ok (.iload 4, 2) := by decide +kernel
theorem dX6_winLetting_22 : decode cX6_winLetting 22 = .ok (.invokevirtual 39, 3) := by decide +kernel
theorem dX6_winLetting_25 : decode cX6_winLetting 25 = .ok (.iinc 4 (-1), 3) := by decide +kernel
theorem dX6_winLetting_28 : decode cX6_winLetting 28 = .ok (.goto (-15), 3) := by decide +kernel
theorem dX6_winLetting_31 : decode cX6_winLetting 31 = .ok (.aload_n 3, 1) := by decide +kernel
theorem dX6_winLetting_32 : decode cX6_winLetting 32 = .ok (.aload_n 0, 1) := by decide +kernel
theorem dX6_winLetting_33 : decode cX6_winLetting 33 = .ok (.getfield 22, 3) := by decide +kernel
theorem dX6_winLetting_36 : decode cX6_winLetting 36 = .ok (.invokevirtual 43, 3) := by decide +kernel
theorem dX6_winLetting_39 : decode cX6_winLetting 39 = .ok (.iconst 0, 1) := by decide +kernel
theorem dX6_winLetting_40 : decode cX6_winLetting 40 = .ok (.istore 4, 2) := by decide +kernel
theorem dX6_winLetting_42 : decode cX6_winLetting 42 = .ok (.iload 4, 2) := by decide +kernel
theorem dX6_winLetting_44 : decode cX6_winLetting 44 = .ok (.getstatic 32, 3) := by decide +kernel
theorem dX6_winLetting_47 : decode cX6_winLetting 47 = .ok (.arraylength, 1) := by decide +kernel
theorem dX6_winLetting_48 : decode cX6_winLetting 48 = .ok (.if_icmp .ge 19, 3) := by decide +kernel
theorem dX6_winLetting_51 : decode cX6_winLetting 51 = .ok (.aload_n 3, 1) := by decide +kernel
theorem dX6_winLetting_52 : decode cX6_winLetting 52 = .ok (.getstatic 32, 3) := by decide +kernel
theorem dX6_winLetting_55 : decode cX6_winLetting 55 = .ok (.iload 4, 2) := by decide +kernel
theorem dX6_winLetting_57 : decode cX6_winLetting 57 = .ok (.iaload, 1) := by decide +kernel
theorem dX6_winLetting_58 : decode cX6_winLetting 58 = .ok (.invokevirtual 48, 3) := by decide +kernel
theorem dX6_winLetting_61 : decode cX6_winLetting 61 = .ok (.iinc 4 1, 3) := by decide +kernel
theorem dX6_winLetting_64 : decode cX6_winLetting 64 = .ok (.goto (-22), 3) := by decide +kernel
theorem dX6_winLetting_67 : decode cX6_winLetting 67 = .ok (.aload_n 3, 1) := by decide +kernel
theorem dX6_winLetting_68 : decode cX6_winLetting 68 = .ok (.iload_n 1, 1) := by decide +kernel
theorem dX6_winLetting_69 : decode cX6_winLetting 69 = .ok (.invokevirtual 48, 3) := by decide +kernel
theorem dX6_winLetting_72 : decode cX6_winLetting 72 = .ok (.return_, 1) := by decide +kernel
set_option maxRecDepth 20000 in
theorem ggX6_bestToLet_X5_put : GoodIn wsX6_bestToLet wsX5_put := goodIn_r _ [8, 9, 10, 11, 12, 13, 14, 55] (by decide +kernel) (by decide +kernel)
set_option maxRecDepth 20000 in
theorem gX6_bestToLet_X5_put : GoodIn wsX6_bestToLet (wsV RX6 28 RX5 yX5_put wsX5_put) := goodIn_app (goodIn_of _ (by decide +kernel)) ggX6_bestToLet_X5_put
set_option maxRecDepth 20000 in
theorem ggX6_bestToLet_X6_letOneLess : GoodIn wsX6_bestToLet wsX6_letOneLess := goodIn_r _ [19, 3, 20, 21, 1, 22, 23, 24, 7, 25, 13, 26, 27, 28, 29, 30, 31, 32, 33, 14, 34, 35, 36, 37, 38, 39, 40, 41, 50, 51, 52, 53, 54, 55] (by decide +kernel) (by decide +kernel)
set_option maxRecDepth 20000 in
theorem gX6_bestToLet_X6_letOneLess : GoodIn wsX6_bestToLet (wsV RX6 39 RX6 yX6_letOneLess wsX6_letOneLess) := goodIn_app (goodIn_of _ (by decide +kernel)) ggX6_bestToLet_X6_letOneLess
set_option maxRecDepth 20000 in
theorem ggX6_bestToLet_X5_against : GoodIn wsX6_bestToLet wsX5_against := goodIn_r _ [45, 13, 46, 47, 48, 49, 55] (by decide +kernel) (by decide +kernel)
set_option maxRecDepth 20000 in
theorem gX6_bestToLet_X5_against : GoodIn wsX6_bestToLet (wsV RX6 51 RX5 yX5_against wsX5_against) := goodIn_app (goodIn_of _ (by decide +kernel)) ggX6_bestToLet_X5_against
set_option maxRecDepth 20000 in
theorem ggX6_bestToLet_X5_copy : GoodIn wsX6_bestToLet wsX5_copy := goodIn_r _ [25, 13, 26, 27, 28, 29, 55] (by decide +kernel) (by decide +kernel)
set_option maxRecDepth 20000 in
theorem gX6_bestToLet_X5_copy : GoodIn wsX6_bestToLet (wsV RX6 55 RX5 yX5_copy wsX5_copy) := goodIn_app (goodIn_of _ (by decide +kernel)) ggX6_bestToLet_X5_copy
theorem dX6_bestToLet_0 : decode cX6_bestToLet 0 = .ok (.aload_n 0, 1) := by decide +kernel
theorem dX6_bestToLet_1 : decode cX6_bestToLet 1 = .ok (.getfield 19, 3) := by decide +kernel
theorem dX6_bestToLet_4 : decode cX6_bestToLet 4 = .ok (.lconst 0, 1) := by decide +kernel
theorem dX6_bestToLet_5 : decode cX6_bestToLet 5 = .ok (.invokevirtual 28, 3) := by decide +kernel
theorem dX6_bestToLet_8 : decode cX6_bestToLet 8 = .ok (.aload_n 0, 1) := by decide +kernel
theorem dX6_bestToLet_9 : decode cX6_bestToLet 9 = .ok (.getfield 25, 3) := by decide +kernel
theorem dX6_bestToLet_12 : decode cX6_bestToLet 12 = .ok (.lconst 0, 1) := by decide +kernel
theorem dX6_bestToLet_13 : decode cX6_bestToLet 13 = .ok (.invokevirtual 28, 3) := by decide +kernel
theorem dX6_bestToLet_16 : decode cX6_bestToLet 16 = .ok (.iconst 0, 1) := by decide +kernel
theorem dX6_bestToLet_17 : decode cX6_bestToLet 17 = .ok (.istore_n 2, 1) := by decide +kernel
theorem dX6_bestToLet_18 : decode cX6_bestToLet 18 = .ok (.iload_n 1, 1) := by decide +kernel
theorem dX6_bestToLet_19 : decode cX6_bestToLet 19 = .ok (.iconst 1, 1) := by decide +kernel
theorem dX6_bestToLet_20 : decode cX6_bestToLet 20 = .ok (.isub, 1) := by decide +kernel
theorem dX6_bestToLet_21 : decode cX6_bestToLet 21 = .ok (.istore_n 3, 1) := by decide +kernel
theorem dX6_bestToLet_22 : decode cX6_bestToLet 22 = .ok (.iload_n 3, 1) := by decide +kernel
theorem dX6_bestToLet_23 : decode cX6_bestToLet 23 = .ok (.ifCond .lt 41, 3) := by decide +kernel
theorem dX6_bestToLet_26 : decode cX6_bestToLet 26 = .ok (.aload_n 0, 1) := by decide +kernel
theorem dX6_bestToLet_27 : decode cX6_bestToLet 27 = .ok (.iload_n 3, 1) := by decide +kernel
theorem dX6_bestToLet_28 : decode cX6_bestToLet 28 = .ok (.invokevirtual 39, 3) := by decide +kernel
theorem dX6_bestToLet_31 : decode cX6_bestToLet 31 = .ok (.aload_n 0, 1) := by decide +kernel
theorem dX6_bestToLet_32 : decode cX6_bestToLet 32 = .ok (.getfield 22, 3) := by decide +kernel
theorem dX6_bestToLet_35 : decode cX6_bestToLet 35 = .ok (.aload_n 0, 1) := by decide +kernel
theorem dX6_bestToLet_36 : decode cX6_bestToLet 36 = .ok (.getfield 25, 3) := by decide +kernel
theorem dX6_bestToLet_39 : decode cX6_bestToLet 39 = .ok (.invokevirtual 51, 3) := by decide +kernel
theorem dX6_bestToLet_42 : decode cX6_bestToLet 42 = .ok (.ifCond .lt 16, 3) := by decide +kernel
theorem dX6_bestToLet_45 : decode cX6_bestToLet 45 = .ok (.aload_n 0, 1) := by decide +kernel
theorem dX6_bestToLet_46 : decode cX6_bestToLet 46 = .ok (.getfield 25, 3) := by decide +kernel
theorem dX6_bestToLet_49 : decode cX6_bestToLet 49 = .ok (.aload_n 0, 1) := by decide +kernel
theorem dX6_bestToLet_50 : decode cX6_bestToLet 50 = .ok (.getfield 22, 3) := by decide +kernel
theorem dX6_bestToLet_53 : decode cX6_bestToLet 53 = .ok (.invokevirtual 55, 3) := by decide +kernel
theorem dX6_bestToLet_56 : decode cX6_bestToLet 56 = .ok (.iload_n 3, 1) := by decide +kernel
theorem dX6_bestToLet_57 : decode cX6_bestToLet 57 = .ok (.istore_n 2, 1) := by decide +kernel
theorem dX6_bestToLet_58 : decode cX6_bestToLet 58 = .ok (.iinc 3 (-1), 3) := by decide +kernel
theorem dX6_bestToLet_61 : decode cX6_bestToLet 61 = .ok (.goto (-39), 3) := by decide +kernel
theorem dX6_bestToLet_64 : decode cX6_bestToLet 64 = .ok (.iload_n 2, 1) := by decide +kernel
theorem dX6_bestToLet_65 : decode cX6_bestToLet 65 = .ok (.ireturn, 1) := by decide +kernel
set_option maxRecDepth 20000 in
theorem ggX6_letOneLess_X5_copy : GoodIn wsX6_letOneLess wsX5_copy := goodIn_r _ [9, 10, 11, 12, 13, 14, 33] (by decide +kernel) (by decide +kernel)
set_option maxRecDepth 20000 in
theorem gX6_letOneLess_X5_copy : GoodIn wsX6_letOneLess (wsV RX6 55 RX5 yX5_copy wsX5_copy) := goodIn_app (goodIn_of _ (by decide +kernel)) ggX6_letOneLess_X5_copy
set_option maxRecDepth 20000 in
theorem ggX6_letOneLess_X5_divide : GoodIn wsX6_letOneLess wsX5_divide := goodIn_r _ [18, 19, 10, 33] (by decide +kernel) (by decide +kernel)
set_option maxRecDepth 20000 in
theorem gX6_letOneLess_X5_divide : GoodIn wsX6_letOneLess (wsV RX6 58 RX5 yX5_divide wsX5_divide) := goodIn_app (goodIn_of _ (by decide +kernel)) ggX6_letOneLess_X5_divide
set_option maxRecDepth 20000 in
theorem ggX6_letOneLess_X5_addTimes : GoodIn wsX6_letOneLess wsX5_addTimes := goodIn_r _ [23, 10, 19, 33] (by decide +kernel) (by decide +kernel)
set_option maxRecDepth 20000 in
theorem gX6_letOneLess_X5_addTimes : GoodIn wsX6_letOneLess (wsV RX6 61 RX5 yX5_addTimes wsX5_addTimes) := goodIn_app (goodIn_of _ (by decide +kernel)) ggX6_letOneLess_X5_addTimes
set_option maxRecDepth 20000 in
theorem ggX6_letOneLess_X5_times : GoodIn wsX6_letOneLess wsX5_times := goodIn_r _ [27, 10, 19, 33] (by decide +kernel) (by decide +kernel)
set_option maxRecDepth 20000 in
theorem gX6_letOneLess_X5_times : GoodIn wsX6_letOneLess (wsV RX6 36 RX5 yX5_times wsX5_times) := goodIn_app (goodIn_of _ (by decide +kernel)) ggX6_letOneLess_X5_times
theorem dX6_letOneLess_0 : decode cX6_letOneLess 0 = .ok (.iload_n 1, 1) := by decide +kernel
theorem dX6_letOneLess_1 : decode cX6_letOneLess 1 = .ok (.iconst 1, 1) := by decide +kernel
theorem dX6_letOneLess_2 : decode cX6_letOneLess 2 = .ok (.if_icmp .ge 15, 3) := by decide +kernel
theorem dX6_letOneLess_5 : decode cX6_letOneLess 5 = .ok (.aload_n 0, 1) := by decide +kernel
theorem dX6_letOneLess_6 : decode cX6_letOneLess 6 = .ok (.getfield 22, 3) := by decide +kernel
theorem dX6_letOneLess_9 : decode cX6_letOneLess 9 = .ok (.aload_n 0, 1) := by decide +kernel
theorem dX6_letOneLess_10 : decode cX6_letOneLess 10 = .ok (.getfield 10, 3) := by decide +kernel
theorem dX6_letOneLess_13 : decode cX6_letOneLess 13 = .ok (.invokevirtual 55, 3) := by decide +kernel
theorem dX6_letOneLess_16 : decode cX6_letOneLess 16 = .ok (.return_, 1) := by decide +kernel
theorem dX6_letOneLess_17 : decode cX6_letOneLess 17 = .ok (.aload_n 0, 1) := by decide +kernel
theorem dX6_letOneLess_18 : decode cX6_letOneLess 18 = .ok (.getfield 16, 3) := by decide +kernel
theorem dX6_letOneLess_21 : decode cX6_letOneLess 21 = .ok (.aload_n 0, 1) := by decide +kernel
theorem dX6_letOneLess_22 : decode cX6_letOneLess 22 = .ok (.getfield 10, 3) := by decide +kernel
theorem dX6_letOneLess_25 : decode cX6_letOneLess 25 = .ok (.invokevirtual 55, 3) := by decide +kernel
theorem dX6_letOneLess_28 : decode cX6_letOneLess 28 = .ok (.aload_n 0, 1) := by decide +kernel
theorem dX6_letOneLess_29 : decode cX6_letOneLess 29 = .ok (.getfield 16, 3) := by decide +kernel
theorem dX6_letOneLess_32 : decode cX6_letOneLess 32 = .ok (.iload_n 1, 1) := by decide +kernel
theorem dX6_letOneLess_33 : decode cX6_letOneLess 33 = .ok (.invokevirtual 58, 3) := by decide +kernel
theorem dX6_letOneLess_36 : decode cX6_letOneLess 36 = .ok (.aload_n 0, 1) := by decide +kernel
theorem dX6_letOneLess_37 : decode cX6_letOneLess 37 = .ok (.getfield 19, 3) := by decide +kernel
theorem dX6_letOneLess_40 : decode cX6_letOneLess 40 = .ok (.aload_n 0, 1) := by decide +kernel
theorem dX6_letOneLess_41 : decode cX6_letOneLess 41 = .ok (.getfield 16, 3) := by decide +kernel
theorem dX6_letOneLess_44 : decode cX6_letOneLess 44 = .ok (.lconst 1, 1) := by decide +kernel
theorem dX6_letOneLess_45 : decode cX6_letOneLess 45 = .ok (.invokevirtual 61, 3) := by decide +kernel
theorem dX6_letOneLess_48 : decode cX6_letOneLess 48 = .ok (.aload_n 0, 1) := by decide +kernel
theorem dX6_letOneLess_49 : decode cX6_letOneLess 49 = .ok (.getfield 22, 3) := by decide +kernel
theorem dX6_letOneLess_52 : decode cX6_letOneLess 52 = .ok (.aload_n 0, 1) := by decide +kernel
theorem dX6_letOneLess_53 : decode cX6_letOneLess 53 = .ok (.getfield 19, 3) := by decide +kernel
theorem dX6_letOneLess_56 : decode cX6_letOneLess 56 = .ok (.invokevirtual 55, 3) := by decide +kernel
theorem dX6_letOneLess_59 : decode cX6_letOneLess 59 = .ok (.aload_n 0, 1) := by decide +kernel
theorem dX6_letOneLess_60 : decode cX6_letOneLess 60 = .ok (.getfield 22, 3) := by decide +kernel
theorem dX6_letOneLess_63 : decode cX6_letOneLess 63 = .ok (.iload_n 1, 1) := by decide +kernel
theorem dX6_letOneLess_64 : decode cX6_letOneLess 64 = .ok (.i2l, 1) := by decide +kernel
theorem dX6_letOneLess_65 : decode cX6_letOneLess 65 = .ok (.invokevirtual 36, 3) := by decide +kernel
theorem dX6_letOneLess_68 : decode cX6_letOneLess 68 = .ok (.return_, 1) := by decide +kernel
