set_option maxRecDepth 20000 in
theorem ggX1_init_X3_init : GoodIn wsX1_init wsX3_init := goodIn_r _ [21, 22, 2, 3, 23, 24, 25, 26, 27, 28, 29, 30, 31, 9, 32, 33, 34, 35, 52, 53, 54, 55, 40, 41, 42] (by decide +kernel) (by decide +kernel)
set_option maxRecDepth 20000 in
theorem gX1_init_X3_init : GoodIn wsX1_init (wsX3_init) := ggX1_init_X3_init
set_option maxRecDepth 20000 in
theorem ggX1_init_X5_init : GoodIn wsX1_init wsX5_init := goodIn_r _ [37, 38, 2, 3, 9, 39, 51] (by decide +kernel) (by decide +kernel)
set_option maxRecDepth 20000 in
theorem gX1_init_X5_init_n36 : GoodIn wsX1_init (wsX5_init) := ggX1_init_X5_init
theorem dX1_init_0 : decode cX1_init 0 = .ok (.aload_n 0, 1) := by decide +kernel
theorem dX1_init_1 : decode cX1_init 1 = .ok (.invokespecial 3, 3) := by decide +kernel
theorem dX1_init_4 : decode cX1_init 4 = .ok (.aload_n 0, 1) := by decide +kernel
theorem dX1_init_5 : decode cX1_init 5 = .ok (.new 9, 3) := by decide +kernel
theorem dX1_init_8 : decode cX1_init 8 = .ok (.dup, 1) := by decide +kernel
theorem dX1_init_9 : decode cX1_init 9 = .ok (.invokespecial 11, 3) := by decide +kernel
theorem dX1_init_12 : decode cX1_init 12 = .ok (.putfield 12, 3) := by decide +kernel
theorem dX1_init_15 : decode cX1_init 15 = .ok (.aload_n 0, 1) := by decide +kernel
theorem dX1_init_16 : decode cX1_init 16 = .ok (.new 9, 3) := by decide +kernel
theorem dX1_init_19 : decode cX1_init 19 = .ok (.dup, 1) := by decide +kernel
theorem dX1_init_20 : decode cX1_init 20 = .ok (.invokespecial 11, 3) := by decide +kernel
theorem dX1_init_23 : decode cX1_init 23 = .ok (.putfield 18, 3) := by decide +kernel
theorem dX1_init_26 : decode cX1_init 26 = .ok (.aload_n 0, 1) := by decide +kernel
theorem dX1_init_27 : decode cX1_init 27 = .ok (.bipush 6, 2) := by decide +kernel
theorem dX1_init_29 : decode cX1_init 29 = .ok (.newarray .int, 2) := by decide +kernel
theorem dX1_init_31 : decode cX1_init 31 = .ok (.putfield 21, 3) := by decide +kernel
theorem dX1_init_34 : decode cX1_init 34 = .ok (.aload_n 0, 1) := by decide +kernel
theorem dX1_init_35 : decode cX1_init 35 = .ok (.bipush 6, 2) := by decide +kernel
theorem dX1_init_37 : decode cX1_init 37 = .ok (.newarray .int, 2) := by decide +kernel
theorem dX1_init_39 : decode cX1_init 39 = .ok (.putfield 25, 3) := by decide +kernel
theorem dX1_init_42 : decode cX1_init 42 = .ok (.aload_n 0, 1) := by decide +kernel
theorem dX1_init_43 : decode cX1_init 43 = .ok (.bipush 6, 2) := by decide +kernel
theorem dX1_init_45 : decode cX1_init 45 = .ok (.newarray .int, 2) := by decide +kernel
theorem dX1_init_47 : decode cX1_init 47 = .ok (.putfield 28, 3) := by decide +kernel
theorem dX1_init_50 : decode cX1_init 50 = .ok (.aload_n 0, 1) := by decide +kernel
theorem dX1_init_51 : decode cX1_init 51 = .ok (.bipush 6, 2) := by decide +kernel
theorem dX1_init_53 : decode cX1_init 53 = .ok (.newarray .int, 2) := by decide +kernel
theorem dX1_init_55 : decode cX1_init 55 = .ok (.putfield 31, 3) := by decide +kernel
theorem dX1_init_58 : decode cX1_init 58 = .ok (.aload_n 0, 1) := by decide +kernel
theorem dX1_init_59 : decode cX1_init 59 = .ok (.new 34, 3) := by decide +kernel
theorem dX1_init_62 : decode cX1_init 62 = .ok (.dup, 1) := by decide +kernel
theorem dX1_init_63 : decode cX1_init 63 = .ok (.invokespecial 36, 3) := by decide +kernel
theorem dX1_init_66 : decode cX1_init 66 = .ok (.putfield 37, 3) := by decide +kernel
theorem dX1_init_69 : decode cX1_init 69 = .ok (.aload_n 0, 1) := by decide +kernel
theorem dX1_init_70 : decode cX1_init 70 = .ok (.new 34, 3) := by decide +kernel
theorem dX1_init_73 : decode cX1_init 73 = .ok (.dup, 1) := by decide +kernel
theorem dX1_init_74 : decode cX1_init 74 = .ok (.invokespecial 36, 3) := by decide +kernel
theorem dX1_init_77 : decode cX1_init 77 = .ok (.putfield 41, 3) := by decide +kernel
theorem dX1_init_80 : decode cX1_init 80 = .ok (.return_, 1) := by decide +kernel
set_option maxRecDepth 20000 in
theorem ggX1_size_X3_size : GoodIn wsX1_size wsX3_size := goodIn_r _ [6, 7, 16, 17, 18] (by decide +kernel) (by decide +kernel)
set_option maxRecDepth 20000 in
theorem gX1_size_X3_size : GoodIn wsX1_size (wsV RX1 44 RX3 yX3_size wsX3_size) := goodIn_app (goodIn_of _ (by decide +kernel)) ggX1_size_X3_size
theorem dX1_size_0 : decode cX1_size 0 = .ok (.aload_n 0, 1) := by decide +kernel
theorem dX1_size_1 : decode cX1_size 1 = .ok (.getfield 12, 3) := by decide +kernel
theorem dX1_size_4 : decode cX1_size 4 = .ok (.invokevirtual 44, 3) := by decide +kernel
theorem dX1_size_7 : decode cX1_size 7 = .ok (.ireturn, 1) := by decide +kernel
set_option maxRecDepth 20000 in
theorem ggX1_join_X3_size : GoodIn wsX1_join wsX3_size := goodIn_r _ [7, 8, 67, 68, 69] (by decide +kernel) (by decide +kernel)
set_option maxRecDepth 20000 in
theorem gX1_join_X3_size : GoodIn wsX1_join (wsV RX1 44 RX3 yX3_size wsX3_size) := goodIn_app (goodIn_of _ (by decide +kernel)) ggX1_join_X3_size
set_option maxRecDepth 20000 in
theorem ggX1_join_X3_join : GoodIn wsX1_join wsX3_join := goodIn_r _ [12, 8, 13, 67, 68, 69] (by decide +kernel) (by decide +kernel)
set_option maxRecDepth 20000 in
theorem gX1_join_X3_join : GoodIn wsX1_join (wsV RX1 48 RX3 yX3_join wsX3_join) := goodIn_app (goodIn_of _ (by decide +kernel)) ggX1_join_X3_join
set_option maxRecDepth 20000 in
theorem ggX1_join_X1_findFairBar : GoodIn wsX1_join wsX1_findFairBar := goodIn_r _ [18, 1, 2, 19, 20, 21, 22, 23, 6, 24, 8, 13, 25, 26, 27, 28, 29, 30, 31, 32, 33, 34, 35, 36, 37, 38, 39, 40, 41, 42, 43, 44, 45, 46, 47, 48, 49, 50, 51, 52, 17, 53, 59, 60, 61, 62, 63, 64, 65, 66, 67, 68, 69, 70, 71, 72, 73] (by decide +kernel) (by decide +kernel)
set_option maxRecDepth 20000 in
theorem gX1_join_X1_findFairBar : GoodIn wsX1_join (wsV RX1 52 RX1 yX1_findFairBar wsX1_findFairBar) := goodIn_app (goodIn_of _ (by decide +kernel)) ggX1_join_X1_findFairBar
set_option maxRecDepth 20000 in
theorem ggX1_join_X1_putInOrder : GoodIn wsX1_join wsX1_putInOrder := goodIn_r _ [57, 20, 19, 58, 50, 51, 52, 17, 53, 59, 60, 61, 62, 63, 64, 65, 66] (by decide +kernel) (by decide +kernel)
set_option maxRecDepth 20000 in
theorem gX1_join_X1_putInOrder : GoodIn wsX1_join (wsV RX1 56 RX1 yX1_putInOrder wsX1_putInOrder) := goodIn_app (goodIn_of _ (by decide +kernel)) ggX1_join_X1_putInOrder
theorem dX1_join_0 : decode cX1_join 0 = .ok (.aload_n 0, 1) := by decide +kernel
theorem dX1_join_1 : decode cX1_join 1 = .ok (.getfield 12, 3) := by decide +kernel
theorem dX1_join_4 : decode cX1_join 4 = .ok (.invokevirtual 44, 3) := by decide +kernel
theorem dX1_join_7 : decode cX1_join 7 = .ok (.istore_n 3, 1) := by decide +kernel
theorem dX1_join_8 : decode cX1_join 8 = .ok (.iload_n 3, 1) := by decide +kernel
theorem dX1_join_9 : decode cX1_join 9 = .ok (.bipush 6, 2) := by decide +kernel
theorem dX1_join_11 : decode cX1_join 11 = .ok (.if_icmp .lt 6, 3) := by decide +kernel
theorem dX1_join_14 : decode cX1_join 14 = .ok (.bipush (-8), 2) := by decide +kernel
theorem dX1_join_16 : decode cX1_join 16 = .ok (.ireturn, 1) := by decide +kernel
theorem dX1_join_17 : decode cX1_join 17 = .ok (.aload_n 0, 1) := by decide +kernel
theorem dX1_join_18 : decode cX1_join 18 = .ok (.getfield 12, 3) := by decide +kernel
theorem dX1_join_21 : decode cX1_join 21 = .ok (.aload_n 1, 1) := by decide +kernel
theorem dX1_join_22 : decode cX1_join 22 = .ok (.invokevirtual 48, 3) := by decide +kernel
theorem dX1_join_25 : decode cX1_join 25 = .ok (.aload_n 0, 1) := by decide +kernel
theorem dX1_join_26 : decode cX1_join 26 = .ok (.getfield 21, 3) := by decide +kernel
theorem dX1_join_29 : decode cX1_join 29 = .ok (.iload_n 3, 1) := by decide +kernel
theorem dX1_join_30 : decode cX1_join 30 = .ok (.iload_n 2, 1) := by decide +kernel
theorem dX1_join_31 : decode cX1_join 31 = .ok (.iastore, 1) := by decide +kernel
theorem dX1_join_32 : decode cX1_join 32 = .ok (.aload_n 0, 1) := by decide +kernel
theorem dX1_join_33 : decode cX1_join 33 = .ok (.iload_n 3, 1) := by decide +kernel
theorem dX1_join_34 : decode cX1_join 34 = .ok (.invokevirtual 52, 3) := by decide +kernel
theorem dX1_join_37 : decode cX1_join 37 = .ok (.aload_n 0, 1) := by decide +kernel
theorem dX1_join_38 : decode cX1_join 38 = .ok (.iload_n 3, 1) := by decide +kernel
theorem dX1_join_39 : decode cX1_join 39 = .ok (.invokevirtual 56, 3) := by decide +kernel
theorem dX1_join_42 : decode cX1_join 42 = .ok (.iload_n 3, 1) := by decide +kernel
theorem dX1_join_43 : decode cX1_join 43 = .ok (.ireturn, 1) := by decide +kernel
set_option maxRecDepth 20000 in
theorem ggX1_clear_X3_size : GoodIn wsX1_clear wsX3_size := goodIn_r _ [6, 7, 20, 21, 22] (by decide +kernel) (by decide +kernel)
set_option maxRecDepth 20000 in
theorem gX1_clear_X3_size : GoodIn wsX1_clear (wsV RX1 44 RX3 yX3_size wsX3_size) := goodIn_app (goodIn_of _ (by decide +kernel)) ggX1_clear_X3_size
set_option maxRecDepth 20000 in
theorem ggX1_clear_X3_clear : GoodIn wsX1_clear wsX3_clear := goodIn_r _ [11, 7, 20, 21, 22] (by decide +kernel) (by decide +kernel)
set_option maxRecDepth 20000 in
theorem gX1_clear_X3_clear : GoodIn wsX1_clear (wsV RX1 59 RX3 yX3_clear wsX3_clear) := goodIn_app (goodIn_of _ (by decide +kernel)) ggX1_clear_X3_clear
theorem dX1_clear_0 : decode cX1_clear 0 = .ok (.aload_n 0, 1) := by decide +kernel
theorem dX1_clear_1 : decode cX1_clear 1 = .ok (.getfield 12, 3) := by decide +kernel
theorem dX1_clear_4 : decode cX1_clear 4 = .ok (.invokevirtual 44, 3) := by decide +kernel
theorem dX1_clear_7 : decode cX1_clear 7 = .ok (.istore_n 1, 1) := by decide +kernel
theorem dX1_clear_8 : decode cX1_clear 8 = .ok (.aload_n 0, 1) := by decide +kernel
theorem dX1_clear_9 : decode cX1_clear 9 = .ok (.getfield 12, 3) := by decide +kernel
theorem dX1_clear_12 : decode cX1_clear 12 = .ok (.invokevirtual 59, 3) := by decide +kernel
theorem dX1_clear_15 : decode cX1_clear 15 = .ok (.iload_n 1, 1) := by decide +kernel
theorem dX1_clear_16 : decode cX1_clear 16 = .ok (.ireturn, 1) := by decide +kernel
set_option maxRecDepth 20000 in
theorem ggX1_findFairBar_X3_at : GoodIn wsX1_findFairBar wsX3_at := goodIn_r _ [9, 10, 11, 12, 13, 14, 15, 50, 51, 52] (by decide +kernel) (by decide +kernel)
set_option maxRecDepth 20000 in
theorem gX1_findFairBar_X3_at : GoodIn wsX1_findFairBar (wsV RX1 62 RX3 yX3_at wsX3_at) := goodIn_app (goodIn_of _ (by decide +kernel)) ggX1_findFairBar_X3_at
set_option maxRecDepth 20000 in
theorem ggX1_findFairBar_X0_total : GoodIn wsX1_findFairBar wsX0_total := goodIn_r _ [20, 21, 53, 54, 55, 56] (by decide +kernel) (by decide +kernel)
set_option maxRecDepth 20000 in
theorem gX1_findFairBar_X0_total : GoodIn wsX1_findFairBar (wsV RX1 66 RX0 yX0_total wsX0_total) := goodIn_app (goodIn_of _ (by decide +kernel)) ggX1_findFairBar_X0_total
set_option maxRecDepth 20000 in
theorem ggX1_findFairBar_X0_leastFrom : GoodIn wsX1_findFairBar wsX0_leastFrom := goodIn_r _ [25, 26, 27, 53, 54, 55, 56] (by decide +kernel) (by decide +kernel)
set_option maxRecDepth 20000 in
theorem gX1_findFairBar_X0_leastFrom : GoodIn wsX1_findFairBar (wsV RX1 71 RX0 yX0_leastFrom wsX0_leastFrom) := goodIn_app (goodIn_of _ (by decide +kernel)) ggX1_findFairBar_X0_leastFrom
set_option maxRecDepth 20000 in
theorem ggX1_findFairBar_X0_gathered : GoodIn wsX1_findFairBar wsX0_gathered := goodIn_r _ [31, 26, 27, 32, 53, 54, 55, 56] (by decide +kernel) (by decide +kernel)
set_option maxRecDepth 20000 in
theorem gX1_findFairBar_X0_gathered : GoodIn wsX1_findFairBar (wsV RX1 75 RX0 yX0_gathered wsX0_gathered) := goodIn_app (goodIn_of _ (by decide +kernel)) ggX1_findFairBar_X0_gathered
set_option maxRecDepth 20000 in
theorem ggX1_findFairBar_X0_below : GoodIn wsX1_findFairBar wsX0_below := goodIn_r _ [36, 26, 27, 32, 53, 54, 55, 56] (by decide +kernel) (by decide +kernel)
set_option maxRecDepth 20000 in
theorem gX1_findFairBar_X0_below : GoodIn wsX1_findFairBar (wsV RX1 78 RX0 yX0_below wsX0_below) := goodIn_app (goodIn_of _ (by decide +kernel)) ggX1_findFairBar_X0_below
set_option maxRecDepth 20000 in
theorem ggX1_findFairBar_X1_isAbove : GoodIn wsX1_findFairBar wsX1_isAbove := goodIn_r _ [41, 3, 4, 42, 43, 44, 45, 46, 47, 48, 49] (by decide +kernel) (by decide +kernel)
set_option maxRecDepth 20000 in
theorem gX1_findFairBar_X1_isAbove : GoodIn wsX1_findFairBar (wsV RX1 81 RX1 yX1_isAbove wsX1_isAbove) := goodIn_app (goodIn_of _ (by decide +kernel)) ggX1_findFairBar_X1_isAbove
theorem dX1_findFairBar_0 : decode cX1_findFairBar 0 = .ok (.aload_n 0, 1) := by decide +kernel
theorem dX1_findFairBar_1 : decode cX1_findFairBar 1 = .ok (.getfield 12, 3) := by decide +kernel
theorem dX1_findFairBar_4 : decode cX1_findFairBar 4 = .ok (.iload_n 1, 1) := by decide +kernel
theorem dX1_findFairBar_5 : decode cX1_findFairBar 5 = .ok (.invokevirtual 62, 3) := by decide +kernel
theorem dX1_findFairBar_8 : decode cX1_findFairBar 8 = .ok (.astore_n 2, 1) := by decide +kernel
theorem dX1_findFairBar_9 : decode cX1_findFairBar 9 = .ok (.aload_n 0, 1) := by decide +kernel
theorem dX1_findFairBar_10 : decode cX1_findFairBar 10 = .ok (.getfield 21, 3) := by decide +kernel
theorem dX1_findFairBar_13 : decode cX1_findFairBar 13 = .ok (.iload_n 1, 1) := by decide +kernel
theorem dX1_findFairBar_14 : decode cX1_findFairBar 14 = .ok (.iaload, 1) := by decide +kernel
theorem dX1_findFairBar_15 : decode cX1_findFairBar 15 = .ok (.aload_n 2, 1) := by decide +kernel
theorem dX1_findFairBar_16 : decode cX1_findFairBar 16 = .ok (.invokevirtual 66, 3) := by decide +kernel
theorem dX1_findFairBar_19 : decode cX1_findFairBar 19 = .ok (.imul, 1) := by decide +kernel
theorem dX1_findFairBar_20 : decode cX1_findFairBar 20 = .ok (.istore_n 3, 1) := by decide +kernel
theorem dX1_findFairBar_21 : decode cX1_findFairBar 21 = .ok (.aload_n 0, 1) := by decide +kernel
theorem dX1_findFairBar_22 : decode cX1_findFairBar 22 = .ok (.getfield 28, 3) := by decide +kernel
theorem dX1_findFairBar_25 : decode cX1_findFairBar 25 = .ok (.iload_n 1, 1) := by decide +kernel
theorem dX1_findFairBar_26 : decode cX1_findFairBar 26 = .ok (.iconst 0, 1) := by decide +kernel
theorem dX1_findFairBar_27 : decode cX1_findFairBar 27 = .ok (.iastore, 1) := by decide +kernel
theorem dX1_findFairBar_28 : decode cX1_findFairBar 28 = .ok (.aload_n 2, 1) := by decide +kernel
theorem dX1_findFairBar_29 : decode cX1_findFairBar 29 = .ok (.iconst 0, 1) := by decide +kernel
theorem dX1_findFairBar_30 : decode cX1_findFairBar 30 = .ok (.invokevirtual 71, 3) := by decide +kernel
theorem dX1_findFairBar_33 : decode cX1_findFairBar 33 = .ok (.istore 4, 2) := by decide +kernel
theorem dX1_findFairBar_35 : decode cX1_findFairBar 35 = .ok (.iconst 0, 1) := by decide +kernel
theorem dX1_findFairBar_36 : decode cX1_findFairBar 36 = .ok (.istore 5, 2) := by decide +kernel
theorem dX1_findFairBar_38 : decode cX1_findFairBar 38 = .ok (.iload 5, 2) := by decide +kernel
theorem dX1_findFairBar_40 : decode cX1_findFairBar 40 = .ok (.bipush 8, 2) := by decide +kernel
theorem dX1_findFairBar_42 : decode cX1_findFairBar 42 = .ok (.if_icmp .ge 87, 3) := by decide +kernel
theorem dX1_findFairBar_45 : decode cX1_findFairBar 45 = .ok (.iload 4, 2) := by decide +kernel
theorem dX1_findFairBar_47 : decode cX1_findFairBar 47 = .ok (.iconst (-1), 1) := by decide +kernel
theorem dX1_findFairBar_48 : decode cX1_findFairBar 48 = .ok (.if_icmp .eq 81, 3) := by decide +kernel
theorem dX1_findFairBar_51 : decode cX1_findFairBar 51 = .ok (.aload_n 2, 1) := by decide +kernel
theorem dX1_findFairBar_52 : decode cX1_findFairBar 52 = .ok (.iload 4, 2) := by decide +kernel
theorem dX1_findFairBar_54 : decode cX1_findFairBar 54 = .ok (.invokevirtual 75, 3) := by decide +kernel
theorem dX1_findFairBar_57 : decode cX1_findFairBar 57 = .ok (.iload_n 3, 1) := by decide +kernel
theorem dX1_findFairBar_58 : decode cX1_findFairBar 58 = .ok (.isub, 1) := by decide +kernel
theorem dX1_findFairBar_59 : decode cX1_findFairBar 59 = .ok (.istore 6, 2) := by decide +kernel
theorem dX1_findFairBar_61 : decode cX1_findFairBar 61 = .ok (.aload_n 2, 1) := by decide +kernel
theorem dX1_findFairBar_62 : decode cX1_findFairBar 62 = .ok (.invokevirtual 66, 3) := by decide +kernel
theorem dX1_findFairBar_65 : decode cX1_findFairBar 65 = .ok (.aload_n 2, 1) := by decide +kernel
theorem dX1_findFairBar_66 : decode cX1_findFairBar 66 = .ok (.iload 4, 2) := by decide +kernel
theorem dX1_findFairBar_68 : decode cX1_findFairBar 68 = .ok (.invokevirtual 78, 3) := by decide +kernel
theorem dX1_findFairBar_71 : decode cX1_findFairBar 71 = .ok (.isub, 1) := by decide +kernel
theorem dX1_findFairBar_72 : decode cX1_findFairBar 72 = .ok (.istore 7, 2) := by decide +kernel
theorem dX1_findFairBar_74 : decode cX1_findFairBar 74 = .ok (.aload_n 0, 1) := by decide +kernel
theorem dX1_findFairBar_75 : decode cX1_findFairBar 75 = .ok (.getfield 28, 3) := by decide +kernel
theorem dX1_findFairBar_78 : decode cX1_findFairBar 78 = .ok (.iload_n 1, 1) := by decide +kernel
theorem dX1_findFairBar_79 : decode cX1_findFairBar 79 = .ok (.iaload, 1) := by decide +kernel
theorem dX1_findFairBar_80 : decode cX1_findFairBar 80 = .ok (.ifCond .eq 17, 3) := by decide +kernel
theorem dX1_findFairBar_83 : decode cX1_findFairBar 83 = .ok (.aload_n 0, 1) := by decide +kernel
theorem dX1_findFairBar_84 : decode cX1_findFairBar 84 = .ok (.iload 6, 2) := by decide +kernel
theorem dX1_findFairBar_86 : decode cX1_findFairBar 86 = .ok (.i2l, 1) := by decide +kernel
theorem dX1_findFairBar_87 : decode cX1_findFairBar 87 = .ok (.iload 7, 2) := by decide +kernel
theorem dX1_findFairBar_89 : decode cX1_findFairBar 89 = .ok (.i2l, 1) := by decide +kernel
theorem dX1_findFairBar_90 : decode cX1_findFairBar 90 = .ok (.iload_n 1, 1) := by decide +kernel
theorem dX1_findFairBar_91 : decode cX1_findFairBar 91 = .ok (.invokevirtual 81, 3) := by decide +kernel
theorem dX1_findFairBar_94 : decode cX1_findFairBar 94 = .ok (.ifCond .eq 19, 3) := by decide +kernel
theorem dX1_findFairBar_97 : decode cX1_findFairBar 97 = .ok (.aload_n 0, 1) := by decide +kernel
theorem dX1_findFairBar_98 : decode cX1_findFairBar 98 = .ok (.getfield 25, 3) := by decide +kernel
theorem dX1_findFairBar_101 : decode cX1_findFairBar 101 = .ok (.iload_n 1, 1) := by decide +kernel
theorem dX1_findFairBar_102 : decode cX1_findFairBar 102 = .ok (.iload 6, 2) := by decide +kernel
theorem dX1_findFairBar_104 : decode cX1_findFairBar 104 = .ok (.iastore, 1) := by decide +kernel
theorem dX1_findFairBar_105 : decode cX1_findFairBar 105 = .ok (.aload_n 0, 1) := by decide +kernel
theorem dX1_findFairBar_106 : decode cX1_findFairBar 106 = .ok (.getfield 28, 3) := by decide +kernel
theorem dX1_findFairBar_109 : decode cX1_findFairBar 109 = .ok (.iload_n 1, 1) := by decide +kernel
theorem dX1_findFairBar_110 : decode cX1_findFairBar 110 = .ok (.iload 7, 2) := by decide +kernel
theorem dX1_findFairBar_112 : decode cX1_findFairBar 112 = .ok (.iastore, 1) := by decide +kernel
theorem dX1_findFairBar_113 : decode cX1_findFairBar 113 = .ok (.aload_n 2, 1) := by decide +kernel
theorem dX1_findFairBar_114 : decode cX1_findFairBar 114 = .ok (.iload 4, 2) := by decide +kernel
theorem dX1_findFairBar_116 : decode cX1_findFairBar 116 = .ok (.iconst 1, 1) := by decide +kernel
theorem dX1_findFairBar_117 : decode cX1_findFairBar 117 = .ok (.iadd, 1) := by decide +kernel
theorem dX1_findFairBar_118 : decode cX1_findFairBar 118 = .ok (.invokevirtual 71, 3) := by decide +kernel
theorem dX1_findFairBar_121 : decode cX1_findFairBar 121 = .ok (.istore 4, 2) := by decide +kernel
theorem dX1_findFairBar_123 : decode cX1_findFairBar 123 = .ok (.iinc 5 1, 3) := by decide +kernel
theorem dX1_findFairBar_126 : decode cX1_findFairBar 126 = .ok (.goto (-88), 3) := by decide +kernel
theorem dX1_findFairBar_129 : decode cX1_findFairBar 129 = .ok (.return_, 1) := by decide +kernel
theorem dX1_isAbove_0 : decode cX1_isAbove 0 = .ok (.lload_n 1, 1) := by decide +kernel
theorem dX1_isAbove_1 : decode cX1_isAbove 1 = .ok (.aload_n 0, 1) := by decide +kernel
theorem dX1_isAbove_2 : decode cX1_isAbove 2 = .ok (.getfield 28, 3) := by decide +kernel
theorem dX1_isAbove_5 : decode cX1_isAbove 5 = .ok (.iload 5, 2) := by decide +kernel
theorem dX1_isAbove_7 : decode cX1_isAbove 7 = .ok (.iaload, 1) := by decide +kernel
theorem dX1_isAbove_8 : decode cX1_isAbove 8 = .ok (.i2l, 1) := by decide +kernel
theorem dX1_isAbove_9 : decode cX1_isAbove 9 = .ok (.lmul, 1) := by decide +kernel
theorem dX1_isAbove_10 : decode cX1_isAbove 10 = .ok (.aload_n 0, 1) := by decide +kernel
theorem dX1_isAbove_11 : decode cX1_isAbove 11 = .ok (.getfield 25, 3) := by decide +kernel
theorem dX1_isAbove_14 : decode cX1_isAbove 14 = .ok (.iload 5, 2) := by decide +kernel
theorem dX1_isAbove_16 : decode cX1_isAbove 16 = .ok (.iaload, 1) := by decide +kernel
theorem dX1_isAbove_17 : decode cX1_isAbove 17 = .ok (.i2l, 1) := by decide +kernel
theorem dX1_isAbove_18 : decode cX1_isAbove 18 = .ok (.lload_n 3, 1) := by decide +kernel
theorem dX1_isAbove_19 : decode cX1_isAbove 19 = .ok (.lmul, 1) := by decide +kernel
theorem dX1_isAbove_20 : decode cX1_isAbove 20 = .ok (.lcmp, 1) := by decide +kernel
theorem dX1_isAbove_21 : decode cX1_isAbove 21 = .ok (.ifCond .le 7, 3) := by decide +kernel
theorem dX1_isAbove_24 : decode cX1_isAbove 24 = .ok (.iconst 1, 1) := by decide +kernel
theorem dX1_isAbove_25 : decode cX1_isAbove 25 = .ok (.goto 4, 3) := by decide +kernel
theorem dX1_isAbove_28 : decode cX1_isAbove 28 = .ok (.iconst 0, 1) := by decide +kernel
theorem dX1_isAbove_29 : decode cX1_isAbove 29 = .ok (.ireturn, 1) := by decide +kernel
set_option maxRecDepth 20000 in
theorem ggX1_putInOrder_X1_isAbove : GoodIn wsX1_putInOrder wsX1_isAbove := goodIn_r _ [8, 2, 1, 9, 10, 11, 12, 13, 14, 15, 16] (by decide +kernel) (by decide +kernel)
set_option maxRecDepth 20000 in
theorem gX1_putInOrder_X1_isAbove : GoodIn wsX1_putInOrder (wsV RX1 81 RX1 yX1_isAbove wsX1_isAbove) := goodIn_app (goodIn_of _ (by decide +kernel)) ggX1_putInOrder_X1_isAbove
theorem dX1_putInOrder_0 : decode cX1_putInOrder 0 = .ok (.iload_n 1, 1) := by decide +kernel
theorem dX1_putInOrder_1 : decode cX1_putInOrder 1 = .ok (.istore_n 2, 1) := by decide +kernel
theorem dX1_putInOrder_2 : decode cX1_putInOrder 2 = .ok (.iload_n 2, 1) := by decide +kernel
theorem dX1_putInOrder_3 : decode cX1_putInOrder 3 = .ok (.ifCond .le 52, 3) := by decide +kernel
theorem dX1_putInOrder_6 : decode cX1_putInOrder 6 = .ok (.aload_n 0, 1) := by decide +kernel
theorem dX1_putInOrder_7 : decode cX1_putInOrder 7 = .ok (.aload_n 0, 1) := by decide +kernel
theorem dX1_putInOrder_8 : decode cX1_putInOrder 8 = .ok (.getfield 25, 3) := by decide +kernel
theorem dX1_putInOrder_11 : decode cX1_putInOrder 11 = .ok (.iload_n 1, 1) := by decide +kernel
theorem dX1_putInOrder_12 : decode cX1_putInOrder 12 = .ok (.iaload, 1) := by decide +kernel
theorem dX1_putInOrder_13 : decode cX1_putInOrder 13 = .ok (.i2l, 1) := by decide +kernel
theorem dX1_putInOrder_14 : decode cX1_putInOrder 14 = .ok (.aload_n 0, 1) := by decide +kernel
theorem dX1_putInOrder_15 : decode cX1_putInOrder 15 = .ok (.getfield 28, 3) := by decide +kernel
theorem dX1_putInOrder_18 : decode cX1_putInOrder 18 = .ok (.iload_n 1, 1) := by decide +kernel
theorem dX1_putInOrder_19 : decode cX1_putInOrder 19 = .ok (.iaload, 1) := by decide +kernel
theorem dX1_putInOrder_20 : decode cX1_putInOrder 20 = .ok (.i2l, 1) := by decide +kernel
theorem dX1_putInOrder_21 : decode cX1_putInOrder 21 = .ok (.aload_n 0, 1) := by decide +kernel
theorem dX1_putInOrder_22 : decode cX1_putInOrder 22 = .ok (.getfield 31, 3) := by decide +kernel
theorem dX1_putInOrder_25 : decode cX1_putInOrder 25 = .ok (.iload_n 2, 1) := by decide +kernel
theorem dX1_putInOrder_26 : decode cX1_putInOrder 26 = .ok (.iconst 1, 1) := by decide +kernel
theorem dX1_putInOrder_27 : decode cX1_putInOrder 27 = .ok (.isub, 1) := by decide +kernel
theorem dX1_putInOrder_28 : decode cX1_putInOrder 28 = .ok (.iaload, 1) := by decide +kernel
theorem dX1_putInOrder_29 : decode cX1_putInOrder 29 = .ok (.invokevirtual 81, 3) := by decide +kernel
theorem dX1_putInOrder_32 : decode cX1_putInOrder 32 = .ok (.ifCond .eq 23, 3) := by decide +kernel
theorem dX1_putInOrder_35 : decode cX1_putInOrder 35 = .ok (.aload_n 0, 1) := by decide +kernel
theorem dX1_putInOrder_36 : decode cX1_putInOrder 36 = .ok (.getfield 31, 3) := by decide +kernel
theorem dX1_putInOrder_39 : decode cX1_putInOrder 39 = .ok (.iload_n 2, 1) := by decide +kernel
theorem dX1_putInOrder_40 : decode cX1_putInOrder 40 = .ok (.aload_n 0, 1) := by decide +kernel
theorem dX1_putInOrder_41 : decode cX1_putInOrder 41 = .ok (.getfield 31, 3) := by decide +kernel
theorem dX1_putInOrder_44 : decode cX1_putInOrder 44 = .ok (.iload_n 2, 1) := by decide +kernel
theorem dX1_putInOrder_45 : decode cX1_putInOrder 45 = .ok (.iconst 1, 1) := by decide +kernel
theorem dX1_putInOrder_46 : decode cX1_putInOrder 46 = .ok (.isub, 1) := by decide +kernel
theorem dX1_putInOrder_47 : decode cX1_putInOrder 47 = .ok (.iaload, 1) := by decide +kernel
theorem dX1_putInOrder_48 : decode cX1_putInOrder 48 = .ok (.iastore, 1) := by decide +kernel
theorem dX1_putInOrder_49 : decode cX1_putInOrder 49 = .ok (.iinc 2 (-1), 3) := by decide +kernel
theorem dX1_putInOrder_52 : decode cX1_putInOrder 52 = .ok (.goto (-50), 3) := by decide +kernel
theorem dX1_putInOrder_55 : decode cX1_putInOrder 55 = .ok (.aload_n 0, 1) := by decide +kernel
theorem dX1_putInOrder_56 : decode cX1_putInOrder 56 = .ok (.getfield 31, 3) := by decide +kernel
theorem dX1_putInOrder_59 : decode cX1_putInOrder 59 = .ok (.iload_n 2, 1) := by decide +kernel
theorem dX1_putInOrder_60 : decode cX1_putInOrder 60 = .ok (.iload_n 1, 1) := by decide +kernel
theorem dX1_putInOrder_61 : decode cX1_putInOrder 61 = .ok (.iastore, 1) := by decide +kernel
theorem dX1_putInOrder_62 : decode cX1_putInOrder 62 = .ok (.return_, 1) := by decide +kernel
set_option maxRecDepth 20000 in
theorem ggX1_fairBarInto_X10_isWithin : GoodIn wsX1_fairBarInto wsX10_isWithin := goodIn_r _ [6] (by decide +kernel) (by decide +kernel)
set_option maxRecDepth 20000 in
theorem gX1_fairBarInto_X10_isWithin_n87 : GoodIn wsX1_fairBarInto (wsX10_isWithin) := ggX1_fairBarInto_X10_isWithin
set_option maxRecDepth 20000 in
theorem ggX1_fairBarInto_X8_putSmall : GoodIn wsX1_fairBarInto wsX8_putSmall := goodIn_r _ [11, 12, 13, 14, 15, 16, 17, 18, 19, 20, 21, 22, 23, 24, 25, 26, 27, 28, 29, 30, 10, 31, 32, 33, 34, 35, 36, 37, 38, 39, 40, 41, 42, 43, 44, 45, 46, 47, 48, 49, 50, 51, 52, 53, 54, 55, 56, 57, 58, 59, 60, 61, 62, 63, 64, 65, 66, 67, 68, 69, 70, 71, 72, 81, 82, 83, 84, 85, 86] (by decide +kernel) (by decide +kernel)
set_option maxRecDepth 20000 in
theorem gX1_fairBarInto_X8_putSmall : GoodIn wsX1_fairBarInto (wsV RX1 91 RX8 yX8_putSmall wsX8_putSmall) := goodIn_app (goodIn_of _ (by decide +kernel)) ggX1_fairBarInto_X8_putSmall
theorem dX1_fairBarInto_0 : decode cX1_fairBarInto 0 = .ok (.iload_n 1, 1) := by decide +kernel
theorem dX1_fairBarInto_1 : decode cX1_fairBarInto 1 = .ok (.i2l, 1) := by decide +kernel
theorem dX1_fairBarInto_2 : decode cX1_fairBarInto 2 = .ok (.lconst 0, 1) := by decide +kernel
theorem dX1_fairBarInto_3 : decode cX1_fairBarInto 3 = .ok (.ldc2_w 85, 3) := by decide +kernel
theorem dX1_fairBarInto_6 : decode cX1_fairBarInto 6 = .ok (.invokestatic 87, 3) := by decide +kernel
theorem dX1_fairBarInto_9 : decode cX1_fairBarInto 9 = .ok (.ifCond .eq 19, 3) := by decide +kernel
theorem dX1_fairBarInto_12 : decode cX1_fairBarInto 12 = .ok (.aload_n 2, 1) := by decide +kernel
theorem dX1_fairBarInto_13 : decode cX1_fairBarInto 13 = .ok (.aload_n 0, 1) := by decide +kernel
theorem dX1_fairBarInto_14 : decode cX1_fairBarInto 14 = .ok (.getfield 25, 3) := by decide +kernel
theorem dX1_fairBarInto_17 : decode cX1_fairBarInto 17 = .ok (.iload_n 1, 1) := by decide +kernel
theorem dX1_fairBarInto_18 : decode cX1_fairBarInto 18 = .ok (.iaload, 1) := by decide +kernel
theorem dX1_fairBarInto_19 : decode cX1_fairBarInto 19 = .ok (.aload_n 0, 1) := by decide +kernel
theorem dX1_fairBarInto_20 : decode cX1_fairBarInto 20 = .ok (.getfield 28, 3) := by decide +kernel
theorem dX1_fairBarInto_23 : decode cX1_fairBarInto 23 = .ok (.iload_n 1, 1) := by decide +kernel
theorem dX1_fairBarInto_24 : decode cX1_fairBarInto 24 = .ok (.iaload, 1) := by decide +kernel
theorem dX1_fairBarInto_25 : decode cX1_fairBarInto 25 = .ok (.invokevirtual 91, 3) := by decide +kernel
theorem dX1_fairBarInto_28 : decode cX1_fairBarInto 28 = .ok (.return_, 1) := by decide +kernel
set_option maxRecDepth 20000 in
theorem ggX1_searchInto_X3_clear : GoodIn wsX1_searchInto wsX3_clear := goodIn_r _ [13, 14, 151, 152, 153] (by decide +kernel) (by decide +kernel)
set_option maxRecDepth 20000 in
theorem gX1_searchInto_X3_clear : GoodIn wsX1_searchInto (wsV RX1 59 RX3 yX3_clear wsX3_clear) := goodIn_app (goodIn_of _ (by decide +kernel)) ggX1_searchInto_X3_clear
set_option maxRecDepth 20000 in
theorem ggX1_searchInto_X5_put : GoodIn wsX1_searchInto wsX5_put := goodIn_r _ [19, 20, 21, 6, 22, 23, 24, 154] (by decide +kernel) (by decide +kernel)
set_option maxRecDepth 20000 in
theorem gX1_searchInto_X5_put : GoodIn wsX1_searchInto (wsV RX1 97 RX5 yX5_put wsX5_put) := goodIn_app (goodIn_of _ (by decide +kernel)) ggX1_searchInto_X5_put
set_option maxRecDepth 20000 in
theorem ggX1_searchInto_X3_size : GoodIn wsX1_searchInto wsX3_size := goodIn_r _ [28, 14, 151, 152, 153] (by decide +kernel) (by decide +kernel)
set_option maxRecDepth 20000 in
theorem gX1_searchInto_X3_size : GoodIn wsX1_searchInto (wsV RX1 44 RX3 yX3_size wsX3_size) := goodIn_app (goodIn_of _ (by decide +kernel)) ggX1_searchInto_X3_size
set_option maxRecDepth 20000 in
theorem ggX1_searchInto_X3_at : GoodIn wsX1_searchInto wsX3_at := goodIn_r _ [32, 14, 33, 34, 35, 36, 37, 151, 152, 153] (by decide +kernel) (by decide +kernel)
set_option maxRecDepth 20000 in
theorem gX1_searchInto_X3_at : GoodIn wsX1_searchInto (wsV RX1 62 RX3 yX3_at wsX3_at) := goodIn_app (goodIn_of _ (by decide +kernel)) ggX1_searchInto_X3_at
set_option maxRecDepth 20000 in
theorem ggX1_searchInto_X0_total : GoodIn wsX1_searchInto wsX0_total := goodIn_r _ [42, 43, 155, 156, 157, 158] (by decide +kernel) (by decide +kernel)
set_option maxRecDepth 20000 in
theorem gX1_searchInto_X0_total : GoodIn wsX1_searchInto (wsV RX1 66 RX0 yX0_total wsX0_total) := goodIn_app (goodIn_of _ (by decide +kernel)) ggX1_searchInto_X0_total
set_option maxRecDepth 20000 in
theorem ggX1_searchInto_X5_times : GoodIn wsX1_searchInto wsX5_times := goodIn_r _ [47, 23, 24, 154] (by decide +kernel) (by decide +kernel)
set_option maxRecDepth 20000 in
theorem gX1_searchInto_X5_times : GoodIn wsX1_searchInto (wsV RX1 107 RX5 yX5_times wsX5_times) := goodIn_app (goodIn_of _ (by decide +kernel)) ggX1_searchInto_X5_times
set_option maxRecDepth 20000 in
theorem ggX1_searchInto_X1_addGains : GoodIn wsX1_searchInto wsX1_addGains := goodIn_r _ [52, 1, 53, 2, 54, 55, 56, 51, 57, 3, 58, 59, 60, 6, 61, 29, 30, 31, 12, 32, 14, 33, 34, 35, 36, 37, 38, 39, 40, 41, 42, 43, 62, 63, 64, 65, 66, 67, 68, 69, 70, 71, 72, 73, 74, 75, 76, 77, 78, 79, 80, 81, 82, 83, 84, 85, 86, 16, 17, 18, 19, 20, 21, 22, 23, 24, 87, 88, 45, 46, 47, 89, 90, 91, 92, 143, 144, 145, 146, 147, 148, 149, 150, 151, 152, 153, 155, 156, 157, 158, 154] (by decide +kernel) (by decide +kernel)
set_option maxRecDepth 20000 in
theorem gX1_searchInto_X1_addGains : GoodIn wsX1_searchInto (wsV RX1 110 RX1 yX1_addGains wsX1_addGains) := goodIn_app (goodIn_of _ (by decide +kernel)) ggX1_searchInto_X1_addGains
set_option maxRecDepth 20000 in
theorem ggX1_searchInto_X3_join : GoodIn wsX1_searchInto wsX3_join := goodIn_r _ [96, 14, 33, 151, 152, 153] (by decide +kernel) (by decide +kernel)
set_option maxRecDepth 20000 in
theorem gX1_searchInto_X3_join : GoodIn wsX1_searchInto (wsV RX1 48 RX3 yX3_join wsX3_join) := goodIn_app (goodIn_of _ (by decide +kernel)) ggX1_searchInto_X3_join
set_option maxRecDepth 20000 in
theorem ggX1_searchInto_X3_divide : GoodIn wsX1_searchInto wsX3_divide := goodIn_r _ [100, 14, 101, 102, 103, 104, 105, 106, 107, 108, 109, 110, 111, 18, 112, 23, 113, 114, 115, 116, 117, 16, 17, 19, 20, 21, 6, 22, 24, 118, 119, 120, 121, 122, 123, 124, 125, 77, 30, 31, 12, 32, 33, 34, 35, 36, 37, 126, 39, 40, 41, 42, 43, 127, 128, 129, 130, 131, 132, 133, 134, 135, 136, 137, 138, 139, 140, 141, 142, 45, 46, 47, 151, 152, 153, 159, 160, 161, 162, 163, 154, 155, 156, 157, 158] (by decide +kernel) (by decide +kernel)
set_option maxRecDepth 20000 in
theorem gX1_searchInto_X3_divide : GoodIn wsX1_searchInto (wsV RX1 113 RX3 yX3_divide wsX3_divide) := goodIn_app (goodIn_of _ (by decide +kernel)) ggX1_searchInto_X3_divide
theorem dX1_searchInto_0 : decode cX1_searchInto 0 = .ok (.aload_n 0, 1) := by decide +kernel
theorem dX1_searchInto_1 : decode cX1_searchInto 1 = .ok (.getfield 18, 3) := by decide +kernel
theorem dX1_searchInto_4 : decode cX1_searchInto 4 = .ok (.invokevirtual 59, 3) := by decide +kernel
theorem dX1_searchInto_7 : decode cX1_searchInto 7 = .ok (.aload_n 0, 1) := by decide +kernel
theorem dX1_searchInto_8 : decode cX1_searchInto 8 = .ok (.getfield 37, 3) := by decide +kernel
theorem dX1_searchInto_11 : decode cX1_searchInto 11 = .ok (.lconst 0, 1) := by decide +kernel
theorem dX1_searchInto_12 : decode cX1_searchInto 12 = .ok (.invokevirtual 97, 3) := by decide +kernel
theorem dX1_searchInto_15 : decode cX1_searchInto 15 = .ok (.iconst 0, 1) := by decide +kernel
theorem dX1_searchInto_16 : decode cX1_searchInto 16 = .ok (.istore_n 2, 1) := by decide +kernel
theorem dX1_searchInto_17 : decode cX1_searchInto 17 = .ok (.iload_n 2, 1) := by decide +kernel
theorem dX1_searchInto_18 : decode cX1_searchInto 18 = .ok (.aload_n 0, 1) := by decide +kernel
theorem dX1_searchInto_19 : decode cX1_searchInto 19 = .ok (.getfield 12, 3) := by decide +kernel
theorem dX1_searchInto_22 : decode cX1_searchInto 22 = .ok (.invokevirtual 44, 3) := by decide +kernel
theorem dX1_searchInto_25 : decode cX1_searchInto 25 = .ok (.bipush 6, 2) := by decide +kernel
theorem dX1_searchInto_27 : decode cX1_searchInto 27 = .ok (.invokestatic 101, 3) := by decide +kernel
theorem dX1_searchInto_30 : decode cX1_searchInto 30 = .ok (.if_icmp .ge 53, 3) := by decide +kernel
theorem dX1_searchInto_33 : decode cX1_searchInto 33 = .ok (.aload_n 0, 1) := by decide +kernel
theorem dX1_searchInto_34 : decode cX1_searchInto 34 = .ok (.getfield 12, 3) := by decide +kernel
theorem dX1_searchInto_37 : decode cX1_searchInto 37 = .ok (.aload_n 0, 1) := by decide +kernel
theorem dX1_searchInto_38 : decode cX1_searchInto 38 = .ok (.getfield 31, 3) := by decide +kernel
theorem dX1_searchInto_41 : decode cX1_searchInto 41 = .ok (.iload_n 2, 1) := by decide +kernel
theorem dX1_searchInto_42 : decode cX1_searchInto 42 = .ok (.iaload, 1) := by decide +kernel
theorem dX1_searchInto_43 : decode cX1_searchInto 43 = .ok (.invokevirtual 62, 3) := by decide +kernel
theorem dX1_searchInto_46 : decode cX1_searchInto 46 = .ok (.astore_n 3, 1) := by decide +kernel
theorem dX1_searchInto_47 : decode cX1_searchInto 47 = .ok (.aload_n 0, 1) := by decide +kernel
theorem dX1_searchInto_48 : decode cX1_searchInto 48 = .ok (.getfield 37, 3) := by decide +kernel
theorem dX1_searchInto_51 : decode cX1_searchInto 51 = .ok (.aload_n 3, 1) := by decide +kernel
theorem dX1_searchInto_52 : decode cX1_searchInto 52 = .ok (.invokevirtual 66, 3) := by decide +kernel
theorem dX1_searchInto_55 : decode cX1_searchInto 55 = .ok (.i2l, 1) := by decide +kernel
theorem dX1_searchInto_56 : decode cX1_searchInto 56 = .ok (.invokevirtual 107, 3) := by decide +kernel
theorem dX1_searchInto_59 : decode cX1_searchInto 59 = .ok (.aload_n 0, 1) := by decide +kernel
theorem dX1_searchInto_60 : decode cX1_searchInto 60 = .ok (.aload_n 0, 1) := by decide +kernel
theorem dX1_searchInto_61 : decode cX1_searchInto 61 = .ok (.getfield 31, 3) := by decide +kernel
theorem dX1_searchInto_64 : decode cX1_searchInto 64 = .ok (.iload_n 2, 1) := by decide +kernel
theorem dX1_searchInto_65 : decode cX1_searchInto 65 = .ok (.iaload, 1) := by decide +kernel
theorem dX1_searchInto_66 : decode cX1_searchInto 66 = .ok (.invokevirtual 110, 3) := by decide +kernel
theorem dX1_searchInto_69 : decode cX1_searchInto 69 = .ok (.aload_n 0, 1) := by decide +kernel
theorem dX1_searchInto_70 : decode cX1_searchInto 70 = .ok (.getfield 18, 3) := by decide +kernel
theorem dX1_searchInto_73 : decode cX1_searchInto 73 = .ok (.aload_n 3, 1) := by decide +kernel
theorem dX1_searchInto_74 : decode cX1_searchInto 74 = .ok (.invokevirtual 48, 3) := by decide +kernel
theorem dX1_searchInto_77 : decode cX1_searchInto 77 = .ok (.iinc 2 1, 3) := by decide +kernel
theorem dX1_searchInto_80 : decode cX1_searchInto 80 = .ok (.goto (-63), 3) := by decide +kernel
theorem dX1_searchInto_83 : decode cX1_searchInto 83 = .ok (.aload_n 0, 1) := by decide +kernel
theorem dX1_searchInto_84 : decode cX1_searchInto 84 = .ok (.getfield 18, 3) := by decide +kernel
theorem dX1_searchInto_87 : decode cX1_searchInto 87 = .ok (.aload_n 0, 1) := by decide +kernel
theorem dX1_searchInto_88 : decode cX1_searchInto 88 = .ok (.getfield 37, 3) := by decide +kernel
theorem dX1_searchInto_91 : decode cX1_searchInto 91 = .ok (.aload_n 1, 1) := by decide +kernel
theorem dX1_searchInto_92 : decode cX1_searchInto 92 = .ok (.invokevirtual 113, 3) := by decide +kernel
theorem dX1_searchInto_95 : decode cX1_searchInto 95 = .ok (.return_, 1) := by decide +kernel
set_option maxRecDepth 20000 in
theorem ggX1_addGains_X1_gainAbove : GoodIn wsX1_addGains wsX1_gainAbove := goodIn_r _ [8, 9, 10, 11, 12, 13, 14, 15, 16, 17, 18, 19, 20, 21, 22, 23, 24, 25, 26, 27, 28, 29, 30, 31, 32, 33, 34, 35, 36, 37, 38, 39, 40, 41, 42, 75, 76, 77, 78, 79, 80, 81, 82, 83, 84, 85, 86, 87, 88, 89] (by decide +kernel) (by decide +kernel)
set_option maxRecDepth 20000 in
theorem gX1_addGains_X1_gainAbove : GoodIn wsX1_addGains (wsV RX1 117 RX1 yX1_gainAbove wsX1_gainAbove) := goodIn_app (goodIn_of _ (by decide +kernel)) ggX1_addGains_X1_gainAbove
set_option maxRecDepth 20000 in
theorem ggX1_addGains_X3_leastFrom : GoodIn wsX1_addGains wsX3_leastFrom := goodIn_r _ [46, 20, 47, 16, 17, 18, 19, 21, 22, 23, 24, 25, 48, 49, 50, 29, 51, 36, 37, 83, 84, 85, 86, 87, 88, 89] (by decide +kernel) (by decide +kernel)
set_option maxRecDepth 20000 in
theorem gX1_addGains_X3_leastFrom : GoodIn wsX1_addGains (wsV RX1 120 RX3 yX3_leastFrom wsX3_leastFrom) := goodIn_app (goodIn_of _ (by decide +kernel)) ggX1_addGains_X3_leastFrom
set_option maxRecDepth 20000 in
theorem ggX1_addGains_X3_waysUpTo : GoodIn wsX1_addGains wsX3_waysUpTo := goodIn_r _ [55, 20, 56, 57, 58, 59, 60, 61, 62, 13, 63, 64, 65, 47, 16, 17, 18, 19, 21, 22, 23, 24, 25, 66, 33, 34, 29, 35, 36, 37, 38, 67, 68, 69, 70, 83, 84, 85, 90, 86, 87, 88, 89] (by decide +kernel) (by decide +kernel)
set_option maxRecDepth 20000 in
theorem gX1_addGains_X3_waysUpTo : GoodIn wsX1_addGains (wsV RX1 121 RX3 yX3_waysUpTo wsX3_waysUpTo) := goodIn_app (goodIn_of _ (by decide +kernel)) ggX1_addGains_X3_waysUpTo
set_option maxRecDepth 20000 in
theorem ggX1_addGains_X5_addTimes : GoodIn wsX1_addGains wsX5_addTimes := goodIn_r _ [74, 64, 65, 90] (by decide +kernel) (by decide +kernel)
set_option maxRecDepth 20000 in
theorem gX1_addGains_X5_addTimes : GoodIn wsX1_addGains (wsV RX1 125 RX5 yX5_addTimes wsX5_addTimes) := goodIn_app (goodIn_of _ (by decide +kernel)) ggX1_addGains_X5_addTimes
theorem dX1_addGains_0 : decode cX1_addGains 0 = .ok (.iconst 0, 1) := by decide +kernel
theorem dX1_addGains_1 : decode cX1_addGains 1 = .ok (.istore_n 2, 1) := by decide +kernel
theorem dX1_addGains_2 : decode cX1_addGains 2 = .ok (.aload_n 0, 1) := by decide +kernel
theorem dX1_addGains_3 : decode cX1_addGains 3 = .ok (.iload_n 2, 1) := by decide +kernel
theorem dX1_addGains_4 : decode cX1_addGains 4 = .ok (.iload_n 1, 1) := by decide +kernel
theorem dX1_addGains_5 : decode cX1_addGains 5 = .ok (.invokevirtual 117, 3) := by decide +kernel
theorem dX1_addGains_8 : decode cX1_addGains 8 = .ok (.istore_n 3, 1) := by decide +kernel
theorem dX1_addGains_9 : decode cX1_addGains 9 = .ok (.iconst 0, 1) := by decide +kernel
theorem dX1_addGains_10 : decode cX1_addGains 10 = .ok (.istore 4, 2) := by decide +kernel
theorem dX1_addGains_12 : decode cX1_addGains 12 = .ok (.iload 4, 2) := by decide +kernel
theorem dX1_addGains_14 : decode cX1_addGains 14 = .ok (.bipush 80, 2) := by decide +kernel
theorem dX1_addGains_16 : decode cX1_addGains 16 = .ok (.if_icmp .gt 78, 3) := by decide +kernel
theorem dX1_addGains_19 : decode cX1_addGains 19 = .ok (.iload_n 3, 1) := by decide +kernel
theorem dX1_addGains_20 : decode cX1_addGains 20 = .ok (.ifCond .le 74, 3) := by decide +kernel
theorem dX1_addGains_23 : decode cX1_addGains 23 = .ok (.aload_n 0, 1) := by decide +kernel
theorem dX1_addGains_24 : decode cX1_addGains 24 = .ok (.getfield 18, 3) := by decide +kernel
theorem dX1_addGains_27 : decode cX1_addGains 27 = .ok (.iload_n 2, 1) := by decide +kernel
theorem dX1_addGains_28 : decode cX1_addGains 28 = .ok (.iconst 1, 1) := by decide +kernel
theorem dX1_addGains_29 : decode cX1_addGains 29 = .ok (.iadd, 1) := by decide +kernel
theorem dX1_addGains_30 : decode cX1_addGains 30 = .ok (.invokevirtual 120, 3) := by decide +kernel
theorem dX1_addGains_33 : decode cX1_addGains 33 = .ok (.istore 5, 2) := by decide +kernel
theorem dX1_addGains_35 : decode cX1_addGains 35 = .ok (.iload 5, 2) := by decide +kernel
theorem dX1_addGains_37 : decode cX1_addGains 37 = .ok (.iconst (-1), 1) := by decide +kernel
theorem dX1_addGains_38 : decode cX1_addGains 38 = .ok (.if_icmp .ne 7, 3) := by decide +kernel
theorem dX1_addGains_41 : decode cX1_addGains 41 = .ok (.iconst 0, 1) := by decide +kernel
theorem dX1_addGains_42 : decode cX1_addGains 42 = .ok (.goto 10, 3) := by decide +kernel
theorem dX1_addGains_45 : decode cX1_addGains 45 = .ok (.aload_n 0, 1) := by decide +kernel
theorem dX1_addGains_46 : decode cX1_addGains 46 = .ok (.iload 5, 2) := by decide +kernel
theorem dX1_addGains_48 : decode cX1_addGains 48 = .ok (.iload_n 1, 1) := by decide +kernel
theorem dX1_addGains_49 : decode cX1_addGains 49 = .ok (.invokevirtual 117, 3) := by decide +kernel
theorem dX1_addGains_52 : decode cX1_addGains 52 = .ok (.istore 6, 2) := by decide +kernel
theorem dX1_addGains_54 : decode cX1_addGains 54 = .ok (.aload_n 0, 1) := by decide +kernel
theorem dX1_addGains_55 : decode cX1_addGains 55 = .ok (.getfield 18, 3) := by decide +kernel
theorem dX1_addGains_58 : decode cX1_addGains 58 = .ok (.iload_n 2, 1) := by decide +kernel
theorem dX1_addGains_59 : decode cX1_addGains 59 = .ok (.aload_n 0, 1) := by decide +kernel
theorem dX1_addGains_60 : decode cX1_addGains 60 = .ok (.getfield 41, 3) := by decide +kernel
theorem dX1_addGains_63 : decode cX1_addGains 63 = .ok (.invokevirtual 121, 3) := by decide +kernel
theorem dX1_addGains_66 : decode cX1_addGains 66 = .ok (.aload_n 0, 1) := by decide +kernel
theorem dX1_addGains_67 : decode cX1_addGains 67 = .ok (.getfield 37, 3) := by decide +kernel
theorem dX1_addGains_70 : decode cX1_addGains 70 = .ok (.aload_n 0, 1) := by decide +kernel
theorem dX1_addGains_71 : decode cX1_addGains 71 = .ok (.getfield 41, 3) := by decide +kernel
theorem dX1_addGains_74 : decode cX1_addGains 74 = .ok (.iload_n 3, 1) := by decide +kernel
theorem dX1_addGains_75 : decode cX1_addGains 75 = .ok (.iload 6, 2) := by decide +kernel
theorem dX1_addGains_77 : decode cX1_addGains 77 = .ok (.isub, 1) := by decide +kernel
theorem dX1_addGains_78 : decode cX1_addGains 78 = .ok (.i2l, 1) := by decide +kernel
theorem dX1_addGains_79 : decode cX1_addGains 79 = .ok (.invokevirtual 125, 3) := by decide +kernel
theorem dX1_addGains_82 : decode cX1_addGains 82 = .ok (.iload 5, 2) := by decide +kernel
theorem dX1_addGains_84 : decode cX1_addGains 84 = .ok (.istore_n 2, 1) := by decide +kernel
theorem dX1_addGains_85 : decode cX1_addGains 85 = .ok (.iload 6, 2) := by decide +kernel
theorem dX1_addGains_87 : decode cX1_addGains 87 = .ok (.istore_n 3, 1) := by decide +kernel
theorem dX1_addGains_88 : decode cX1_addGains 88 = .ok (.iinc 4 1, 3) := by decide +kernel
theorem dX1_addGains_91 : decode cX1_addGains 91 = .ok (.goto (-79), 3) := by decide +kernel
theorem dX1_addGains_94 : decode cX1_addGains 94 = .ok (.return_, 1) := by decide +kernel
set_option maxRecDepth 20000 in
theorem ggX1_gainAbove_X3_at : GoodIn wsX1_gainAbove wsX3_at := goodIn_r _ [11, 12, 13, 14, 15, 16, 17, 43, 44, 45] (by decide +kernel) (by decide +kernel)
set_option maxRecDepth 20000 in
theorem gX1_gainAbove_X3_at : GoodIn wsX1_gainAbove (wsV RX1 62 RX3 yX3_at wsX3_at) := goodIn_app (goodIn_of _ (by decide +kernel)) ggX1_gainAbove_X3_at
set_option maxRecDepth 20000 in
theorem ggX1_gainAbove_X0_total : GoodIn wsX1_gainAbove wsX0_total := goodIn_r _ [22, 23, 46, 47, 48, 49] (by decide +kernel) (by decide +kernel)
set_option maxRecDepth 20000 in
theorem gX1_gainAbove_X0_total : GoodIn wsX1_gainAbove (wsV RX1 66 RX0 yX0_total wsX0_total) := goodIn_app (goodIn_of _ (by decide +kernel)) ggX1_gainAbove_X0_total
set_option maxRecDepth 20000 in
theorem ggX1_gainAbove_X0_below : GoodIn wsX1_gainAbove wsX0_below := goodIn_r _ [27, 28, 29, 30, 46, 47, 48, 49] (by decide +kernel) (by decide +kernel)
set_option maxRecDepth 20000 in
theorem gX1_gainAbove_X0_below : GoodIn wsX1_gainAbove (wsV RX1 78 RX0 yX0_below wsX0_below) := goodIn_app (goodIn_of _ (by decide +kernel)) ggX1_gainAbove_X0_below
set_option maxRecDepth 20000 in
theorem ggX1_gainAbove_X0_gathered : GoodIn wsX1_gainAbove wsX0_gathered := goodIn_r _ [34, 28, 29, 30, 46, 47, 48, 49] (by decide +kernel) (by decide +kernel)
set_option maxRecDepth 20000 in
theorem gX1_gainAbove_X0_gathered : GoodIn wsX1_gainAbove (wsV RX1 75 RX0 yX0_gathered wsX0_gathered) := goodIn_app (goodIn_of _ (by decide +kernel)) ggX1_gainAbove_X0_gathered
theorem dX1_gainAbove_0 : decode cX1_gainAbove 0 = .ok (.aload_n 0, 1) := by decide +kernel
theorem dX1_gainAbove_1 : decode cX1_gainAbove 1 = .ok (.getfield 12, 3) := by decide +kernel
theorem dX1_gainAbove_4 : decode cX1_gainAbove 4 = .ok (.iload_n 2, 1) := by decide +kernel
theorem dX1_gainAbove_5 : decode cX1_gainAbove 5 = .ok (.invokevirtual 62, 3) := by decide +kernel
theorem dX1_gainAbove_8 : decode cX1_gainAbove 8 = .ok (.astore_n 3, 1) := by decide +kernel
theorem dX1_gainAbove_9 : decode cX1_gainAbove 9 = .ok (.aload_n 3, 1) := by decide +kernel
theorem dX1_gainAbove_10 : decode cX1_gainAbove 10 = .ok (.invokevirtual 66, 3) := by decide +kernel
theorem dX1_gainAbove_13 : decode cX1_gainAbove 13 = .ok (.aload_n 3, 1) := by decide +kernel
theorem dX1_gainAbove_14 : decode cX1_gainAbove 14 = .ok (.iload_n 1, 1) := by decide +kernel
theorem dX1_gainAbove_15 : decode cX1_gainAbove 15 = .ok (.invokevirtual 78, 3) := by decide +kernel
theorem dX1_gainAbove_18 : decode cX1_gainAbove 18 = .ok (.isub, 1) := by decide +kernel
theorem dX1_gainAbove_19 : decode cX1_gainAbove 19 = .ok (.istore 4, 2) := by decide +kernel
theorem dX1_gainAbove_21 : decode cX1_gainAbove 21 = .ok (.iconst 0, 1) := by decide +kernel
theorem dX1_gainAbove_22 : decode cX1_gainAbove 22 = .ok (.aload_n 3, 1) := by decide +kernel
theorem dX1_gainAbove_23 : decode cX1_gainAbove 23 = .ok (.iload_n 1, 1) := by decide +kernel
theorem dX1_gainAbove_24 : decode cX1_gainAbove 24 = .ok (.invokevirtual 75, 3) := by decide +kernel
theorem dX1_gainAbove_27 : decode cX1_gainAbove 27 = .ok (.iload_n 1, 1) := by decide +kernel
theorem dX1_gainAbove_28 : decode cX1_gainAbove 28 = .ok (.iload 4, 2) := by decide +kernel
theorem dX1_gainAbove_30 : decode cX1_gainAbove 30 = .ok (.imul, 1) := by decide +kernel
theorem dX1_gainAbove_31 : decode cX1_gainAbove 31 = .ok (.isub, 1) := by decide +kernel
theorem dX1_gainAbove_32 : decode cX1_gainAbove 32 = .ok (.aload_n 0, 1) := by decide +kernel
theorem dX1_gainAbove_33 : decode cX1_gainAbove 33 = .ok (.getfield 21, 3) := by decide +kernel
theorem dX1_gainAbove_36 : decode cX1_gainAbove 36 = .ok (.iload_n 2, 1) := by decide +kernel
theorem dX1_gainAbove_37 : decode cX1_gainAbove 37 = .ok (.iaload, 1) := by decide +kernel
theorem dX1_gainAbove_38 : decode cX1_gainAbove 38 = .ok (.aload_n 3, 1) := by decide +kernel
theorem dX1_gainAbove_39 : decode cX1_gainAbove 39 = .ok (.invokevirtual 66, 3) := by decide +kernel
theorem dX1_gainAbove_42 : decode cX1_gainAbove 42 = .ok (.imul, 1) := by decide +kernel
theorem dX1_gainAbove_43 : decode cX1_gainAbove 43 = .ok (.isub, 1) := by decide +kernel
theorem dX1_gainAbove_44 : decode cX1_gainAbove 44 = .ok (.invokestatic 129, 3) := by decide +kernel
theorem dX1_gainAbove_47 : decode cX1_gainAbove 47 = .ok (.ireturn, 1) := by decide +kernel
