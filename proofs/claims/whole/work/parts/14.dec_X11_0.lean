set_option maxRecDepth 20000 in
theorem ggX11_init_X11_set : GoodIn wsX11_init wsX11_set := goodIn_r _ [27, 6, 28, 29, 30, 26, 31, 32, 33, 34, 35, 36, 37, 38, 39, 40, 41, 42, 43, 44, 45, 46, 47, 48, 49, 50, 51, 52, 53, 54, 55, 56, 57, 58, 59, 60] (by decide +kernel) (by decide +kernel)
set_option maxRecDepth 20000 in
theorem gX11_init_X11_set : GoodIn wsX11_init (wsV RX11 60 RX11 yX11_set wsX11_set) := goodIn_app (goodIn_of _ (by decide +kernel)) ggX11_init_X11_set
theorem dX11_init_0 : decode cX11_init 0 = .ok (.aload_n 0, 1) := by decide +kernel
theorem dX11_init_1 : decode cX11_init 1 = .ok (.invokespecial 1, 3) := by decide +kernel
theorem dX11_init_4 : decode cX11_init 4 = .ok (.aload_n 0, 1) := by decide +kernel
theorem dX11_init_5 : decode cX11_init 5 = .ok (.ldc 9, 2) := by decide +kernel
theorem dX11_init_7 : decode cX11_init 7 = .ok (.newarray .long, 2) := by decide +kernel
theorem dX11_init_9 : decode cX11_init 9 = .ok (.putfield 10, 3) := by decide +kernel
theorem dX11_init_12 : decode cX11_init 12 = .ok (.aload_n 0, 1) := by decide +kernel
theorem dX11_init_13 : decode cX11_init 13 = .ok (.bipush 10, 2) := by decide +kernel
theorem dX11_init_15 : decode cX11_init 15 = .ok (.newarray .int, 2) := by decide +kernel
theorem dX11_init_17 : decode cX11_init 17 = .ok (.putfield 14, 3) := by decide +kernel
theorem dX11_init_20 : decode cX11_init 20 = .ok (.aload_n 0, 1) := by decide +kernel
theorem dX11_init_21 : decode cX11_init 21 = .ok (.bipush 10, 2) := by decide +kernel
theorem dX11_init_23 : decode cX11_init 23 = .ok (.newarray .int, 2) := by decide +kernel
theorem dX11_init_25 : decode cX11_init 25 = .ok (.putfield 18, 3) := by decide +kernel
theorem dX11_init_28 : decode cX11_init 28 = .ok (.aload_n 0, 1) := by decide +kernel
theorem dX11_init_29 : decode cX11_init 29 = .ok (.sipush 400, 3) := by decide +kernel
theorem dX11_init_32 : decode cX11_init 32 = .ok (.newarray .long, 2) := by decide +kernel
theorem dX11_init_34 : decode cX11_init 34 = .ok (.putfield 21, 3) := by decide +kernel
theorem dX11_init_37 : decode cX11_init 37 = .ok (.aload_n 0, 1) := by decide +kernel
theorem dX11_init_38 : decode cX11_init 38 = .ok (.bipush 16, 2) := by decide +kernel
theorem dX11_init_40 : decode cX11_init 40 = .ok (.newarray .int, 2) := by decide +kernel
theorem dX11_init_42 : decode cX11_init 42 = .ok (.putfield 24, 3) := by decide +kernel
theorem dX11_init_45 : decode cX11_init 45 = .ok (.aload_n 0, 1) := by decide +kernel
theorem dX11_init_46 : decode cX11_init 46 = .ok (.sipush 128, 3) := by decide +kernel
theorem dX11_init_49 : decode cX11_init 49 = .ok (.newarray .int, 2) := by decide +kernel
theorem dX11_init_51 : decode cX11_init 51 = .ok (.putfield 27, 3) := by decide +kernel
theorem dX11_init_54 : decode cX11_init 54 = .ok (.aload_n 0, 1) := by decide +kernel
theorem dX11_init_55 : decode cX11_init 55 = .ok (.sipush 128, 3) := by decide +kernel
theorem dX11_init_58 : decode cX11_init 58 = .ok (.newarray .int, 2) := by decide +kernel
theorem dX11_init_60 : decode cX11_init 60 = .ok (.putfield 30, 3) := by decide +kernel
theorem dX11_init_63 : decode cX11_init 63 = .ok (.aload_n 0, 1) := by decide +kernel
theorem dX11_init_64 : decode cX11_init 64 = .ok (.bipush 16, 2) := by decide +kernel
theorem dX11_init_66 : decode cX11_init 66 = .ok (.newarray .int, 2) := by decide +kernel
theorem dX11_init_68 : decode cX11_init 68 = .ok (.putfield 33, 3) := by decide +kernel
theorem dX11_init_71 : decode cX11_init 71 = .ok (.aload_n 0, 1) := by decide +kernel
theorem dX11_init_72 : decode cX11_init 72 = .ok (.bipush 10, 2) := by decide +kernel
theorem dX11_init_74 : decode cX11_init 74 = .ok (.newarray .int, 2) := by decide +kernel
theorem dX11_init_76 : decode cX11_init 76 = .ok (.putfield 36, 3) := by decide +kernel
theorem dX11_init_79 : decode cX11_init 79 = .ok (.aload_n 0, 1) := by decide +kernel
theorem dX11_init_80 : decode cX11_init 80 = .ok (.bipush 10, 2) := by decide +kernel
theorem dX11_init_82 : decode cX11_init 82 = .ok (.newarray .int, 2) := by decide +kernel
theorem dX11_init_84 : decode cX11_init 84 = .ok (.putfield 39, 3) := by decide +kernel
theorem dX11_init_87 : decode cX11_init 87 = .ok (.aload_n 0, 1) := by decide +kernel
theorem dX11_init_88 : decode cX11_init 88 = .ok (.bipush 21, 2) := by decide +kernel
theorem dX11_init_90 : decode cX11_init 90 = .ok (.newarray .int, 2) := by decide +kernel
theorem dX11_init_92 : decode cX11_init 92 = .ok (.putfield 42, 3) := by decide +kernel
theorem dX11_init_95 : decode cX11_init 95 = .ok (.aload_n 0, 1) := by decide +kernel
theorem dX11_init_96 : decode cX11_init 96 = .ok (.bipush 20, 2) := by decide +kernel
theorem dX11_init_98 : decode cX11_init 98 = .ok (.newarray .int, 2) := by decide +kernel
theorem dX11_init_100 : decode cX11_init 100 = .ok (.putfield 45, 3) := by decide +kernel
theorem dX11_init_103 : decode cX11_init 103 = .ok (.aload_n 0, 1) := by decide +kernel
theorem dX11_init_104 : decode cX11_init 104 = .ok (.bipush 20, 2) := by decide +kernel
theorem dX11_init_106 : decode cX11_init 106 = .ok (.newarray .int, 2) := by decide +kernel
theorem dX11_init_108 : decode cX11_init 108 = .ok (.putfield 48, 3) := by decide +kernel
theorem dX11_init_111 : decode cX11_init 111 = .ok (.aload_n 0, 1) := by decide +kernel
theorem dX11_init_112 : decode cX11_init 112 = .ok (.bipush 6, 2) := by decide +kernel
theorem dX11_init_114 : decode cX11_init 114 = .ok (.newarray .int, 2) := by decide +kernel
theorem dX11_init_116 : decode cX11_init 116 = .ok (.putfield 51, 3) := by decide +kernel
theorem dX11_init_119 : decode cX11_init 119 = .ok (.aload_n 0, 1) := by decide +kernel
theorem dX11_init_120 : decode cX11_init 120 = .ok (.bipush 6, 2) := by decide +kernel
theorem dX11_init_122 : decode cX11_init 122 = .ok (.newarray .int, 2) := by decide +kernel
theorem dX11_init_124 : decode cX11_init 124 = .ok (.putfield 54, 3) := by decide +kernel
theorem dX11_init_127 : decode cX11_init 127 = .ok (.aload_n 0, 1) := by decide +kernel
theorem dX11_init_128 : decode cX11_init 128 = .ok (.bipush 50, 2) := by decide +kernel
theorem dX11_init_130 : decode cX11_init 130 = .ok (.newarray .int, 2) := by decide +kernel
theorem dX11_init_132 : decode cX11_init 132 = .ok (.putfield 57, 3) := by decide +kernel
theorem dX11_init_135 : decode cX11_init 135 = .ok (.aload_n 0, 1) := by decide +kernel
theorem dX11_init_136 : decode cX11_init 136 = .ok (.iconst 0, 1) := by decide +kernel
theorem dX11_init_137 : decode cX11_init 137 = .ok (.lconst 0, 1) := by decide +kernel
theorem dX11_init_138 : decode cX11_init 138 = .ok (.invokevirtual 60, 3) := by decide +kernel
theorem dX11_init_141 : decode cX11_init 141 = .ok (.aload_n 0, 1) := by decide +kernel
theorem dX11_init_142 : decode cX11_init 142 = .ok (.iconst 1, 1) := by decide +kernel
theorem dX11_init_143 : decode cX11_init 143 = .ok (.lconst 1, 1) := by decide +kernel
theorem dX11_init_144 : decode cX11_init 144 = .ok (.invokevirtual 60, 3) := by decide +kernel
theorem dX11_init_147 : decode cX11_init 147 = .ok (.return_, 1) := by decide +kernel
set_option maxRecDepth 20000 in
theorem ggX11_carry_J9_floorMod_f86c9 : GoodIn wsX11_carry wsJ9_floorMod_f86c9 := goodIn_r _ [6] (by decide +kernel) (by decide +kernel)
set_option maxRecDepth 20000 in
theorem gX11_carry_J9_floorMod_f86c9 : GoodIn wsX11_carry (va_wsS RX11 66 yJ9_floorMod_f86c9 wsJ9_floorMod_f86c9) := goodIn_app (goodIn_of _ (by decide +kernel)) ggX11_carry_J9_floorMod_f86c9
set_option maxRecDepth 20000 in
theorem ggX11_carry_J9_floorDiv_f86c9 : GoodIn wsX11_carry wsJ9_floorDiv_f86c9 := goodIn_r _ [9] (by decide +kernel) (by decide +kernel)
set_option maxRecDepth 20000 in
theorem gX11_carry_J9_floorDiv_f86c9 : GoodIn wsX11_carry (va_wsS RX11 72 yJ9_floorDiv_f86c9 wsJ9_floorDiv_f86c9) := goodIn_app (goodIn_of _ (by decide +kernel)) ggX11_carry_J9_floorDiv_f86c9
theorem dX11_carry_0 : decode cX11_carry 0 = .ok (.iconst 0, 1) := by decide +kernel
theorem dX11_carry_1 : decode cX11_carry 1 = .ok (.istore_n 2, 1) := by decide +kernel
theorem dX11_carry_2 : decode cX11_carry 2 = .ok (.iload_n 2, 1) := by decide +kernel
theorem dX11_carry_3 : decode cX11_carry 3 = .ok (.bipush 9, 2) := by decide +kernel
theorem dX11_carry_5 : decode cX11_carry 5 = .ok (.if_icmp .ge 62, 3) := by decide +kernel
theorem dX11_carry_8 : decode cX11_carry 8 = .ok (.aload_n 0, 1) := by decide +kernel
theorem dX11_carry_9 : decode cX11_carry 9 = .ok (.getfield 10, 3) := by decide +kernel
theorem dX11_carry_12 : decode cX11_carry 12 = .ok (.bipush 10, 2) := by decide +kernel
theorem dX11_carry_14 : decode cX11_carry 14 = .ok (.iload_n 1, 1) := by decide +kernel
theorem dX11_carry_15 : decode cX11_carry 15 = .ok (.imul, 1) := by decide +kernel
theorem dX11_carry_16 : decode cX11_carry 16 = .ok (.iload_n 2, 1) := by decide +kernel
theorem dX11_carry_17 : decode cX11_carry 17 = .ok (.iadd, 1) := by decide +kernel
theorem dX11_carry_18 : decode cX11_carry 18 = .ok (.laload, 1) := by decide +kernel
theorem dX11_carry_19 : decode cX11_carry 19 = .ok (.lstore_n 3, 1) := by decide +kernel
theorem dX11_carry_20 : decode cX11_carry 20 = .ok (.aload_n 0, 1) := by decide +kernel
theorem dX11_carry_21 : decode cX11_carry 21 = .ok (.getfield 10, 3) := by decide +kernel
theorem dX11_carry_24 : decode cX11_carry 24 = .ok (.bipush 10, 2) := by decide +kernel
theorem dX11_carry_26 : decode cX11_carry 26 = .ok (.iload_n 1, 1) := by decide +kernel
theorem dX11_carry_27 : decode cX11_carry 27 = .ok (.imul, 1) := by decide +kernel
theorem dX11_carry_28 : decode cX11_carry 28 = .ok (.iload_n 2, 1) := by decide +kernel
theorem dX11_carry_29 : decode cX11_carry 29 = .ok (.iadd, 1) := by decide +kernel
theorem dX11_carry_30 : decode cX11_carry 30 = .ok (.lload_n 3, 1) := by decide +kernel
theorem dX11_carry_31 : decode cX11_carry 31 = .ok (.ldc2_w 64, 3) := by decide +kernel
theorem dX11_carry_34 : decode cX11_carry 34 = .ok (.invokestatic 66, 3) := by decide +kernel
theorem dX11_carry_37 : decode cX11_carry 37 = .ok (.lastore, 1) := by decide +kernel
theorem dX11_carry_38 : decode cX11_carry 38 = .ok (.aload_n 0, 1) := by decide +kernel
theorem dX11_carry_39 : decode cX11_carry 39 = .ok (.getfield 10, 3) := by decide +kernel
theorem dX11_carry_42 : decode cX11_carry 42 = .ok (.bipush 10, 2) := by decide +kernel
theorem dX11_carry_44 : decode cX11_carry 44 = .ok (.iload_n 1, 1) := by decide +kernel
theorem dX11_carry_45 : decode cX11_carry 45 = .ok (.imul, 1) := by decide +kernel
theorem dX11_carry_46 : decode cX11_carry 46 = .ok (.iload_n 2, 1) := by decide +kernel
theorem dX11_carry_47 : decode cX11_carry 47 = .ok (.iadd, 1) := by decide +kernel
theorem dX11_carry_48 : decode cX11_carry 48 = .ok (.iconst 1, 1) := by decide +kernel
theorem dX11_carry_49 : decode cX11_carry 49 = .ok (.iadd, 1) := by decide +kernel
theorem dX11_carry_50 : decode cX11_carry 50 = .ok (.dup2, 1) := by decide +kernel
theorem dX11_carry_51 : decode cX11_carry 51 = .ok (.laload, 1) := by decide +kernel
theorem dX11_carry_52 : decode cX11_carry 52 = .ok (.lload_n 3, 1) := by decide +kernel
theorem dX11_carry_53 : decode cX11_carry 53 = .ok (.ldc2_w 64, 3) := by decide +kernel
theorem dX11_carry_56 : decode cX11_carry 56 = .ok (.invokestatic 72, 3) := by decide +kernel
theorem dX11_carry_59 : decode cX11_carry 59 = .ok (.ladd, 1) := by decide +kernel
theorem dX11_carry_60 : decode cX11_carry 60 = .ok (.lastore, 1) := by decide +kernel
theorem dX11_carry_61 : decode cX11_carry 61 = .ok (.iinc 2 1, 3) := by decide +kernel
theorem dX11_carry_64 : decode cX11_carry 64 = .ok (.goto (-62), 3) := by decide +kernel
theorem dX11_carry_67 : decode cX11_carry 67 = .ok (.return_, 1) := by decide +kernel
set_option maxRecDepth 20000 in
theorem ggX11_set_X11_carry : GoodIn wsX11_set wsX11_carry := goodIn_r _ [6, 1, 7, 8, 9, 10, 11, 12, 13, 14, 15, 16, 17, 18, 19, 20, 21, 22, 23, 24, 25, 26, 27, 28, 29, 30, 31, 32, 33, 34, 35] (by decide +kernel) (by decide +kernel)
set_option maxRecDepth 20000 in
theorem gX11_set_X11_carry : GoodIn wsX11_set (wsV RX11 75 RX11 yX11_carry wsX11_carry) := goodIn_app (goodIn_of _ (by decide +kernel)) ggX11_set_X11_carry
theorem dX11_set_0 : decode cX11_set 0 = .ok (.iconst 0, 1) := by decide +kernel
theorem dX11_set_1 : decode cX11_set 1 = .ok (.istore 4, 2) := by decide +kernel
theorem dX11_set_3 : decode cX11_set 3 = .ok (.iload 4, 2) := by decide +kernel
theorem dX11_set_5 : decode cX11_set 5 = .ok (.bipush 10, 2) := by decide +kernel
theorem dX11_set_7 : decode cX11_set 7 = .ok (.if_icmp .ge 31, 3) := by decide +kernel
theorem dX11_set_10 : decode cX11_set 10 = .ok (.aload_n 0, 1) := by decide +kernel
theorem dX11_set_11 : decode cX11_set 11 = .ok (.getfield 10, 3) := by decide +kernel
theorem dX11_set_14 : decode cX11_set 14 = .ok (.bipush 10, 2) := by decide +kernel
theorem dX11_set_16 : decode cX11_set 16 = .ok (.iload_n 1, 1) := by decide +kernel
theorem dX11_set_17 : decode cX11_set 17 = .ok (.imul, 1) := by decide +kernel
theorem dX11_set_18 : decode cX11_set 18 = .ok (.iload 4, 2) := by decide +kernel
theorem dX11_set_20 : decode cX11_set 20 = .ok (.iadd, 1) := by decide +kernel
theorem dX11_set_21 : decode cX11_set 21 = .ok (.iload 4, 2) := by decide +kernel
theorem dX11_set_23 : decode cX11_set 23 = .ok (.ifCond .ne 7, 3) := by decide +kernel
theorem dX11_set_26 : decode cX11_set 26 = .ok (.lload_n 2, 1) := by decide +kernel
theorem dX11_set_27 : decode cX11_set 27 = .ok (.goto 4, 3) := by decide +kernel
theorem dX11_set_30 : decode cX11_set 30 = .ok (.lconst 0, 1) := by decide +kernel
theorem dX11_set_31 : decode cX11_set 31 = .ok (.lastore, 1) := by decide +kernel
theorem dX11_set_32 : decode cX11_set 32 = .ok (.iinc 4 1, 3) := by decide +kernel
theorem dX11_set_35 : decode cX11_set 35 = .ok (.goto (-32), 3) := by decide +kernel
theorem dX11_set_38 : decode cX11_set 38 = .ok (.aload_n 0, 1) := by decide +kernel
theorem dX11_set_39 : decode cX11_set 39 = .ok (.iload_n 1, 1) := by decide +kernel
theorem dX11_set_40 : decode cX11_set 40 = .ok (.invokevirtual 75, 3) := by decide +kernel
theorem dX11_set_43 : decode cX11_set 43 = .ok (.return_, 1) := by decide +kernel
theorem dX11_copy_0 : decode cX11_copy 0 = .ok (.iconst 0, 1) := by decide +kernel
theorem dX11_copy_1 : decode cX11_copy 1 = .ok (.istore_n 3, 1) := by decide +kernel
theorem dX11_copy_2 : decode cX11_copy 2 = .ok (.iload_n 3, 1) := by decide +kernel
theorem dX11_copy_3 : decode cX11_copy 3 = .ok (.bipush 10, 2) := by decide +kernel
theorem dX11_copy_5 : decode cX11_copy 5 = .ok (.if_icmp .ge 31, 3) := by decide +kernel
theorem dX11_copy_8 : decode cX11_copy 8 = .ok (.aload_n 0, 1) := by decide +kernel
theorem dX11_copy_9 : decode cX11_copy 9 = .ok (.getfield 10, 3) := by decide +kernel
theorem dX11_copy_12 : decode cX11_copy 12 = .ok (.bipush 10, 2) := by decide +kernel
theorem dX11_copy_14 : decode cX11_copy 14 = .ok (.iload_n 1, 1) := by decide +kernel
theorem dX11_copy_15 : decode cX11_copy 15 = .ok (.imul, 1) := by decide +kernel
theorem dX11_copy_16 : decode cX11_copy 16 = .ok (.iload_n 3, 1) := by decide +kernel
theorem dX11_copy_17 : decode cX11_copy 17 = .ok (.iadd, 1) := by decide +kernel
theorem dX11_copy_18 : decode cX11_copy 18 = .ok (.aload_n 0, 1) := by decide +kernel
theorem dX11_copy_19 : decode cX11_copy 19 = .ok (.getfield 10, 3) := by decide +kernel
theorem dX11_copy_22 : decode cX11_copy 22 = .ok (.bipush 10, 2) := by decide +kernel
theorem dX11_copy_24 : decode cX11_copy 24 = .ok (.iload_n 2, 1) := by decide +kernel
theorem dX11_copy_25 : decode cX11_copy 25 = .ok (.imul, 1) := by decide +kernel
theorem dX11_copy_26 : decode cX11_copy 26 = .ok (.iload_n 3, 1) := by decide +kernel
theorem dX11_copy_27 : decode cX11_copy 27 = .ok (.iadd, 1) := by decide +kernel
theorem dX11_copy_28 : decode cX11_copy 28 = .ok (.laload, 1) := by decide +kernel
theorem dX11_copy_29 : decode cX11_copy 29 = .ok (.lastore, 1) := by decide +kernel
theorem dX11_copy_30 : decode cX11_copy 30 = .ok (.iinc 3 1, 3) := by decide +kernel
theorem dX11_copy_33 : decode cX11_copy 33 = .ok (.goto (-31), 3) := by decide +kernel
theorem dX11_copy_36 : decode cX11_copy 36 = .ok (.return_, 1) := by decide +kernel
set_option maxRecDepth 20000 in
theorem ggX11_more_X11_carry : GoodIn wsX11_more wsX11_carry := goodIn_r _ [6, 1, 7, 8, 9, 10, 11, 12, 13, 14, 15, 16, 17, 18, 19, 20, 21, 22, 23, 24, 25, 26, 27, 28, 29, 30, 31, 32, 33, 34, 35] (by decide +kernel) (by decide +kernel)
set_option maxRecDepth 20000 in
theorem gX11_more_X11_carry : GoodIn wsX11_more (wsV RX11 75 RX11 yX11_carry wsX11_carry) := goodIn_app (goodIn_of _ (by decide +kernel)) ggX11_more_X11_carry
theorem dX11_more_0 : decode cX11_more 0 = .ok (.iconst 0, 1) := by decide +kernel
theorem dX11_more_1 : decode cX11_more 1 = .ok (.istore 5, 2) := by decide +kernel
theorem dX11_more_3 : decode cX11_more 3 = .ok (.iload 5, 2) := by decide +kernel
theorem dX11_more_5 : decode cX11_more 5 = .ok (.bipush 10, 2) := by decide +kernel
theorem dX11_more_7 : decode cX11_more 7 = .ok (.if_icmp .ge 38, 3) := by decide +kernel
theorem dX11_more_10 : decode cX11_more 10 = .ok (.aload_n 0, 1) := by decide +kernel
theorem dX11_more_11 : decode cX11_more 11 = .ok (.getfield 10, 3) := by decide +kernel
theorem dX11_more_14 : decode cX11_more 14 = .ok (.bipush 10, 2) := by decide +kernel
theorem dX11_more_16 : decode cX11_more 16 = .ok (.iload_n 1, 1) := by decide +kernel
theorem dX11_more_17 : decode cX11_more 17 = .ok (.imul, 1) := by decide +kernel
theorem dX11_more_18 : decode cX11_more 18 = .ok (.iload 5, 2) := by decide +kernel
theorem dX11_more_20 : decode cX11_more 20 = .ok (.iadd, 1) := by decide +kernel
theorem dX11_more_21 : decode cX11_more 21 = .ok (.dup2, 1) := by decide +kernel
theorem dX11_more_22 : decode cX11_more 22 = .ok (.laload, 1) := by decide +kernel
theorem dX11_more_23 : decode cX11_more 23 = .ok (.aload_n 0, 1) := by decide +kernel
theorem dX11_more_24 : decode cX11_more 24 = .ok (.getfield 10, 3) := by decide +kernel
theorem dX11_more_27 : decode cX11_more 27 = .ok (.bipush 10, 2) := by decide +kernel
theorem dX11_more_29 : decode cX11_more 29 = .ok (.iload_n 2, 1) := by decide +kernel
theorem dX11_more_30 : decode cX11_more 30 = .ok (.imul, 1) := by decide +kernel
theorem dX11_more_31 : decode cX11_more 31 = .ok (.iload 5, 2) := by decide +kernel
theorem dX11_more_33 : decode cX11_more 33 = .ok (.iadd, 1) := by decide +kernel
theorem dX11_more_34 : decode cX11_more 34 = .ok (.laload, 1) := by decide +kernel
theorem dX11_more_35 : decode cX11_more 35 = .ok (.lload_n 3, 1) := by decide +kernel
theorem dX11_more_36 : decode cX11_more 36 = .ok (.lmul, 1) := by decide +kernel
theorem dX11_more_37 : decode cX11_more 37 = .ok (.ladd, 1) := by decide +kernel
theorem dX11_more_38 : decode cX11_more 38 = .ok (.lastore, 1) := by decide +kernel
theorem dX11_more_39 : decode cX11_more 39 = .ok (.iinc 5 1, 3) := by decide +kernel
theorem dX11_more_42 : decode cX11_more 42 = .ok (.goto (-39), 3) := by decide +kernel
theorem dX11_more_45 : decode cX11_more 45 = .ok (.aload_n 0, 1) := by decide +kernel
theorem dX11_more_46 : decode cX11_more 46 = .ok (.iload_n 1, 1) := by decide +kernel
theorem dX11_more_47 : decode cX11_more 47 = .ok (.invokevirtual 75, 3) := by decide +kernel
theorem dX11_more_50 : decode cX11_more 50 = .ok (.return_, 1) := by decide +kernel
set_option maxRecDepth 20000 in
theorem ggX11_times_X11_carry : GoodIn wsX11_times wsX11_carry := goodIn_r _ [6, 1, 7, 8, 9, 10, 11, 12, 13, 14, 15, 16, 17, 18, 19, 20, 21, 22, 23, 24, 25, 26, 27, 28, 29, 30, 31, 32, 33, 34, 35] (by decide +kernel) (by decide +kernel)
set_option maxRecDepth 20000 in
theorem gX11_times_X11_carry : GoodIn wsX11_times (wsV RX11 75 RX11 yX11_carry wsX11_carry) := goodIn_app (goodIn_of _ (by decide +kernel)) ggX11_times_X11_carry
theorem dX11_times_0 : decode cX11_times 0 = .ok (.iconst 0, 1) := by decide +kernel
theorem dX11_times_1 : decode cX11_times 1 = .ok (.istore 4, 2) := by decide +kernel
theorem dX11_times_3 : decode cX11_times 3 = .ok (.iload 4, 2) := by decide +kernel
theorem dX11_times_5 : decode cX11_times 5 = .ok (.bipush 10, 2) := by decide +kernel
theorem dX11_times_7 : decode cX11_times 7 = .ok (.if_icmp .ge 25, 3) := by decide +kernel
theorem dX11_times_10 : decode cX11_times 10 = .ok (.aload_n 0, 1) := by decide +kernel
theorem dX11_times_11 : decode cX11_times 11 = .ok (.getfield 10, 3) := by decide +kernel
theorem dX11_times_14 : decode cX11_times 14 = .ok (.bipush 10, 2) := by decide +kernel
theorem dX11_times_16 : decode cX11_times 16 = .ok (.iload_n 1, 1) := by decide +kernel
theorem dX11_times_17 : decode cX11_times 17 = .ok (.imul, 1) := by decide +kernel
theorem dX11_times_18 : decode cX11_times 18 = .ok (.iload 4, 2) := by decide +kernel
theorem dX11_times_20 : decode cX11_times 20 = .ok (.iadd, 1) := by decide +kernel
theorem dX11_times_21 : decode cX11_times 21 = .ok (.dup2, 1) := by decide +kernel
theorem dX11_times_22 : decode cX11_times 22 = .ok (.laload, 1) := by decide +kernel
theorem dX11_times_23 : decode cX11_times 23 = .ok (.lload_n 2, 1) := by decide +kernel
theorem dX11_times_24 : decode cX11_times 24 = .ok (.lmul, 1) := by decide +kernel
theorem dX11_times_25 : decode cX11_times 25 = .ok (.lastore, 1) := by decide +kernel
theorem dX11_times_26 : decode cX11_times 26 = .ok (.iinc 4 1, 3) := by decide +kernel
theorem dX11_times_29 : decode cX11_times 29 = .ok (.goto (-26), 3) := by decide +kernel
theorem dX11_times_32 : decode cX11_times 32 = .ok (.aload_n 0, 1) := by decide +kernel
theorem dX11_times_33 : decode cX11_times 33 = .ok (.iload_n 1, 1) := by decide +kernel
theorem dX11_times_34 : decode cX11_times 34 = .ok (.invokevirtual 75, 3) := by decide +kernel
theorem dX11_times_37 : decode cX11_times 37 = .ok (.return_, 1) := by decide +kernel
theorem dX11_over_0 : decode cX11_over 0 = .ok (.lconst 0, 1) := by decide +kernel
theorem dX11_over_1 : decode cX11_over 1 = .ok (.lstore 4, 2) := by decide +kernel
theorem dX11_over_3 : decode cX11_over 3 = .ok (.bipush 9, 2) := by decide +kernel
theorem dX11_over_5 : decode cX11_over 5 = .ok (.istore 6, 2) := by decide +kernel
theorem dX11_over_7 : decode cX11_over 7 = .ok (.iload 6, 2) := by decide +kernel
theorem dX11_over_9 : decode cX11_over 9 = .ok (.ifCond .lt 52, 3) := by decide +kernel
theorem dX11_over_12 : decode cX11_over 12 = .ok (.lload 4, 2) := by decide +kernel
theorem dX11_over_14 : decode cX11_over 14 = .ok (.ldc2_w 64, 3) := by decide +kernel
theorem dX11_over_17 : decode cX11_over 17 = .ok (.lmul, 1) := by decide +kernel
theorem dX11_over_18 : decode cX11_over 18 = .ok (.aload_n 0, 1) := by decide +kernel
theorem dX11_over_19 : decode cX11_over 19 = .ok (.getfield 10, 3) := by decide +kernel
theorem dX11_over_22 : decode cX11_over 22 = .ok (.bipush 10, 2) := by decide +kernel
theorem dX11_over_24 : decode cX11_over 24 = .ok (.iload_n 1, 1) := by decide +kernel
theorem dX11_over_25 : decode cX11_over 25 = .ok (.imul, 1) := by decide +kernel
theorem dX11_over_26 : decode cX11_over 26 = .ok (.iload 6, 2) := by decide +kernel
theorem dX11_over_28 : decode cX11_over 28 = .ok (.iadd, 1) := by decide +kernel
theorem dX11_over_29 : decode cX11_over 29 = .ok (.laload, 1) := by decide +kernel
theorem dX11_over_30 : decode cX11_over 30 = .ok (.ladd, 1) := by decide +kernel
theorem dX11_over_31 : decode cX11_over 31 = .ok (.lstore 7, 2) := by decide +kernel
theorem dX11_over_33 : decode cX11_over 33 = .ok (.aload_n 0, 1) := by decide +kernel
theorem dX11_over_34 : decode cX11_over 34 = .ok (.getfield 10, 3) := by decide +kernel
theorem dX11_over_37 : decode cX11_over 37 = .ok (.bipush 10, 2) := by decide +kernel
theorem dX11_over_39 : decode cX11_over 39 = .ok (.iload_n 1, 1) := by decide +kernel
theorem dX11_over_40 : decode cX11_over 40 = .ok (.imul, 1) := by decide +kernel
theorem dX11_over_41 : decode cX11_over 41 = .ok (.iload 6, 2) := by decide +kernel
theorem dX11_over_43 : decode cX11_over 43 = .ok (.iadd, 1) := by decide +kernel
theorem dX11_over_44 : decode cX11_over 44 = .ok (.lload 7, 2) := by decide +kernel
theorem dX11_over_46 : decode cX11_over 46 = .ok (.lload_n 2, 1) := by decide +kernel
theorem dX11_over_47 : decode cX11_over 47 = .ok (.ldiv, 1) := by decide +kernel
theorem dX11_over_48 : decode cX11_over 48 = .ok (.lastore, 1) := by decide +kernel
theorem dX11_over_49 : decode cX11_over 49 = .ok (.lload 7, 2) := by decide +kernel
theorem dX11_over_51 : decode cX11_over 51 = .ok (.lload_n 2, 1) := by decide +kernel
theorem dX11_over_52 : decode cX11_over 52 = .ok (.lrem, 1) := by decide +kernel
theorem dX11_over_53 : decode cX11_over 53 = .ok (.lstore 4, 2) := by decide +kernel
theorem dX11_over_55 : decode cX11_over 55 = .ok (.iinc 6 (-1), 3) := by decide +kernel
theorem dX11_over_58 : decode cX11_over 58 = .ok (.goto (-51), 3) := by decide +kernel
theorem dX11_over_61 : decode cX11_over 61 = .ok (.return_, 1) := by decide +kernel
theorem dX11_compared_0 : decode cX11_compared 0 = .ok (.bipush 9, 2) := by decide +kernel
theorem dX11_compared_2 : decode cX11_compared 2 = .ok (.istore_n 3, 1) := by decide +kernel
theorem dX11_compared_3 : decode cX11_compared 3 = .ok (.iload_n 3, 1) := by decide +kernel
theorem dX11_compared_4 : decode cX11_compared 4 = .ok (.ifCond .lt 57, 3) := by decide +kernel
theorem dX11_compared_7 : decode cX11_compared 7 = .ok (.aload_n 0, 1) := by decide +kernel
theorem dX11_compared_8 : decode cX11_compared 8 = .ok (.getfield 10, 3) := by decide +kernel
theorem dX11_compared_11 : decode cX11_compared 11 = .ok (.bipush 10, 2) := by decide +kernel
theorem dX11_compared_13 : decode cX11_compared 13 = .ok (.iload_n 1, 1) := by decide +kernel
theorem dX11_compared_14 : decode cX11_compared 14 = .ok (.imul, 1) := by decide +kernel
theorem dX11_compared_15 : decode cX11_compared 15 = .ok (.iload_n 3, 1) := by decide +kernel
theorem dX11_compared_16 : decode cX11_compared 16 = .ok (.iadd, 1) := by decide +kernel
theorem dX11_compared_17 : decode cX11_compared 17 = .ok (.laload, 1) := by decide +kernel
theorem dX11_compared_18 : decode cX11_compared 18 = .ok (.lstore 4, 2) := by decide +kernel
theorem dX11_compared_20 : decode cX11_compared 20 = .ok (.aload_n 0, 1) := by decide +kernel
theorem dX11_compared_21 : decode cX11_compared 21 = .ok (.getfield 10, 3) := by decide +kernel
theorem dX11_compared_24 : decode cX11_compared 24 = .ok (.bipush 10, 2) := by decide +kernel
theorem dX11_compared_26 : decode cX11_compared 26 = .ok (.iload_n 2, 1) := by decide +kernel
theorem dX11_compared_27 : decode cX11_compared 27 = .ok (.imul, 1) := by decide +kernel
theorem dX11_compared_28 : decode cX11_compared 28 = .ok (.iload_n 3, 1) := by decide +kernel
theorem dX11_compared_29 : decode cX11_compared 29 = .ok (.iadd, 1) := by decide +kernel
theorem dX11_compared_30 : decode cX11_compared 30 = .ok (.laload, 1) := by decide +kernel
theorem dX11_compared_31 : decode cX11_compared 31 = .ok (.lstore 6, 2) := by decide +kernel
theorem dX11_compared_33 : decode cX11_compared 33 = .ok (.lload 4, 2) := by decide +kernel
theorem dX11_compared_35 : decode cX11_compared 35 = .ok (.lload 6, 2) := by decide +kernel
theorem dX11_compared_37 : decode cX11_compared 37 = .ok (.lcmp, 1) := by decide +kernel
theorem dX11_compared_38 : decode cX11_compared 38 = .ok (.ifCond .eq 17, 3) := by decide +kernel
theorem dX11_compared_41 : decode cX11_compared 41 = .ok (.lload 4, 2) := by decide +kernel
theorem dX11_compared_43 : decode cX11_compared 43 = .ok (.lload 6, 2) := by decide +kernel
theorem dX11_compared_45 : decode cX11_compared 45 = .ok (.lcmp, 1) := by decide +kernel
theorem dX11_compared_46 : decode cX11_compared 46 = .ok (.ifCond .ge 7, 3) := by decide +kernel
theorem dX11_compared_49 : decode cX11_compared 49 = .ok (.iconst (-1), 1) := by decide +kernel
theorem dX11_compared_50 : decode cX11_compared 50 = .ok (.goto 4, 3) := by decide +kernel
theorem dX11_compared_53 : decode cX11_compared 53 = .ok (.iconst 1, 1) := by decide +kernel
theorem dX11_compared_54 : decode cX11_compared 54 = .ok (.ireturn, 1) := by decide +kernel
theorem dX11_compared_55 : decode cX11_compared 55 = .ok (.iinc 3 (-1), 3) := by decide +kernel
theorem dX11_compared_58 : decode cX11_compared 58 = .ok (.goto (-55), 3) := by decide +kernel
theorem dX11_compared_61 : decode cX11_compared 61 = .ok (.iconst 0, 1) := by decide +kernel
theorem dX11_compared_62 : decode cX11_compared 62 = .ok (.ireturn, 1) := by decide +kernel
theorem dX11_isZero_0 : decode cX11_isZero 0 = .ok (.iconst 0, 1) := by decide +kernel
theorem dX11_isZero_1 : decode cX11_isZero 1 = .ok (.istore_n 2, 1) := by decide +kernel
theorem dX11_isZero_2 : decode cX11_isZero 2 = .ok (.iload_n 2, 1) := by decide +kernel
theorem dX11_isZero_3 : decode cX11_isZero 3 = .ok (.bipush 10, 2) := by decide +kernel
theorem dX11_isZero_5 : decode cX11_isZero 5 = .ok (.if_icmp .ge 27, 3) := by decide +kernel
theorem dX11_isZero_8 : decode cX11_isZero 8 = .ok (.aload_n 0, 1) := by decide +kernel
theorem dX11_isZero_9 : decode cX11_isZero 9 = .ok (.getfield 10, 3) := by decide +kernel
theorem dX11_isZero_12 : decode cX11_isZero 12 = .ok (.bipush 10, 2) := by decide +kernel
theorem dX11_isZero_14 : decode cX11_isZero 14 = .ok (.iload_n 1, 1) := by decide +kernel
theorem dX11_isZero_15 : decode cX11_isZero 15 = .ok (.imul, 1) := by decide +kernel
theorem dX11_isZero_16 : decode cX11_isZero 16 = .ok (.iload_n 2, 1) := by decide +kernel
theorem dX11_isZero_17 : decode cX11_isZero 17 = .ok (.iadd, 1) := by decide +kernel
theorem dX11_isZero_18 : decode cX11_isZero 18 = .ok (.laload, 1) := by decide +kernel
theorem dX11_isZero_19 : decode cX11_isZero 19 = .ok (.lconst 0, 1) := by decide +kernel
theorem dX11_isZero_20 : decode cX11_isZero 20 = .ok (.lcmp, 1) := by decide +kernel
theorem dX11_isZero_21 : decode cX11_isZero 21 = .ok (.ifCond .eq 5, 3) := by decide +kernel
theorem dX11_isZero_24 : decode cX11_isZero 24 = .ok (.iconst 0, 1) := by decide +kernel
theorem dX11_isZero_25 : decode cX11_isZero 25 = .ok (.ireturn, 1) := by decide +kernel
theorem dX11_isZero_26 : decode cX11_isZero 26 = .ok (.iinc 2 1, 3) := by decide +kernel
theorem dX11_isZero_29 : decode cX11_isZero 29 = .ok (.goto (-27), 3) := by decide +kernel
theorem dX11_isZero_32 : decode cX11_isZero 32 = .ok (.iconst 1, 1) := by decide +kernel
theorem dX11_isZero_33 : decode cX11_isZero 33 = .ok (.ireturn, 1) := by decide +kernel
theorem dX11_isEven_0 : decode cX11_isEven 0 = .ok (.aload_n 0, 1) := by decide +kernel
theorem dX11_isEven_1 : decode cX11_isEven 1 = .ok (.getfield 10, 3) := by decide +kernel
theorem dX11_isEven_4 : decode cX11_isEven 4 = .ok (.bipush 10, 2) := by decide +kernel
theorem dX11_isEven_6 : decode cX11_isEven 6 = .ok (.iload_n 1, 1) := by decide +kernel
theorem dX11_isEven_7 : decode cX11_isEven 7 = .ok (.imul, 1) := by decide +kernel
theorem dX11_isEven_8 : decode cX11_isEven 8 = .ok (.laload, 1) := by decide +kernel
theorem dX11_isEven_9 : decode cX11_isEven 9 = .ok (.ldc2_w 79, 3) := by decide +kernel
theorem dX11_isEven_12 : decode cX11_isEven 12 = .ok (.lrem, 1) := by decide +kernel
theorem dX11_isEven_13 : decode cX11_isEven 13 = .ok (.lconst 0, 1) := by decide +kernel
theorem dX11_isEven_14 : decode cX11_isEven 14 = .ok (.lcmp, 1) := by decide +kernel
theorem dX11_isEven_15 : decode cX11_isEven 15 = .ok (.ifCond .ne 7, 3) := by decide +kernel
theorem dX11_isEven_18 : decode cX11_isEven 18 = .ok (.iconst 1, 1) := by decide +kernel
theorem dX11_isEven_19 : decode cX11_isEven 19 = .ok (.goto 4, 3) := by decide +kernel
theorem dX11_isEven_22 : decode cX11_isEven 22 = .ok (.iconst 0, 1) := by decide +kernel
theorem dX11_isEven_23 : decode cX11_isEven 23 = .ok (.ireturn, 1) := by decide +kernel
set_option maxRecDepth 20000 in
theorem ggX11_parted_X11_set : GoodIn wsX11_parted wsX11_set := goodIn_r _ [8, 1, 9, 10, 11, 7, 12, 13, 14, 15, 16, 17, 18, 19, 20, 29, 30, 31, 32, 33, 34, 35, 36, 37, 38, 39, 40, 41, 42, 43, 44, 45, 46, 47, 48, 49] (by decide +kernel) (by decide +kernel)
set_option maxRecDepth 20000 in
theorem gX11_parted_X11_set : GoodIn wsX11_parted (wsV RX11 60 RX11 yX11_set wsX11_set) := goodIn_app (goodIn_of _ (by decide +kernel)) ggX11_parted_X11_set
set_option maxRecDepth 20000 in
theorem ggX11_parted_X11_copy : GoodIn wsX11_parted wsX11_copy := goodIn_r _ [24, 1, 29, 30, 31, 32, 33, 34, 35, 36, 37, 38, 39, 40, 41, 42, 43, 44, 45, 46, 47, 48, 49] (by decide +kernel) (by decide +kernel)
set_option maxRecDepth 20000 in
theorem gX11_parted_X11_copy : GoodIn wsX11_parted (wsV RX11 83 RX11 yX11_copy wsX11_copy) := goodIn_app (goodIn_of _ (by decide +kernel)) ggX11_parted_X11_copy
set_option maxRecDepth 20000 in
theorem ggX11_parted_X11_more : GoodIn wsX11_parted wsX11_more := goodIn_r _ [28, 1, 9, 10, 11, 7, 12, 13, 14, 15, 16, 17, 18, 19, 20, 29, 30, 31, 32, 33, 34, 35, 36, 37, 38, 39, 40, 41, 42, 43, 44, 45, 46, 47, 48, 49] (by decide +kernel) (by decide +kernel)
set_option maxRecDepth 20000 in
theorem gX11_parted_X11_more : GoodIn wsX11_parted (wsV RX11 87 RX11 yX11_more wsX11_more) := goodIn_app (goodIn_of _ (by decide +kernel)) ggX11_parted_X11_more
theorem dX11_parted_0 : decode cX11_parted 0 = .ok (.aload_n 0, 1) := by decide +kernel
theorem dX11_parted_1 : decode cX11_parted 1 = .ok (.iconst 5, 1) := by decide +kernel
theorem dX11_parted_2 : decode cX11_parted 2 = .ok (.lconst 0, 1) := by decide +kernel
theorem dX11_parted_3 : decode cX11_parted 3 = .ok (.invokevirtual 60, 3) := by decide +kernel
theorem dX11_parted_6 : decode cX11_parted 6 = .ok (.aload_n 0, 1) := by decide +kernel
theorem dX11_parted_7 : decode cX11_parted 7 = .ok (.bipush 6, 2) := by decide +kernel
theorem dX11_parted_9 : decode cX11_parted 9 = .ok (.lconst 0, 1) := by decide +kernel
theorem dX11_parted_10 : decode cX11_parted 10 = .ok (.invokevirtual 60, 3) := by decide +kernel
theorem dX11_parted_13 : decode cX11_parted 13 = .ok (.bipush 9, 2) := by decide +kernel
theorem dX11_parted_15 : decode cX11_parted 15 = .ok (.istore_n 3, 1) := by decide +kernel
theorem dX11_parted_16 : decode cX11_parted 16 = .ok (.iload_n 3, 1) := by decide +kernel
theorem dX11_parted_17 : decode cX11_parted 17 = .ok (.ifCond .lt 158, 3) := by decide +kernel
theorem dX11_parted_20 : decode cX11_parted 20 = .ok (.bipush 9, 2) := by decide +kernel
theorem dX11_parted_22 : decode cX11_parted 22 = .ok (.istore 4, 2) := by decide +kernel
theorem dX11_parted_24 : decode cX11_parted 24 = .ok (.iload 4, 2) := by decide +kernel
theorem dX11_parted_26 : decode cX11_parted 26 = .ok (.ifCond .le 31, 3) := by decide +kernel
theorem dX11_parted_29 : decode cX11_parted 29 = .ok (.aload_n 0, 1) := by decide +kernel
theorem dX11_parted_30 : decode cX11_parted 30 = .ok (.getfield 10, 3) := by decide +kernel
theorem dX11_parted_33 : decode cX11_parted 33 = .ok (.bipush 50, 2) := by decide +kernel
theorem dX11_parted_35 : decode cX11_parted 35 = .ok (.iload 4, 2) := by decide +kernel
theorem dX11_parted_37 : decode cX11_parted 37 = .ok (.iadd, 1) := by decide +kernel
theorem dX11_parted_38 : decode cX11_parted 38 = .ok (.aload_n 0, 1) := by decide +kernel
theorem dX11_parted_39 : decode cX11_parted 39 = .ok (.getfield 10, 3) := by decide +kernel
theorem dX11_parted_42 : decode cX11_parted 42 = .ok (.bipush 50, 2) := by decide +kernel
theorem dX11_parted_44 : decode cX11_parted 44 = .ok (.iload 4, 2) := by decide +kernel
theorem dX11_parted_46 : decode cX11_parted 46 = .ok (.iadd, 1) := by decide +kernel
theorem dX11_parted_47 : decode cX11_parted 47 = .ok (.iconst 1, 1) := by decide +kernel
theorem dX11_parted_48 : decode cX11_parted 48 = .ok (.isub, 1) := by decide +kernel
theorem dX11_parted_49 : decode cX11_parted 49 = .ok (.laload, 1) := by decide +kernel
theorem dX11_parted_50 : decode cX11_parted 50 = .ok (.lastore, 1) := by decide +kernel
theorem dX11_parted_51 : decode cX11_parted 51 = .ok (.iinc 4 (-1), 3) := by decide +kernel
theorem dX11_parted_54 : decode cX11_parted 54 = .ok (.goto (-30), 3) := by decide +kernel
theorem dX11_parted_57 : decode cX11_parted 57 = .ok (.aload_n 0, 1) := by decide +kernel
theorem dX11_parted_58 : decode cX11_parted 58 = .ok (.getfield 10, 3) := by decide +kernel
theorem dX11_parted_61 : decode cX11_parted 61 = .ok (.bipush 50, 2) := by decide +kernel
theorem dX11_parted_63 : decode cX11_parted 63 = .ok (.aload_n 0, 1) := by decide +kernel
theorem dX11_parted_64 : decode cX11_parted 64 = .ok (.getfield 10, 3) := by decide +kernel
theorem dX11_parted_67 : decode cX11_parted 67 = .ok (.bipush 10, 2) := by decide +kernel
theorem dX11_parted_69 : decode cX11_parted 69 = .ok (.iload_n 1, 1) := by decide +kernel
theorem dX11_parted_70 : decode cX11_parted 70 = .ok (.imul, 1) := by decide +kernel
theorem dX11_parted_71 : decode cX11_parted 71 = .ok (.iload_n 3, 1) := by decide +kernel
theorem dX11_parted_72 : decode cX11_parted 72 = .ok (.iadd, 1) := by decide +kernel
theorem dX11_parted_73 : decode cX11_parted 73 = .ok (.laload, 1) := by decide +kernel
theorem dX11_parted_74 : decode cX11_parted 74 = .ok (.lastore, 1) := by decide +kernel
theorem dX11_parted_75 : decode cX11_parted 75 = .ok (.lconst 0, 1) := by decide +kernel
theorem dX11_parted_76 : decode cX11_parted 76 = .ok (.lstore 4, 2) := by decide +kernel
theorem dX11_parted_78 : decode cX11_parted 78 = .ok (.ldc2_w 81, 3) := by decide +kernel
theorem dX11_parted_81 : decode cX11_parted 81 = .ok (.lstore 6, 2) := by decide +kernel
theorem dX11_parted_83 : decode cX11_parted 83 = .ok (.lload 4, 2) := by decide +kernel
theorem dX11_parted_85 : decode cX11_parted 85 = .ok (.lload 6, 2) := by decide +kernel
theorem dX11_parted_87 : decode cX11_parted 87 = .ok (.lcmp, 1) := by decide +kernel
theorem dX11_parted_88 : decode cX11_parted 88 = .ok (.ifCond .ge 61, 3) := by decide +kernel
theorem dX11_parted_91 : decode cX11_parted 91 = .ok (.lload 4, 2) := by decide +kernel
theorem dX11_parted_93 : decode cX11_parted 93 = .ok (.lload 6, 2) := by decide +kernel
theorem dX11_parted_95 : decode cX11_parted 95 = .ok (.ladd, 1) := by decide +kernel
theorem dX11_parted_96 : decode cX11_parted 96 = .ok (.lconst 1, 1) := by decide +kernel
theorem dX11_parted_97 : decode cX11_parted 97 = .ok (.ladd, 1) := by decide +kernel
theorem dX11_parted_98 : decode cX11_parted 98 = .ok (.ldc2_w 79, 3) := by decide +kernel
theorem dX11_parted_101 : decode cX11_parted 101 = .ok (.ldiv, 1) := by decide +kernel
theorem dX11_parted_102 : decode cX11_parted 102 = .ok (.lstore 8, 2) := by decide +kernel
theorem dX11_parted_104 : decode cX11_parted 104 = .ok (.aload_n 0, 1) := by decide +kernel
theorem dX11_parted_105 : decode cX11_parted 105 = .ok (.bipush 7, 2) := by decide +kernel
theorem dX11_parted_107 : decode cX11_parted 107 = .ok (.iconst 5, 1) := by decide +kernel
theorem dX11_parted_108 : decode cX11_parted 108 = .ok (.invokevirtual 83, 3) := by decide +kernel
theorem dX11_parted_111 : decode cX11_parted 111 = .ok (.aload_n 0, 1) := by decide +kernel
theorem dX11_parted_112 : decode cX11_parted 112 = .ok (.bipush 7, 2) := by decide +kernel
theorem dX11_parted_114 : decode cX11_parted 114 = .ok (.iload_n 2, 1) := by decide +kernel
theorem dX11_parted_115 : decode cX11_parted 115 = .ok (.lload 8, 2) := by decide +kernel
theorem dX11_parted_117 : decode cX11_parted 117 = .ok (.lneg, 1) := by decide +kernel
theorem dX11_parted_118 : decode cX11_parted 118 = .ok (.invokevirtual 87, 3) := by decide +kernel
theorem dX11_parted_121 : decode cX11_parted 121 = .ok (.aload_n 0, 1) := by decide +kernel
theorem dX11_parted_122 : decode cX11_parted 122 = .ok (.getfield 10, 3) := by decide +kernel
theorem dX11_parted_125 : decode cX11_parted 125 = .ok (.bipush 79, 2) := by decide +kernel
theorem dX11_parted_127 : decode cX11_parted 127 = .ok (.laload, 1) := by decide +kernel
theorem dX11_parted_128 : decode cX11_parted 128 = .ok (.lconst 0, 1) := by decide +kernel
theorem dX11_parted_129 : decode cX11_parted 129 = .ok (.lcmp, 1) := by decide +kernel
theorem dX11_parted_130 : decode cX11_parted 130 = .ok (.ifCond .ge 12, 3) := by decide +kernel
theorem dX11_parted_133 : decode cX11_parted 133 = .ok (.lload 8, 2) := by decide +kernel
theorem dX11_parted_135 : decode cX11_parted 135 = .ok (.lconst 1, 1) := by decide +kernel
theorem dX11_parted_136 : decode cX11_parted 136 = .ok (.lsub, 1) := by decide +kernel
theorem dX11_parted_137 : decode cX11_parted 137 = .ok (.lstore 6, 2) := by decide +kernel
theorem dX11_parted_139 : decode cX11_parted 139 = .ok (.goto 7, 3) := by decide +kernel
theorem dX11_parted_142 : decode cX11_parted 142 = .ok (.lload 8, 2) := by decide +kernel
theorem dX11_parted_144 : decode cX11_parted 144 = .ok (.lstore 4, 2) := by decide +kernel
theorem dX11_parted_146 : decode cX11_parted 146 = .ok (.goto (-63), 3) := by decide +kernel
theorem dX11_parted_149 : decode cX11_parted 149 = .ok (.aload_n 0, 1) := by decide +kernel
theorem dX11_parted_150 : decode cX11_parted 150 = .ok (.iconst 5, 1) := by decide +kernel
theorem dX11_parted_151 : decode cX11_parted 151 = .ok (.iload_n 2, 1) := by decide +kernel
theorem dX11_parted_152 : decode cX11_parted 152 = .ok (.lload 4, 2) := by decide +kernel
theorem dX11_parted_154 : decode cX11_parted 154 = .ok (.lneg, 1) := by decide +kernel
theorem dX11_parted_155 : decode cX11_parted 155 = .ok (.invokevirtual 87, 3) := by decide +kernel
theorem dX11_parted_158 : decode cX11_parted 158 = .ok (.aload_n 0, 1) := by decide +kernel
theorem dX11_parted_159 : decode cX11_parted 159 = .ok (.getfield 10, 3) := by decide +kernel
theorem dX11_parted_162 : decode cX11_parted 162 = .ok (.bipush 60, 2) := by decide +kernel
theorem dX11_parted_164 : decode cX11_parted 164 = .ok (.iload_n 3, 1) := by decide +kernel
theorem dX11_parted_165 : decode cX11_parted 165 = .ok (.iadd, 1) := by decide +kernel
theorem dX11_parted_166 : decode cX11_parted 166 = .ok (.lload 4, 2) := by decide +kernel
theorem dX11_parted_168 : decode cX11_parted 168 = .ok (.lastore, 1) := by decide +kernel
theorem dX11_parted_169 : decode cX11_parted 169 = .ok (.iinc 3 (-1), 3) := by decide +kernel
theorem dX11_parted_172 : decode cX11_parted 172 = .ok (.goto (-156), 3) := by decide +kernel
theorem dX11_parted_175 : decode cX11_parted 175 = .ok (.aload_n 0, 1) := by decide +kernel
theorem dX11_parted_176 : decode cX11_parted 176 = .ok (.iload_n 1, 1) := by decide +kernel
theorem dX11_parted_177 : decode cX11_parted 177 = .ok (.bipush 6, 2) := by decide +kernel
theorem dX11_parted_179 : decode cX11_parted 179 = .ok (.invokevirtual 83, 3) := by decide +kernel
theorem dX11_parted_182 : decode cX11_parted 182 = .ok (.return_, 1) := by decide +kernel
set_option maxRecDepth 20000 in
theorem ggX11_result_X11_copy : GoodIn wsX11_result wsX11_copy := goodIn_r _ [8, 1, 54, 55, 56, 57, 58, 59, 60, 61, 62, 63, 64, 65, 66, 67, 68, 69, 70, 71, 72, 73, 74] (by decide +kernel) (by decide +kernel)
set_option maxRecDepth 20000 in
theorem gX11_result_X11_copy : GoodIn wsX11_result (wsV RX11 83 RX11 yX11_copy wsX11_copy) := goodIn_app (goodIn_of _ (by decide +kernel)) ggX11_result_X11_copy
set_option maxRecDepth 20000 in
theorem ggX11_result_X11_times : GoodIn wsX11_result wsX11_times := goodIn_r _ [12, 1, 13, 14, 15, 7, 16, 17, 18, 19, 20, 21, 22, 23, 24, 54, 55, 56, 57, 58, 59, 60, 61, 62, 63, 64, 65, 66, 67, 68, 69, 70, 71, 72, 73, 74] (by decide +kernel) (by decide +kernel)
set_option maxRecDepth 20000 in
theorem gX11_result_X11_times : GoodIn wsX11_result (wsV RX11 93 RX11 yX11_times wsX11_times) := goodIn_app (goodIn_of _ (by decide +kernel)) ggX11_result_X11_times
set_option maxRecDepth 20000 in
theorem ggX11_result_X11_isZero : GoodIn wsX11_result wsX11_isZero := goodIn_r _ [28, 1, 54, 55, 56, 57, 58, 59, 60, 61, 62, 63, 64, 65, 66, 67, 68, 69, 70, 71, 72, 73, 74] (by decide +kernel) (by decide +kernel)
set_option maxRecDepth 20000 in
theorem gX11_result_X11_isZero : GoodIn wsX11_result (wsV RX11 96 RX11 yX11_isZero wsX11_isZero) := goodIn_app (goodIn_of _ (by decide +kernel)) ggX11_result_X11_isZero
set_option maxRecDepth 20000 in
theorem ggX11_result_X11_set : GoodIn wsX11_result wsX11_set := goodIn_r _ [32, 1, 13, 14, 15, 7, 16, 17, 18, 19, 20, 21, 22, 23, 24, 54, 55, 56, 57, 58, 59, 60, 61, 62, 63, 64, 65, 66, 67, 68, 69, 70, 71, 72, 73, 74] (by decide +kernel) (by decide +kernel)
set_option maxRecDepth 20000 in
theorem gX11_result_X11_set : GoodIn wsX11_result (wsV RX11 60 RX11 yX11_set wsX11_set) := goodIn_app (goodIn_of _ (by decide +kernel)) ggX11_result_X11_set
set_option maxRecDepth 20000 in
theorem ggX11_result_X11_isEven : GoodIn wsX11_result wsX11_isEven := goodIn_r _ [36, 1, 3, 54, 55, 56, 57, 58, 59, 60, 61, 62, 63, 64, 65, 66, 67, 68, 69, 70, 71, 72, 73, 74] (by decide +kernel) (by decide +kernel)
set_option maxRecDepth 20000 in
theorem gX11_result_X11_isEven : GoodIn wsX11_result (wsV RX11 100 RX11 yX11_isEven wsX11_isEven) := goodIn_app (goodIn_of _ (by decide +kernel)) ggX11_result_X11_isEven
set_option maxRecDepth 20000 in
theorem ggX11_result_X11_over : GoodIn wsX11_result wsX11_over := goodIn_r _ [40, 17, 1, 54, 55, 56, 57, 58, 59, 60, 61, 62, 63, 64, 65, 66, 67, 68, 69, 70, 71, 72, 73, 74] (by decide +kernel) (by decide +kernel)
set_option maxRecDepth 20000 in
theorem gX11_result_X11_over : GoodIn wsX11_result (wsV RX11 103 RX11 yX11_over wsX11_over) := goodIn_app (goodIn_of _ (by decide +kernel)) ggX11_result_X11_over
set_option maxRecDepth 20000 in
theorem ggX11_result_X11_compared : GoodIn wsX11_result wsX11_compared := goodIn_r _ [44, 1, 54, 55, 56, 57, 58, 59, 60, 61, 62, 63, 64, 65, 66, 67, 68, 69, 70, 71, 72, 73, 74] (by decide +kernel) (by decide +kernel)
set_option maxRecDepth 20000 in
theorem gX11_result_X11_compared : GoodIn wsX11_result (wsV RX11 106 RX11 yX11_compared wsX11_compared) := goodIn_app (goodIn_of _ (by decide +kernel)) ggX11_result_X11_compared
set_option maxRecDepth 20000 in
theorem ggX11_result_X11_more : GoodIn wsX11_result wsX11_more := goodIn_r _ [48, 1, 13, 14, 15, 7, 16, 17, 18, 19, 20, 21, 22, 23, 24, 54, 55, 56, 57, 58, 59, 60, 61, 62, 63, 64, 65, 66, 67, 68, 69, 70, 71, 72, 73, 74] (by decide +kernel) (by decide +kernel)
set_option maxRecDepth 20000 in
theorem gX11_result_X11_more : GoodIn wsX11_result (wsV RX11 87 RX11 yX11_more wsX11_more) := goodIn_app (goodIn_of _ (by decide +kernel)) ggX11_result_X11_more
set_option maxRecDepth 20000 in
theorem ggX11_result_X11_parted : GoodIn wsX11_result wsX11_parted := goodIn_r _ [52, 1, 53, 3, 29, 30, 31, 7, 32, 13, 14, 15, 16, 17, 18, 19, 20, 21, 22, 23, 24, 4, 5, 6, 8, 45, 46, 47, 48, 54, 55, 56, 57, 58, 59, 60, 61, 62, 63, 64, 65, 66, 67, 68, 69, 70, 71, 72, 73, 74] (by decide +kernel) (by decide +kernel)
set_option maxRecDepth 20000 in
theorem gX11_result_X11_parted : GoodIn wsX11_result (wsV RX11 110 RX11 yX11_parted wsX11_parted) := goodIn_app (goodIn_of _ (by decide +kernel)) ggX11_result_X11_parted
theorem dX11_result_0 : decode cX11_result 0 = .ok (.aload_n 0, 1) := by decide +kernel
theorem dX11_result_1 : decode cX11_result 1 = .ok (.iconst 0, 1) := by decide +kernel
theorem dX11_result_2 : decode cX11_result 2 = .ok (.iload_n 1, 1) := by decide +kernel
theorem dX11_result_3 : decode cX11_result 3 = .ok (.invokevirtual 83, 3) := by decide +kernel
theorem dX11_result_6 : decode cX11_result 6 = .ok (.aload_n 0, 1) := by decide +kernel
theorem dX11_result_7 : decode cX11_result 7 = .ok (.iconst 1, 1) := by decide +kernel
theorem dX11_result_8 : decode cX11_result 8 = .ok (.iload_n 2, 1) := by decide +kernel
theorem dX11_result_9 : decode cX11_result 9 = .ok (.invokevirtual 83, 3) := by decide +kernel
theorem dX11_result_12 : decode cX11_result 12 = .ok (.aload_n 0, 1) := by decide +kernel
theorem dX11_result_13 : decode cX11_result 13 = .ok (.getfield 10, 3) := by decide +kernel
theorem dX11_result_16 : decode cX11_result 16 = .ok (.bipush 9, 2) := by decide +kernel
theorem dX11_result_18 : decode cX11_result 18 = .ok (.laload, 1) := by decide +kernel
theorem dX11_result_19 : decode cX11_result 19 = .ok (.lconst 0, 1) := by decide +kernel
theorem dX11_result_20 : decode cX11_result 20 = .ok (.lcmp, 1) := by decide +kernel
theorem dX11_result_21 : decode cX11_result 21 = .ok (.ifCond .ge 7, 3) := by decide +kernel
theorem dX11_result_24 : decode cX11_result 24 = .ok (.iconst 1, 1) := by decide +kernel
theorem dX11_result_25 : decode cX11_result 25 = .ok (.goto 4, 3) := by decide +kernel
theorem dX11_result_28 : decode cX11_result 28 = .ok (.iconst 0, 1) := by decide +kernel
theorem dX11_result_29 : decode cX11_result 29 = .ok (.istore_n 3, 1) := by decide +kernel
theorem dX11_result_30 : decode cX11_result 30 = .ok (.iload_n 3, 1) := by decide +kernel
theorem dX11_result_31 : decode cX11_result 31 = .ok (.ifCond .eq 11, 3) := by decide +kernel
theorem dX11_result_34 : decode cX11_result 34 = .ok (.aload_n 0, 1) := by decide +kernel
theorem dX11_result_35 : decode cX11_result 35 = .ok (.iconst 0, 1) := by decide +kernel
theorem dX11_result_36 : decode cX11_result 36 = .ok (.ldc2_w 91, 3) := by decide +kernel
theorem dX11_result_39 : decode cX11_result 39 = .ok (.invokevirtual 93, 3) := by decide +kernel
theorem dX11_result_42 : decode cX11_result 42 = .ok (.aload_n 0, 1) := by decide +kernel
theorem dX11_result_43 : decode cX11_result 43 = .ok (.iconst 0, 1) := by decide +kernel
theorem dX11_result_44 : decode cX11_result 44 = .ok (.invokevirtual 96, 3) := by decide +kernel
theorem dX11_result_47 : decode cX11_result 47 = .ok (.ifCond .eq 10, 3) := by decide +kernel
theorem dX11_result_50 : decode cX11_result 50 = .ok (.aload_n 0, 1) := by decide +kernel
theorem dX11_result_51 : decode cX11_result 51 = .ok (.iconst 1, 1) := by decide +kernel
theorem dX11_result_52 : decode cX11_result 52 = .ok (.lconst 1, 1) := by decide +kernel
theorem dX11_result_53 : decode cX11_result 53 = .ok (.invokevirtual 60, 3) := by decide +kernel
theorem dX11_result_56 : decode cX11_result 56 = .ok (.return_, 1) := by decide +kernel
theorem dX11_result_57 : decode cX11_result 57 = .ok (.aload_n 0, 1) := by decide +kernel
theorem dX11_result_58 : decode cX11_result 58 = .ok (.iconst 2, 1) := by decide +kernel
theorem dX11_result_59 : decode cX11_result 59 = .ok (.iconst 0, 1) := by decide +kernel
theorem dX11_result_60 : decode cX11_result 60 = .ok (.invokevirtual 83, 3) := by decide +kernel
theorem dX11_result_63 : decode cX11_result 63 = .ok (.aload_n 0, 1) := by decide +kernel
theorem dX11_result_64 : decode cX11_result 64 = .ok (.iconst 3, 1) := by decide +kernel
theorem dX11_result_65 : decode cX11_result 65 = .ok (.iconst 1, 1) := by decide +kernel
theorem dX11_result_66 : decode cX11_result 66 = .ok (.invokevirtual 83, 3) := by decide +kernel
theorem dX11_result_69 : decode cX11_result 69 = .ok (.iconst 0, 1) := by decide +kernel
theorem dX11_result_70 : decode cX11_result 70 = .ok (.istore 4, 2) := by decide +kernel
theorem dX11_result_72 : decode cX11_result 72 = .ok (.aload_n 0, 1) := by decide +kernel
theorem dX11_result_73 : decode cX11_result 73 = .ok (.iconst 2, 1) := by decide +kernel
theorem dX11_result_74 : decode cX11_result 74 = .ok (.invokevirtual 100, 3) := by decide +kernel
theorem dX11_result_77 : decode cX11_result 77 = .ok (.ifCond .eq 33, 3) := by decide +kernel
theorem dX11_result_80 : decode cX11_result 80 = .ok (.aload_n 0, 1) := by decide +kernel
theorem dX11_result_81 : decode cX11_result 81 = .ok (.iconst 3, 1) := by decide +kernel
theorem dX11_result_82 : decode cX11_result 82 = .ok (.invokevirtual 100, 3) := by decide +kernel
theorem dX11_result_85 : decode cX11_result 85 = .ok (.ifCond .eq 25, 3) := by decide +kernel
theorem dX11_result_88 : decode cX11_result 88 = .ok (.aload_n 0, 1) := by decide +kernel
theorem dX11_result_89 : decode cX11_result 89 = .ok (.iconst 2, 1) := by decide +kernel
theorem dX11_result_90 : decode cX11_result 90 = .ok (.ldc2_w 79, 3) := by decide +kernel
theorem dX11_result_93 : decode cX11_result 93 = .ok (.invokevirtual 103, 3) := by decide +kernel
theorem dX11_result_96 : decode cX11_result 96 = .ok (.aload_n 0, 1) := by decide +kernel
theorem dX11_result_97 : decode cX11_result 97 = .ok (.iconst 3, 1) := by decide +kernel
theorem dX11_result_98 : decode cX11_result 98 = .ok (.ldc2_w 79, 3) := by decide +kernel
theorem dX11_result_101 : decode cX11_result 101 = .ok (.invokevirtual 103, 3) := by decide +kernel
theorem dX11_result_104 : decode cX11_result 104 = .ok (.iinc 4 1, 3) := by decide +kernel
theorem dX11_result_107 : decode cX11_result 107 = .ok (.goto (-35), 3) := by decide +kernel
theorem dX11_result_110 : decode cX11_result 110 = .ok (.aload_n 0, 1) := by decide +kernel
theorem dX11_result_111 : decode cX11_result 111 = .ok (.iconst 2, 1) := by decide +kernel
theorem dX11_result_112 : decode cX11_result 112 = .ok (.invokevirtual 96, 3) := by decide +kernel
theorem dX11_result_115 : decode cX11_result 115 = .ok (.ifCond .ne 74, 3) := by decide +kernel
theorem dX11_result_118 : decode cX11_result 118 = .ok (.aload_n 0, 1) := by decide +kernel
theorem dX11_result_119 : decode cX11_result 119 = .ok (.iconst 2, 1) := by decide +kernel
theorem dX11_result_120 : decode cX11_result 120 = .ok (.invokevirtual 100, 3) := by decide +kernel
theorem dX11_result_123 : decode cX11_result 123 = .ok (.ifCond .eq 14, 3) := by decide +kernel
theorem dX11_result_126 : decode cX11_result 126 = .ok (.aload_n 0, 1) := by decide +kernel
theorem dX11_result_127 : decode cX11_result 127 = .ok (.iconst 2, 1) := by decide +kernel
theorem dX11_result_128 : decode cX11_result 128 = .ok (.ldc2_w 79, 3) := by decide +kernel
theorem dX11_result_131 : decode cX11_result 131 = .ok (.invokevirtual 103, 3) := by decide +kernel
theorem dX11_result_134 : decode cX11_result 134 = .ok (.goto (-16), 3) := by decide +kernel
theorem dX11_result_137 : decode cX11_result 137 = .ok (.aload_n 0, 1) := by decide +kernel
theorem dX11_result_138 : decode cX11_result 138 = .ok (.iconst 3, 1) := by decide +kernel
theorem dX11_result_139 : decode cX11_result 139 = .ok (.invokevirtual 100, 3) := by decide +kernel
theorem dX11_result_142 : decode cX11_result 142 = .ok (.ifCond .eq 14, 3) := by decide +kernel
theorem dX11_result_145 : decode cX11_result 145 = .ok (.aload_n 0, 1) := by decide +kernel
theorem dX11_result_146 : decode cX11_result 146 = .ok (.iconst 3, 1) := by decide +kernel
theorem dX11_result_147 : decode cX11_result 147 = .ok (.ldc2_w 79, 3) := by decide +kernel
theorem dX11_result_150 : decode cX11_result 150 = .ok (.invokevirtual 103, 3) := by decide +kernel
theorem dX11_result_153 : decode cX11_result 153 = .ok (.goto (-16), 3) := by decide +kernel
theorem dX11_result_156 : decode cX11_result 156 = .ok (.aload_n 0, 1) := by decide +kernel
theorem dX11_result_157 : decode cX11_result 157 = .ok (.iconst 2, 1) := by decide +kernel
theorem dX11_result_158 : decode cX11_result 158 = .ok (.iconst 3, 1) := by decide +kernel
theorem dX11_result_159 : decode cX11_result 159 = .ok (.invokevirtual 106, 3) := by decide +kernel
theorem dX11_result_162 : decode cX11_result 162 = .ok (.ifCond .lt 15, 3) := by decide +kernel
theorem dX11_result_165 : decode cX11_result 165 = .ok (.aload_n 0, 1) := by decide +kernel
theorem dX11_result_166 : decode cX11_result 166 = .ok (.iconst 2, 1) := by decide +kernel
theorem dX11_result_167 : decode cX11_result 167 = .ok (.iconst 3, 1) := by decide +kernel
theorem dX11_result_168 : decode cX11_result 168 = .ok (.ldc2_w 91, 3) := by decide +kernel
theorem dX11_result_171 : decode cX11_result 171 = .ok (.invokevirtual 87, 3) := by decide +kernel
theorem dX11_result_174 : decode cX11_result 174 = .ok (.goto (-64), 3) := by decide +kernel
theorem dX11_result_177 : decode cX11_result 177 = .ok (.aload_n 0, 1) := by decide +kernel
theorem dX11_result_178 : decode cX11_result 178 = .ok (.iconst 3, 1) := by decide +kernel
theorem dX11_result_179 : decode cX11_result 179 = .ok (.iconst 2, 1) := by decide +kernel
theorem dX11_result_180 : decode cX11_result 180 = .ok (.ldc2_w 91, 3) := by decide +kernel
theorem dX11_result_183 : decode cX11_result 183 = .ok (.invokevirtual 87, 3) := by decide +kernel
theorem dX11_result_186 : decode cX11_result 186 = .ok (.goto (-76), 3) := by decide +kernel
theorem dX11_result_189 : decode cX11_result 189 = .ok (.iconst 0, 1) := by decide +kernel
theorem dX11_result_190 : decode cX11_result 190 = .ok (.istore 5, 2) := by decide +kernel
theorem dX11_result_192 : decode cX11_result 192 = .ok (.iload 5, 2) := by decide +kernel
theorem dX11_result_194 : decode cX11_result 194 = .ok (.iload 4, 2) := by decide +kernel
theorem dX11_result_196 : decode cX11_result 196 = .ok (.if_icmp .ge 17, 3) := by decide +kernel
theorem dX11_result_199 : decode cX11_result 199 = .ok (.aload_n 0, 1) := by decide +kernel
theorem dX11_result_200 : decode cX11_result 200 = .ok (.iconst 3, 1) := by decide +kernel
theorem dX11_result_201 : decode cX11_result 201 = .ok (.ldc2_w 79, 3) := by decide +kernel
theorem dX11_result_204 : decode cX11_result 204 = .ok (.invokevirtual 93, 3) := by decide +kernel
theorem dX11_result_207 : decode cX11_result 207 = .ok (.iinc 5 1, 3) := by decide +kernel
theorem dX11_result_210 : decode cX11_result 210 = .ok (.goto (-18), 3) := by decide +kernel
theorem dX11_result_213 : decode cX11_result 213 = .ok (.aload_n 0, 1) := by decide +kernel
theorem dX11_result_214 : decode cX11_result 214 = .ok (.iconst 4, 1) := by decide +kernel
theorem dX11_result_215 : decode cX11_result 215 = .ok (.iconst 3, 1) := by decide +kernel
theorem dX11_result_216 : decode cX11_result 216 = .ok (.invokevirtual 83, 3) := by decide +kernel
theorem dX11_result_219 : decode cX11_result 219 = .ok (.aload_n 0, 1) := by decide +kernel
theorem dX11_result_220 : decode cX11_result 220 = .ok (.iconst 0, 1) := by decide +kernel
theorem dX11_result_221 : decode cX11_result 221 = .ok (.iconst 4, 1) := by decide +kernel
theorem dX11_result_222 : decode cX11_result 222 = .ok (.invokevirtual 110, 3) := by decide +kernel
theorem dX11_result_225 : decode cX11_result 225 = .ok (.aload_n 0, 1) := by decide +kernel
theorem dX11_result_226 : decode cX11_result 226 = .ok (.iconst 1, 1) := by decide +kernel
theorem dX11_result_227 : decode cX11_result 227 = .ok (.iconst 4, 1) := by decide +kernel
theorem dX11_result_228 : decode cX11_result 228 = .ok (.invokevirtual 110, 3) := by decide +kernel
theorem dX11_result_231 : decode cX11_result 231 = .ok (.iload_n 3, 1) := by decide +kernel
theorem dX11_result_232 : decode cX11_result 232 = .ok (.ifCond .eq 11, 3) := by decide +kernel
theorem dX11_result_235 : decode cX11_result 235 = .ok (.aload_n 0, 1) := by decide +kernel
theorem dX11_result_236 : decode cX11_result 236 = .ok (.iconst 0, 1) := by decide +kernel
theorem dX11_result_237 : decode cX11_result 237 = .ok (.ldc2_w 91, 3) := by decide +kernel
theorem dX11_result_240 : decode cX11_result 240 = .ok (.invokevirtual 93, 3) := by decide +kernel
theorem dX11_result_243 : decode cX11_result 243 = .ok (.return_, 1) := by decide +kernel
theorem dX11_isSlot_0 : decode cX11_isSlot 0 = .ok (.iload_n 0, 1) := by decide +kernel
theorem dX11_isSlot_1 : decode cX11_isSlot 1 = .ok (.ifCond .lt 13, 3) := by decide +kernel
theorem dX11_isSlot_4 : decode cX11_isSlot 4 = .ok (.iload_n 0, 1) := by decide +kernel
theorem dX11_isSlot_5 : decode cX11_isSlot 5 = .ok (.bipush 9, 2) := by decide +kernel
theorem dX11_isSlot_7 : decode cX11_isSlot 7 = .ok (.if_icmp .gt 7, 3) := by decide +kernel
theorem dX11_isSlot_10 : decode cX11_isSlot 10 = .ok (.iconst 1, 1) := by decide +kernel
theorem dX11_isSlot_11 : decode cX11_isSlot 11 = .ok (.goto 4, 3) := by decide +kernel
theorem dX11_isSlot_14 : decode cX11_isSlot 14 = .ok (.iconst 0, 1) := by decide +kernel
theorem dX11_isSlot_15 : decode cX11_isSlot 15 = .ok (.ireturn, 1) := by decide +kernel
set_option maxRecDepth 20000 in
theorem ggX11_row_X11_isSlot : GoodIn wsX11_row wsX11_isSlot := goodIn_r _ [7] (by decide +kernel) (by decide +kernel)
set_option maxRecDepth 20000 in
theorem gX11_row_X11_isSlot : GoodIn wsX11_row (va_wsS RX11 113 yX11_isSlot wsX11_isSlot) := goodIn_app (goodIn_of _ (by decide +kernel)) ggX11_row_X11_isSlot
theorem dX11_row_0 : decode cX11_row 0 = .ok (.iload_n 1, 1) := by decide +kernel
theorem dX11_row_1 : decode cX11_row 1 = .ok (.invokestatic 113, 3) := by decide +kernel
theorem dX11_row_4 : decode cX11_row 4 = .ok (.ifCond .eq 18, 3) := by decide +kernel
theorem dX11_row_7 : decode cX11_row 7 = .ok (.iload_n 2, 1) := by decide +kernel
theorem dX11_row_8 : decode cX11_row 8 = .ok (.ifCond .lt 14, 3) := by decide +kernel
theorem dX11_row_11 : decode cX11_row 11 = .ok (.iload_n 2, 1) := by decide +kernel
theorem dX11_row_12 : decode cX11_row 12 = .ok (.iconst 3, 1) := by decide +kernel
theorem dX11_row_13 : decode cX11_row 13 = .ok (.if_icmp .gt 9, 3) := by decide +kernel
theorem dX11_row_16 : decode cX11_row 16 = .ok (.iload_n 3, 1) := by decide +kernel
theorem dX11_row_17 : decode cX11_row 17 = .ok (.bipush 40, 2) := by decide +kernel
theorem dX11_row_19 : decode cX11_row 19 = .ok (.if_icmp .le 6, 3) := by decide +kernel
theorem dX11_row_22 : decode cX11_row 22 = .ok (.bipush (-2), 2) := by decide +kernel
theorem dX11_row_24 : decode cX11_row 24 = .ok (.ireturn, 1) := by decide +kernel
theorem dX11_row_25 : decode cX11_row 25 = .ok (.iload_n 3, 1) := by decide +kernel
theorem dX11_row_26 : decode cX11_row 26 = .ok (.ifCond .ge 6, 3) := by decide +kernel
theorem dX11_row_29 : decode cX11_row 29 = .ok (.bipush (-3), 2) := by decide +kernel
theorem dX11_row_31 : decode cX11_row 31 = .ok (.ireturn, 1) := by decide +kernel
theorem dX11_row_32 : decode cX11_row 32 = .ok (.aload_n 0, 1) := by decide +kernel
theorem dX11_row_33 : decode cX11_row 33 = .ok (.getfield 14, 3) := by decide +kernel
theorem dX11_row_36 : decode cX11_row 36 = .ok (.iload_n 1, 1) := by decide +kernel
theorem dX11_row_37 : decode cX11_row 37 = .ok (.iload_n 3, 1) := by decide +kernel
theorem dX11_row_38 : decode cX11_row 38 = .ok (.iconst 1, 1) := by decide +kernel
theorem dX11_row_39 : decode cX11_row 39 = .ok (.iadd, 1) := by decide +kernel
theorem dX11_row_40 : decode cX11_row 40 = .ok (.iastore, 1) := by decide +kernel
theorem dX11_row_41 : decode cX11_row 41 = .ok (.aload_n 0, 1) := by decide +kernel
theorem dX11_row_42 : decode cX11_row 42 = .ok (.getfield 18, 3) := by decide +kernel
theorem dX11_row_45 : decode cX11_row 45 = .ok (.iload_n 1, 1) := by decide +kernel
theorem dX11_row_46 : decode cX11_row 46 = .ok (.iload_n 2, 1) := by decide +kernel
theorem dX11_row_47 : decode cX11_row 47 = .ok (.iastore, 1) := by decide +kernel
theorem dX11_row_48 : decode cX11_row 48 = .ok (.iconst 0, 1) := by decide +kernel
theorem dX11_row_49 : decode cX11_row 49 = .ok (.istore 4, 2) := by decide +kernel
theorem dX11_row_51 : decode cX11_row 51 = .ok (.iload 4, 2) := by decide +kernel
theorem dX11_row_53 : decode cX11_row 53 = .ok (.iload_n 3, 1) := by decide +kernel
theorem dX11_row_54 : decode cX11_row 54 = .ok (.if_icmp .ge 22, 3) := by decide +kernel
theorem dX11_row_57 : decode cX11_row 57 = .ok (.aload_n 0, 1) := by decide +kernel
theorem dX11_row_58 : decode cX11_row 58 = .ok (.getfield 21, 3) := by decide +kernel
theorem dX11_row_61 : decode cX11_row 61 = .ok (.bipush 40, 2) := by decide +kernel
theorem dX11_row_63 : decode cX11_row 63 = .ok (.iload_n 1, 1) := by decide +kernel
theorem dX11_row_64 : decode cX11_row 64 = .ok (.imul, 1) := by decide +kernel
theorem dX11_row_65 : decode cX11_row 65 = .ok (.iload 4, 2) := by decide +kernel
theorem dX11_row_67 : decode cX11_row 67 = .ok (.iadd, 1) := by decide +kernel
theorem dX11_row_68 : decode cX11_row 68 = .ok (.lconst 0, 1) := by decide +kernel
theorem dX11_row_69 : decode cX11_row 69 = .ok (.lastore, 1) := by decide +kernel
theorem dX11_row_70 : decode cX11_row 70 = .ok (.iinc 4 1, 3) := by decide +kernel
theorem dX11_row_73 : decode cX11_row 73 = .ok (.goto (-22), 3) := by decide +kernel
theorem dX11_row_76 : decode cX11_row 76 = .ok (.iconst 0, 1) := by decide +kernel
theorem dX11_row_77 : decode cX11_row 77 = .ok (.ireturn, 1) := by decide +kernel
set_option maxRecDepth 20000 in
theorem ggX11_tear_X11_isSlot : GoodIn wsX11_tear wsX11_isSlot := goodIn_r _ [5] (by decide +kernel) (by decide +kernel)
set_option maxRecDepth 20000 in
theorem gX11_tear_X11_isSlot : GoodIn wsX11_tear (va_wsS RX11 113 yX11_isSlot wsX11_isSlot) := goodIn_app (goodIn_of _ (by decide +kernel)) ggX11_tear_X11_isSlot
theorem dX11_tear_0 : decode cX11_tear 0 = .ok (.iload_n 1, 1) := by decide +kernel
theorem dX11_tear_1 : decode cX11_tear 1 = .ok (.invokestatic 113, 3) := by decide +kernel
theorem dX11_tear_4 : decode cX11_tear 4 = .ok (.ifCond .eq 12, 3) := by decide +kernel
theorem dX11_tear_7 : decode cX11_tear 7 = .ok (.aload_n 0, 1) := by decide +kernel
theorem dX11_tear_8 : decode cX11_tear 8 = .ok (.getfield 14, 3) := by decide +kernel
theorem dX11_tear_11 : decode cX11_tear 11 = .ok (.iload_n 1, 1) := by decide +kernel
theorem dX11_tear_12 : decode cX11_tear 12 = .ok (.iaload, 1) := by decide +kernel
theorem dX11_tear_13 : decode cX11_tear 13 = .ok (.ifCond .ne 5, 3) := by decide +kernel
theorem dX11_tear_16 : decode cX11_tear 16 = .ok (.iconst 0, 1) := by decide +kernel
theorem dX11_tear_17 : decode cX11_tear 17 = .ok (.ireturn, 1) := by decide +kernel
theorem dX11_tear_18 : decode cX11_tear 18 = .ok (.aload_n 0, 1) := by decide +kernel
theorem dX11_tear_19 : decode cX11_tear 19 = .ok (.getfield 14, 3) := by decide +kernel
theorem dX11_tear_22 : decode cX11_tear 22 = .ok (.iload_n 1, 1) := by decide +kernel
theorem dX11_tear_23 : decode cX11_tear 23 = .ok (.iconst 0, 1) := by decide +kernel
theorem dX11_tear_24 : decode cX11_tear 24 = .ok (.iastore, 1) := by decide +kernel
theorem dX11_tear_25 : decode cX11_tear 25 = .ok (.iconst 1, 1) := by decide +kernel
theorem dX11_tear_26 : decode cX11_tear 26 = .ok (.ireturn, 1) := by decide +kernel
set_option maxRecDepth 20000 in
theorem ggX11_write_X11_isSlot : GoodIn wsX11_write wsX11_isSlot := goodIn_r _ [7] (by decide +kernel) (by decide +kernel)
set_option maxRecDepth 20000 in
theorem gX11_write_X11_isSlot : GoodIn wsX11_write (va_wsS RX11 113 yX11_isSlot wsX11_isSlot) := goodIn_app (goodIn_of _ (by decide +kernel)) ggX11_write_X11_isSlot
theorem dX11_write_0 : decode cX11_write 0 = .ok (.iload_n 1, 1) := by decide +kernel
theorem dX11_write_1 : decode cX11_write 1 = .ok (.invokestatic 113, 3) := by decide +kernel
theorem dX11_write_4 : decode cX11_write 4 = .ok (.ifCond .ne 6, 3) := by decide +kernel
theorem dX11_write_7 : decode cX11_write 7 = .ok (.bipush (-2), 2) := by decide +kernel
theorem dX11_write_9 : decode cX11_write 9 = .ok (.ireturn, 1) := by decide +kernel
theorem dX11_write_10 : decode cX11_write 10 = .ok (.aload_n 0, 1) := by decide +kernel
theorem dX11_write_11 : decode cX11_write 11 = .ok (.getfield 14, 3) := by decide +kernel
theorem dX11_write_14 : decode cX11_write 14 = .ok (.iload_n 1, 1) := by decide +kernel
theorem dX11_write_15 : decode cX11_write 15 = .ok (.iaload, 1) := by decide +kernel
theorem dX11_write_16 : decode cX11_write 16 = .ok (.ifCond .ne 6, 3) := by decide +kernel
theorem dX11_write_19 : decode cX11_write 19 = .ok (.bipush (-5), 2) := by decide +kernel
theorem dX11_write_21 : decode cX11_write 21 = .ok (.ireturn, 1) := by decide +kernel
theorem dX11_write_22 : decode cX11_write 22 = .ok (.iload_n 2, 1) := by decide +kernel
theorem dX11_write_23 : decode cX11_write 23 = .ok (.ifCond .lt 15, 3) := by decide +kernel
theorem dX11_write_26 : decode cX11_write 26 = .ok (.iload_n 2, 1) := by decide +kernel
theorem dX11_write_27 : decode cX11_write 27 = .ok (.aload_n 0, 1) := by decide +kernel
theorem dX11_write_28 : decode cX11_write 28 = .ok (.getfield 14, 3) := by decide +kernel
theorem dX11_write_31 : decode cX11_write 31 = .ok (.iload_n 1, 1) := by decide +kernel
theorem dX11_write_32 : decode cX11_write 32 = .ok (.iaload, 1) := by decide +kernel
theorem dX11_write_33 : decode cX11_write 33 = .ok (.iconst 1, 1) := by decide +kernel
theorem dX11_write_34 : decode cX11_write 34 = .ok (.isub, 1) := by decide +kernel
theorem dX11_write_35 : decode cX11_write 35 = .ok (.if_icmp .lt 6, 3) := by decide +kernel
theorem dX11_write_38 : decode cX11_write 38 = .ok (.bipush (-6), 2) := by decide +kernel
theorem dX11_write_40 : decode cX11_write 40 = .ok (.ireturn, 1) := by decide +kernel
theorem dX11_write_41 : decode cX11_write 41 = .ok (.aload_n 0, 1) := by decide +kernel
theorem dX11_write_42 : decode cX11_write 42 = .ok (.getfield 18, 3) := by decide +kernel
theorem dX11_write_45 : decode cX11_write 45 = .ok (.iload_n 1, 1) := by decide +kernel
theorem dX11_write_46 : decode cX11_write 46 = .ok (.iaload, 1) := by decide +kernel
theorem dX11_write_47 : decode cX11_write 47 = .ok (.istore 5, 2) := by decide +kernel
theorem dX11_write_49 : decode cX11_write 49 = .ok (.aload_n 0, 1) := by decide +kernel
theorem dX11_write_50 : decode cX11_write 50 = .ok (.getfield 21, 3) := by decide +kernel
theorem dX11_write_53 : decode cX11_write 53 = .ok (.bipush 40, 2) := by decide +kernel
theorem dX11_write_55 : decode cX11_write 55 = .ok (.iload_n 1, 1) := by decide +kernel
theorem dX11_write_56 : decode cX11_write 56 = .ok (.imul, 1) := by decide +kernel
theorem dX11_write_57 : decode cX11_write 57 = .ok (.iload_n 2, 1) := by decide +kernel
theorem dX11_write_58 : decode cX11_write 58 = .ok (.iadd, 1) := by decide +kernel
theorem dX11_write_59 : decode cX11_write 59 = .ok (.iload 5, 2) := by decide +kernel
theorem dX11_write_61 : decode cX11_write 61 = .ok (.ifCond .ne 10, 3) := by decide +kernel
theorem dX11_write_64 : decode cX11_write 64 = .ok (.lload_n 3, 1) := by decide +kernel
theorem dX11_write_65 : decode cX11_write 65 = .ok (.l2i, 1) := by decide +kernel
theorem dX11_write_66 : decode cX11_write 66 = .ok (.i2b, 1) := by decide +kernel
theorem dX11_write_67 : decode cX11_write 67 = .ok (.i2l, 1) := by decide +kernel
theorem dX11_write_68 : decode cX11_write 68 = .ok (.goto 29, 3) := by decide +kernel
theorem dX11_write_71 : decode cX11_write 71 = .ok (.iload 5, 2) := by decide +kernel
theorem dX11_write_73 : decode cX11_write 73 = .ok (.iconst 1, 1) := by decide +kernel
theorem dX11_write_74 : decode cX11_write 74 = .ok (.if_icmp .ne 10, 3) := by decide +kernel
theorem dX11_write_77 : decode cX11_write 77 = .ok (.lload_n 3, 1) := by decide +kernel
theorem dX11_write_78 : decode cX11_write 78 = .ok (.l2i, 1) := by decide +kernel
theorem dX11_write_79 : decode cX11_write 79 = .ok (.i2s, 1) := by decide +kernel
theorem dX11_write_80 : decode cX11_write 80 = .ok (.i2l, 1) := by decide +kernel
theorem dX11_write_81 : decode cX11_write 81 = .ok (.goto 16, 3) := by decide +kernel
theorem dX11_write_84 : decode cX11_write 84 = .ok (.iload 5, 2) := by decide +kernel
theorem dX11_write_86 : decode cX11_write 86 = .ok (.iconst 2, 1) := by decide +kernel
theorem dX11_write_87 : decode cX11_write 87 = .ok (.if_icmp .ne 9, 3) := by decide +kernel
theorem dX11_write_90 : decode cX11_write 90 = .ok (.lload_n 3, 1) := by decide +kernel
theorem dX11_write_91 : decode cX11_write 91 = .ok (.l2i, 1) := by decide +kernel
theorem dX11_write_92 : decode cX11_write 92 = .ok (.i2l, 1) := by decide +kernel
theorem dX11_write_93 : decode cX11_write 93 = .ok (.goto 4, 3) := by decide +kernel
theorem dX11_write_96 : decode cX11_write 96 = .ok (.lload_n 3, 1) := by decide +kernel
theorem dX11_write_97 : decode cX11_write 97 = .ok (.lastore, 1) := by decide +kernel
theorem dX11_write_98 : decode cX11_write 98 = .ok (.iconst 0, 1) := by decide +kernel
theorem dX11_write_99 : decode cX11_write 99 = .ok (.ireturn, 1) := by decide +kernel
set_option maxRecDepth 20000 in
theorem ggX11_book_X11_isSlot : GoodIn wsX11_book wsX11_isSlot := goodIn_r _ [14] (by decide +kernel) (by decide +kernel)
set_option maxRecDepth 20000 in
theorem gX11_book_X11_isSlot : GoodIn wsX11_book (va_wsS RX11 113 yX11_isSlot wsX11_isSlot) := goodIn_app (goodIn_of _ (by decide +kernel)) ggX11_book_X11_isSlot
theorem dX11_book_0 : decode cX11_book 0 = .ok (.iload_n 1, 1) := by decide +kernel
theorem dX11_book_1 : decode cX11_book 1 = .ok (.invokestatic 113, 3) := by decide +kernel
theorem dX11_book_4 : decode cX11_book 4 = .ok (.ifCond .ne 6, 3) := by decide +kernel
theorem dX11_book_7 : decode cX11_book 7 = .ok (.bipush (-2), 2) := by decide +kernel
theorem dX11_book_9 : decode cX11_book 9 = .ok (.ireturn, 1) := by decide +kernel
theorem dX11_book_10 : decode cX11_book 10 = .ok (.aload_n 0, 1) := by decide +kernel
theorem dX11_book_11 : decode cX11_book 11 = .ok (.getfield 116, 3) := by decide +kernel
theorem dX11_book_14 : decode cX11_book 14 = .ok (.bipush 16, 2) := by decide +kernel
theorem dX11_book_16 : decode cX11_book 16 = .ok (.if_icmp .ne 6, 3) := by decide +kernel
theorem dX11_book_19 : decode cX11_book 19 = .ok (.bipush (-8), 2) := by decide +kernel
theorem dX11_book_21 : decode cX11_book 21 = .ok (.ireturn, 1) := by decide +kernel
theorem dX11_book_22 : decode cX11_book 22 = .ok (.aload_n 0, 1) := by decide +kernel
theorem dX11_book_23 : decode cX11_book 23 = .ok (.getfield 14, 3) := by decide +kernel
theorem dX11_book_26 : decode cX11_book 26 = .ok (.iload_n 1, 1) := by decide +kernel
theorem dX11_book_27 : decode cX11_book 27 = .ok (.iaload, 1) := by decide +kernel
theorem dX11_book_28 : decode cX11_book 28 = .ok (.ifCond .ne 6, 3) := by decide +kernel
theorem dX11_book_31 : decode cX11_book 31 = .ok (.bipush (-5), 2) := by decide +kernel
theorem dX11_book_33 : decode cX11_book 33 = .ok (.ireturn, 1) := by decide +kernel
theorem dX11_book_34 : decode cX11_book 34 = .ok (.aload_n 0, 1) := by decide +kernel
theorem dX11_book_35 : decode cX11_book 35 = .ok (.getfield 14, 3) := by decide +kernel
theorem dX11_book_38 : decode cX11_book 38 = .ok (.iload_n 1, 1) := by decide +kernel
theorem dX11_book_39 : decode cX11_book 39 = .ok (.iaload, 1) := by decide +kernel
theorem dX11_book_40 : decode cX11_book 40 = .ok (.iconst 1, 1) := by decide +kernel
theorem dX11_book_41 : decode cX11_book 41 = .ok (.isub, 1) := by decide +kernel
theorem dX11_book_42 : decode cX11_book 42 = .ok (.istore_n 2, 1) := by decide +kernel
theorem dX11_book_43 : decode cX11_book 43 = .ok (.iload_n 2, 1) := by decide +kernel
theorem dX11_book_44 : decode cX11_book 44 = .ok (.ifCond .ne 6, 3) := by decide +kernel
theorem dX11_book_47 : decode cX11_book 47 = .ok (.bipush (-6), 2) := by decide +kernel
theorem dX11_book_49 : decode cX11_book 49 = .ok (.ireturn, 1) := by decide +kernel
theorem dX11_book_50 : decode cX11_book 50 = .ok (.aload_n 0, 1) := by decide +kernel
theorem dX11_book_51 : decode cX11_book 51 = .ok (.getfield 21, 3) := by decide +kernel
theorem dX11_book_54 : decode cX11_book 54 = .ok (.bipush 40, 2) := by decide +kernel
theorem dX11_book_56 : decode cX11_book 56 = .ok (.iload_n 1, 1) := by decide +kernel
theorem dX11_book_57 : decode cX11_book 57 = .ok (.imul, 1) := by decide +kernel
theorem dX11_book_58 : decode cX11_book 58 = .ok (.laload, 1) := by decide +kernel
theorem dX11_book_59 : decode cX11_book 59 = .ok (.lstore_n 3, 1) := by decide +kernel
theorem dX11_book_60 : decode cX11_book 60 = .ok (.lload_n 3, 1) := by decide +kernel
theorem dX11_book_61 : decode cX11_book 61 = .ok (.lconst 1, 1) := by decide +kernel
theorem dX11_book_62 : decode cX11_book 62 = .ok (.lcmp, 1) := by decide +kernel
theorem dX11_book_63 : decode cX11_book 63 = .ok (.ifCond .lt 11, 3) := by decide +kernel
theorem dX11_book_66 : decode cX11_book 66 = .ok (.lload_n 3, 1) := by decide +kernel
theorem dX11_book_67 : decode cX11_book 67 = .ok (.ldc2_w 120, 3) := by decide +kernel
theorem dX11_book_70 : decode cX11_book 70 = .ok (.lcmp, 1) := by decide +kernel
theorem dX11_book_71 : decode cX11_book 71 = .ok (.ifCond .le 6, 3) := by decide +kernel
theorem dX11_book_74 : decode cX11_book 74 = .ok (.bipush (-4), 2) := by decide +kernel
theorem dX11_book_76 : decode cX11_book 76 = .ok (.ireturn, 1) := by decide +kernel
theorem dX11_book_77 : decode cX11_book 77 = .ok (.iconst 0, 1) := by decide +kernel
theorem dX11_book_78 : decode cX11_book 78 = .ok (.istore 5, 2) := by decide +kernel
theorem dX11_book_80 : decode cX11_book 80 = .ok (.iconst 1, 1) := by decide +kernel
theorem dX11_book_81 : decode cX11_book 81 = .ok (.istore 6, 2) := by decide +kernel
theorem dX11_book_83 : decode cX11_book 83 = .ok (.iload 6, 2) := by decide +kernel
theorem dX11_book_85 : decode cX11_book 85 = .ok (.i2l, 1) := by decide +kernel
theorem dX11_book_86 : decode cX11_book 86 = .ok (.ldc2_w 79, 3) := by decide +kernel
theorem dX11_book_89 : decode cX11_book 89 = .ok (.lload_n 3, 1) := by decide +kernel
theorem dX11_book_90 : decode cX11_book 90 = .ok (.lmul, 1) := by decide +kernel
theorem dX11_book_91 : decode cX11_book 91 = .ok (.lcmp, 1) := by decide +kernel
theorem dX11_book_92 : decode cX11_book 92 = .ok (.ifCond .gt 106, 3) := by decide +kernel
theorem dX11_book_95 : decode cX11_book 95 = .ok (.iload 6, 2) := by decide +kernel
theorem dX11_book_97 : decode cX11_book 97 = .ok (.iload_n 2, 1) := by decide +kernel
theorem dX11_book_98 : decode cX11_book 98 = .ok (.if_icmp .lt 6, 3) := by decide +kernel
theorem dX11_book_101 : decode cX11_book 101 = .ok (.bipush (-6), 2) := by decide +kernel
theorem dX11_book_103 : decode cX11_book 103 = .ok (.ireturn, 1) := by decide +kernel
theorem dX11_book_104 : decode cX11_book 104 = .ok (.aload_n 0, 1) := by decide +kernel
theorem dX11_book_105 : decode cX11_book 105 = .ok (.getfield 21, 3) := by decide +kernel
theorem dX11_book_108 : decode cX11_book 108 = .ok (.bipush 40, 2) := by decide +kernel
theorem dX11_book_110 : decode cX11_book 110 = .ok (.iload_n 1, 1) := by decide +kernel
theorem dX11_book_111 : decode cX11_book 111 = .ok (.imul, 1) := by decide +kernel
theorem dX11_book_112 : decode cX11_book 112 = .ok (.iload 6, 2) := by decide +kernel
theorem dX11_book_114 : decode cX11_book 114 = .ok (.iadd, 1) := by decide +kernel
theorem dX11_book_115 : decode cX11_book 115 = .ok (.laload, 1) := by decide +kernel
theorem dX11_book_116 : decode cX11_book 116 = .ok (.lstore 7, 2) := by decide +kernel
theorem dX11_book_118 : decode cX11_book 118 = .ok (.lload 7, 2) := by decide +kernel
theorem dX11_book_120 : decode cX11_book 120 = .ok (.lconst 0, 1) := by decide +kernel
theorem dX11_book_121 : decode cX11_book 121 = .ok (.lcmp, 1) := by decide +kernel
theorem dX11_book_122 : decode cX11_book 122 = .ok (.ifCond .lt 12, 3) := by decide +kernel
theorem dX11_book_125 : decode cX11_book 125 = .ok (.lload 7, 2) := by decide +kernel
theorem dX11_book_127 : decode cX11_book 127 = .ok (.ldc2_w 122, 3) := by decide +kernel
theorem dX11_book_130 : decode cX11_book 130 = .ok (.lcmp, 1) := by decide +kernel
theorem dX11_book_131 : decode cX11_book 131 = .ok (.ifCond .le 6, 3) := by decide +kernel
theorem dX11_book_134 : decode cX11_book 134 = .ok (.bipush (-4), 2) := by decide +kernel
theorem dX11_book_136 : decode cX11_book 136 = .ok (.ireturn, 1) := by decide +kernel
theorem dX11_book_137 : decode cX11_book 137 = .ok (.bipush 8, 2) := by decide +kernel
theorem dX11_book_139 : decode cX11_book 139 = .ok (.aload_n 0, 1) := by decide +kernel
theorem dX11_book_140 : decode cX11_book 140 = .ok (.getfield 116, 3) := by decide +kernel
theorem dX11_book_143 : decode cX11_book 143 = .ok (.imul, 1) := by decide +kernel
theorem dX11_book_144 : decode cX11_book 144 = .ok (.iload 6, 2) := by decide +kernel
theorem dX11_book_146 : decode cX11_book 146 = .ok (.iconst 1, 1) := by decide +kernel
theorem dX11_book_147 : decode cX11_book 147 = .ok (.isub, 1) := by decide +kernel
theorem dX11_book_148 : decode cX11_book 148 = .ok (.iconst 2, 1) := by decide +kernel
theorem dX11_book_149 : decode cX11_book 149 = .ok (.idiv, 1) := by decide +kernel
theorem dX11_book_150 : decode cX11_book 150 = .ok (.iadd, 1) := by decide +kernel
theorem dX11_book_151 : decode cX11_book 151 = .ok (.istore 9, 2) := by decide +kernel
theorem dX11_book_153 : decode cX11_book 153 = .ok (.iload 6, 2) := by decide +kernel
theorem dX11_book_155 : decode cX11_book 155 = .ok (.iconst 2, 1) := by decide +kernel
theorem dX11_book_156 : decode cX11_book 156 = .ok (.irem, 1) := by decide +kernel
theorem dX11_book_157 : decode cX11_book 157 = .ok (.iconst 1, 1) := by decide +kernel
theorem dX11_book_158 : decode cX11_book 158 = .ok (.if_icmp .ne 16, 3) := by decide +kernel
theorem dX11_book_161 : decode cX11_book 161 = .ok (.aload_n 0, 1) := by decide +kernel
theorem dX11_book_162 : decode cX11_book 162 = .ok (.getfield 27, 3) := by decide +kernel
theorem dX11_book_165 : decode cX11_book 165 = .ok (.iload 9, 2) := by decide +kernel
theorem dX11_book_167 : decode cX11_book 167 = .ok (.lload 7, 2) := by decide +kernel
theorem dX11_book_169 : decode cX11_book 169 = .ok (.l2i, 1) := by decide +kernel
theorem dX11_book_170 : decode cX11_book 170 = .ok (.iastore, 1) := by decide +kernel
theorem dX11_book_171 : decode cX11_book 171 = .ok (.goto 21, 3) := by decide +kernel
theorem dX11_book_174 : decode cX11_book 174 = .ok (.aload_n 0, 1) := by decide +kernel
theorem dX11_book_175 : decode cX11_book 175 = .ok (.getfield 30, 3) := by decide +kernel
theorem dX11_book_178 : decode cX11_book 178 = .ok (.iload 9, 2) := by decide +kernel
