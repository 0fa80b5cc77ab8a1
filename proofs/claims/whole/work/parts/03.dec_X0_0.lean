theorem dX0_init_0 : decode cX0_init 0 = .ok (.aload_n 0, 1) := by decide +kernel
theorem dX0_init_1 : decode cX0_init 1 = .ok (.invokespecial 3, 3) := by decide +kernel
theorem dX0_init_4 : decode cX0_init 4 = .ok (.aload_n 0, 1) := by decide +kernel
theorem dX0_init_5 : decode cX0_init 5 = .ok (.bipush 8, 2) := by decide +kernel
theorem dX0_init_7 : decode cX0_init 7 = .ok (.newarray .int, 2) := by decide +kernel
theorem dX0_init_9 : decode cX0_init 9 = .ok (.putfield 9, 3) := by decide +kernel
theorem dX0_init_12 : decode cX0_init 12 = .ok (.aload_n 0, 1) := by decide +kernel
theorem dX0_init_13 : decode cX0_init 13 = .ok (.bipush 8, 2) := by decide +kernel
theorem dX0_init_15 : decode cX0_init 15 = .ok (.newarray .int, 2) := by decide +kernel
theorem dX0_init_17 : decode cX0_init 17 = .ok (.putfield 15, 3) := by decide +kernel
theorem dX0_init_20 : decode cX0_init 20 = .ok (.aload_n 0, 1) := by decide +kernel
theorem dX0_init_21 : decode cX0_init 21 = .ok (.iconst 0, 1) := by decide +kernel
theorem dX0_init_22 : decode cX0_init 22 = .ok (.putfield 18, 3) := by decide +kernel
theorem dX0_init_25 : decode cX0_init 25 = .ok (.aload_n 0, 1) := by decide +kernel
theorem dX0_init_26 : decode cX0_init 26 = .ok (.iconst 0, 1) := by decide +kernel
theorem dX0_init_27 : decode cX0_init 27 = .ok (.putfield 22, 3) := by decide +kernel
theorem dX0_init_30 : decode cX0_init 30 = .ok (.return_, 1) := by decide +kernel
set_option maxRecDepth 20000 in
theorem ggX0_readFrom_X9_read : GoodIn wsX0_readFrom wsX9_read := goodIn_r _ [7, 8, 9, 10, 11, 12, 24, 25, 26] (by decide +kernel) (by decide +kernel)
set_option maxRecDepth 20000 in
theorem gX0_readFrom_X9_read : GoodIn wsX0_readFrom (wsV RX0 25 RX9 yX9_read wsX9_read) := goodIn_app (goodIn_of _ (by decide +kernel)) ggX0_readFrom_X9_read
set_option maxRecDepth 20000 in
theorem ggX0_readFrom_X0_addPair : GoodIn wsX0_readFrom wsX0_addPair := goodIn_r _ [17, 1, 2, 18, 19, 20, 21, 22, 23] (by decide +kernel) (by decide +kernel)
set_option maxRecDepth 20000 in
theorem gX0_readFrom_X0_addPair : GoodIn wsX0_readFrom (wsV RX0 31 RX0 yX0_addPair wsX0_addPair) := goodIn_app (goodIn_of _ (by decide +kernel)) ggX0_readFrom_X0_addPair
theorem dX0_readFrom_0 : decode cX0_readFrom 0 = .ok (.aload_n 0, 1) := by decide +kernel
theorem dX0_readFrom_1 : decode cX0_readFrom 1 = .ok (.iconst 0, 1) := by decide +kernel
theorem dX0_readFrom_2 : decode cX0_readFrom 2 = .ok (.putfield 18, 3) := by decide +kernel
theorem dX0_readFrom_5 : decode cX0_readFrom 5 = .ok (.aload_n 0, 1) := by decide +kernel
theorem dX0_readFrom_6 : decode cX0_readFrom 6 = .ok (.iconst 0, 1) := by decide +kernel
theorem dX0_readFrom_7 : decode cX0_readFrom 7 = .ok (.putfield 22, 3) := by decide +kernel
theorem dX0_readFrom_10 : decode cX0_readFrom 10 = .ok (.aload_n 1, 1) := by decide +kernel
theorem dX0_readFrom_11 : decode cX0_readFrom 11 = .ok (.iconst 0, 1) := by decide +kernel
theorem dX0_readFrom_12 : decode cX0_readFrom 12 = .ok (.iconst 1, 1) := by decide +kernel
theorem dX0_readFrom_13 : decode cX0_readFrom 13 = .ok (.bipush 8, 2) := by decide +kernel
theorem dX0_readFrom_15 : decode cX0_readFrom 15 = .ok (.invokevirtual 25, 3) := by decide +kernel
theorem dX0_readFrom_18 : decode cX0_readFrom 18 = .ok (.istore_n 2, 1) := by decide +kernel
theorem dX0_readFrom_19 : decode cX0_readFrom 19 = .ok (.iload_n 2, 1) := by decide +kernel
theorem dX0_readFrom_20 : decode cX0_readFrom 20 = .ok (.ifCond .ge 5, 3) := by decide +kernel
theorem dX0_readFrom_23 : decode cX0_readFrom 23 = .ok (.iload_n 2, 1) := by decide +kernel
theorem dX0_readFrom_24 : decode cX0_readFrom 24 = .ok (.ireturn, 1) := by decide +kernel
theorem dX0_readFrom_25 : decode cX0_readFrom 25 = .ok (.iconst 0, 1) := by decide +kernel
theorem dX0_readFrom_26 : decode cX0_readFrom 26 = .ok (.istore_n 3, 1) := by decide +kernel
theorem dX0_readFrom_27 : decode cX0_readFrom 27 = .ok (.iload_n 3, 1) := by decide +kernel
theorem dX0_readFrom_28 : decode cX0_readFrom 28 = .ok (.iload_n 2, 1) := by decide +kernel
theorem dX0_readFrom_29 : decode cX0_readFrom 29 = .ok (.if_icmp .ge 63, 3) := by decide +kernel
theorem dX0_readFrom_32 : decode cX0_readFrom 32 = .ok (.aload_n 1, 1) := by decide +kernel
theorem dX0_readFrom_33 : decode cX0_readFrom 33 = .ok (.iconst 2, 1) := by decide +kernel
theorem dX0_readFrom_34 : decode cX0_readFrom 34 = .ok (.iload_n 3, 1) := by decide +kernel
theorem dX0_readFrom_35 : decode cX0_readFrom 35 = .ok (.imul, 1) := by decide +kernel
theorem dX0_readFrom_36 : decode cX0_readFrom 36 = .ok (.iconst 1, 1) := by decide +kernel
theorem dX0_readFrom_37 : decode cX0_readFrom 37 = .ok (.iadd, 1) := by decide +kernel
theorem dX0_readFrom_38 : decode cX0_readFrom 38 = .ok (.iconst 0, 1) := by decide +kernel
theorem dX0_readFrom_39 : decode cX0_readFrom 39 = .ok (.sipush 1000, 3) := by decide +kernel
theorem dX0_readFrom_42 : decode cX0_readFrom 42 = .ok (.invokevirtual 25, 3) := by decide +kernel
theorem dX0_readFrom_45 : decode cX0_readFrom 45 = .ok (.istore 4, 2) := by decide +kernel
theorem dX0_readFrom_47 : decode cX0_readFrom 47 = .ok (.iload 4, 2) := by decide +kernel
theorem dX0_readFrom_49 : decode cX0_readFrom 49 = .ok (.ifCond .ge 6, 3) := by decide +kernel
theorem dX0_readFrom_52 : decode cX0_readFrom 52 = .ok (.iload 4, 2) := by decide +kernel
theorem dX0_readFrom_54 : decode cX0_readFrom 54 = .ok (.ireturn, 1) := by decide +kernel
theorem dX0_readFrom_55 : decode cX0_readFrom 55 = .ok (.aload_n 1, 1) := by decide +kernel
theorem dX0_readFrom_56 : decode cX0_readFrom 56 = .ok (.iconst 2, 1) := by decide +kernel
theorem dX0_readFrom_57 : decode cX0_readFrom 57 = .ok (.iload_n 3, 1) := by decide +kernel
theorem dX0_readFrom_58 : decode cX0_readFrom 58 = .ok (.imul, 1) := by decide +kernel
theorem dX0_readFrom_59 : decode cX0_readFrom 59 = .ok (.iconst 2, 1) := by decide +kernel
theorem dX0_readFrom_60 : decode cX0_readFrom 60 = .ok (.iadd, 1) := by decide +kernel
theorem dX0_readFrom_61 : decode cX0_readFrom 61 = .ok (.iconst 0, 1) := by decide +kernel
theorem dX0_readFrom_62 : decode cX0_readFrom 62 = .ok (.sipush 1000, 3) := by decide +kernel
theorem dX0_readFrom_65 : decode cX0_readFrom 65 = .ok (.invokevirtual 25, 3) := by decide +kernel
theorem dX0_readFrom_68 : decode cX0_readFrom 68 = .ok (.istore 5, 2) := by decide +kernel
theorem dX0_readFrom_70 : decode cX0_readFrom 70 = .ok (.iload 5, 2) := by decide +kernel
theorem dX0_readFrom_72 : decode cX0_readFrom 72 = .ok (.ifCond .ge 6, 3) := by decide +kernel
theorem dX0_readFrom_75 : decode cX0_readFrom 75 = .ok (.iload 5, 2) := by decide +kernel
theorem dX0_readFrom_77 : decode cX0_readFrom 77 = .ok (.ireturn, 1) := by decide +kernel
theorem dX0_readFrom_78 : decode cX0_readFrom 78 = .ok (.aload_n 0, 1) := by decide +kernel
theorem dX0_readFrom_79 : decode cX0_readFrom 79 = .ok (.iload 4, 2) := by decide +kernel
theorem dX0_readFrom_81 : decode cX0_readFrom 81 = .ok (.iload 5, 2) := by decide +kernel
theorem dX0_readFrom_83 : decode cX0_readFrom 83 = .ok (.invokevirtual 31, 3) := by decide +kernel
theorem dX0_readFrom_86 : decode cX0_readFrom 86 = .ok (.iinc 3 1, 3) := by decide +kernel
theorem dX0_readFrom_89 : decode cX0_readFrom 89 = .ok (.goto (-62), 3) := by decide +kernel
theorem dX0_readFrom_92 : decode cX0_readFrom 92 = .ok (.aload_n 0, 1) := by decide +kernel
theorem dX0_readFrom_93 : decode cX0_readFrom 93 = .ok (.getfield 22, 3) := by decide +kernel
theorem dX0_readFrom_96 : decode cX0_readFrom 96 = .ok (.ifCond .ne 8, 3) := by decide +kernel
theorem dX0_readFrom_99 : decode cX0_readFrom 99 = .ok (.bipush (-4), 2) := by decide +kernel
theorem dX0_readFrom_101 : decode cX0_readFrom 101 = .ok (.goto 4, 3) := by decide +kernel
theorem dX0_readFrom_104 : decode cX0_readFrom 104 = .ok (.iconst 0, 1) := by decide +kernel
theorem dX0_readFrom_105 : decode cX0_readFrom 105 = .ok (.ireturn, 1) := by decide +kernel
theorem dX0_addPair_0 : decode cX0_addPair 0 = .ok (.iload_n 2, 1) := by decide +kernel
theorem dX0_addPair_1 : decode cX0_addPair 1 = .ok (.ifCond .eq 12, 3) := by decide +kernel
theorem dX0_addPair_4 : decode cX0_addPair 4 = .ok (.aload_n 0, 1) := by decide +kernel
theorem dX0_addPair_5 : decode cX0_addPair 5 = .ok (.getfield 18, 3) := by decide +kernel
theorem dX0_addPair_8 : decode cX0_addPair 8 = .ok (.bipush 8, 2) := by decide +kernel
theorem dX0_addPair_10 : decode cX0_addPair 10 = .ok (.if_icmp .lt 4, 3) := by decide +kernel
theorem dX0_addPair_13 : decode cX0_addPair 13 = .ok (.return_, 1) := by decide +kernel
theorem dX0_addPair_14 : decode cX0_addPair 14 = .ok (.aload_n 0, 1) := by decide +kernel
theorem dX0_addPair_15 : decode cX0_addPair 15 = .ok (.dup, 1) := by decide +kernel
theorem dX0_addPair_16 : decode cX0_addPair 16 = .ok (.getfield 22, 3) := by decide +kernel
theorem dX0_addPair_19 : decode cX0_addPair 19 = .ok (.iload_n 2, 1) := by decide +kernel
theorem dX0_addPair_20 : decode cX0_addPair 20 = .ok (.iadd, 1) := by decide +kernel
theorem dX0_addPair_21 : decode cX0_addPair 21 = .ok (.putfield 22, 3) := by decide +kernel
theorem dX0_addPair_24 : decode cX0_addPair 24 = .ok (.iconst 0, 1) := by decide +kernel
theorem dX0_addPair_25 : decode cX0_addPair 25 = .ok (.istore_n 3, 1) := by decide +kernel
theorem dX0_addPair_26 : decode cX0_addPair 26 = .ok (.iload_n 3, 1) := by decide +kernel
theorem dX0_addPair_27 : decode cX0_addPair 27 = .ok (.aload_n 0, 1) := by decide +kernel
theorem dX0_addPair_28 : decode cX0_addPair 28 = .ok (.getfield 18, 3) := by decide +kernel
theorem dX0_addPair_31 : decode cX0_addPair 31 = .ok (.if_icmp .ge 19, 3) := by decide +kernel
theorem dX0_addPair_34 : decode cX0_addPair 34 = .ok (.aload_n 0, 1) := by decide +kernel
theorem dX0_addPair_35 : decode cX0_addPair 35 = .ok (.getfield 9, 3) := by decide +kernel
theorem dX0_addPair_38 : decode cX0_addPair 38 = .ok (.iload_n 3, 1) := by decide +kernel
theorem dX0_addPair_39 : decode cX0_addPair 39 = .ok (.iaload, 1) := by decide +kernel
theorem dX0_addPair_40 : decode cX0_addPair 40 = .ok (.iload_n 1, 1) := by decide +kernel
theorem dX0_addPair_41 : decode cX0_addPair 41 = .ok (.if_icmp .ge 9, 3) := by decide +kernel
theorem dX0_addPair_44 : decode cX0_addPair 44 = .ok (.iinc 3 1, 3) := by decide +kernel
theorem dX0_addPair_47 : decode cX0_addPair 47 = .ok (.goto (-21), 3) := by decide +kernel
theorem dX0_addPair_50 : decode cX0_addPair 50 = .ok (.iload_n 3, 1) := by decide +kernel
theorem dX0_addPair_51 : decode cX0_addPair 51 = .ok (.aload_n 0, 1) := by decide +kernel
theorem dX0_addPair_52 : decode cX0_addPair 52 = .ok (.getfield 18, 3) := by decide +kernel
theorem dX0_addPair_55 : decode cX0_addPair 55 = .ok (.if_icmp .ge 24, 3) := by decide +kernel
theorem dX0_addPair_58 : decode cX0_addPair 58 = .ok (.aload_n 0, 1) := by decide +kernel
theorem dX0_addPair_59 : decode cX0_addPair 59 = .ok (.getfield 9, 3) := by decide +kernel
theorem dX0_addPair_62 : decode cX0_addPair 62 = .ok (.iload_n 3, 1) := by decide +kernel
theorem dX0_addPair_63 : decode cX0_addPair 63 = .ok (.iaload, 1) := by decide +kernel
theorem dX0_addPair_64 : decode cX0_addPair 64 = .ok (.iload_n 1, 1) := by decide +kernel
theorem dX0_addPair_65 : decode cX0_addPair 65 = .ok (.if_icmp .ne 14, 3) := by decide +kernel
theorem dX0_addPair_68 : decode cX0_addPair 68 = .ok (.aload_n 0, 1) := by decide +kernel
theorem dX0_addPair_69 : decode cX0_addPair 69 = .ok (.getfield 15, 3) := by decide +kernel
theorem dX0_addPair_72 : decode cX0_addPair 72 = .ok (.iload_n 3, 1) := by decide +kernel
theorem dX0_addPair_73 : decode cX0_addPair 73 = .ok (.dup2, 1) := by decide +kernel
theorem dX0_addPair_74 : decode cX0_addPair 74 = .ok (.iaload, 1) := by decide +kernel
theorem dX0_addPair_75 : decode cX0_addPair 75 = .ok (.iload_n 2, 1) := by decide +kernel
theorem dX0_addPair_76 : decode cX0_addPair 76 = .ok (.iadd, 1) := by decide +kernel
theorem dX0_addPair_77 : decode cX0_addPair 77 = .ok (.iastore, 1) := by decide +kernel
theorem dX0_addPair_78 : decode cX0_addPair 78 = .ok (.return_, 1) := by decide +kernel
theorem dX0_addPair_79 : decode cX0_addPair 79 = .ok (.aload_n 0, 1) := by decide +kernel
theorem dX0_addPair_80 : decode cX0_addPair 80 = .ok (.getfield 18, 3) := by decide +kernel
theorem dX0_addPair_83 : decode cX0_addPair 83 = .ok (.istore 4, 2) := by decide +kernel
theorem dX0_addPair_85 : decode cX0_addPair 85 = .ok (.iload 4, 2) := by decide +kernel
theorem dX0_addPair_87 : decode cX0_addPair 87 = .ok (.iload_n 3, 1) := by decide +kernel
theorem dX0_addPair_88 : decode cX0_addPair 88 = .ok (.if_icmp .le 41, 3) := by decide +kernel
theorem dX0_addPair_91 : decode cX0_addPair 91 = .ok (.aload_n 0, 1) := by decide +kernel
theorem dX0_addPair_92 : decode cX0_addPair 92 = .ok (.getfield 9, 3) := by decide +kernel
theorem dX0_addPair_95 : decode cX0_addPair 95 = .ok (.iload 4, 2) := by decide +kernel
theorem dX0_addPair_97 : decode cX0_addPair 97 = .ok (.aload_n 0, 1) := by decide +kernel
theorem dX0_addPair_98 : decode cX0_addPair 98 = .ok (.getfield 9, 3) := by decide +kernel
theorem dX0_addPair_101 : decode cX0_addPair 101 = .ok (.iload 4, 2) := by decide +kernel
theorem dX0_addPair_103 : decode cX0_addPair 103 = .ok (.iconst 1, 1) := by decide +kernel
theorem dX0_addPair_104 : decode cX0_addPair 104 = .ok (.isub, 1) := by decide +kernel
theorem dX0_addPair_105 : decode cX0_addPair 105 = .ok (.iaload, 1) := by decide +kernel
theorem dX0_addPair_106 : decode cX0_addPair 106 = .ok (.iastore, 1) := by decide +kernel
theorem dX0_addPair_107 : decode cX0_addPair 107 = .ok (.aload_n 0, 1) := by decide +kernel
theorem dX0_addPair_108 : decode cX0_addPair 108 = .ok (.getfield 15, 3) := by decide +kernel
theorem dX0_addPair_111 : decode cX0_addPair 111 = .ok (.iload 4, 2) := by decide +kernel
theorem dX0_addPair_113 : decode cX0_addPair 113 = .ok (.aload_n 0, 1) := by decide +kernel
theorem dX0_addPair_114 : decode cX0_addPair 114 = .ok (.getfield 15, 3) := by decide +kernel
theorem dX0_addPair_117 : decode cX0_addPair 117 = .ok (.iload 4, 2) := by decide +kernel
theorem dX0_addPair_119 : decode cX0_addPair 119 = .ok (.iconst 1, 1) := by decide +kernel
theorem dX0_addPair_120 : decode cX0_addPair 120 = .ok (.isub, 1) := by decide +kernel
theorem dX0_addPair_121 : decode cX0_addPair 121 = .ok (.iaload, 1) := by decide +kernel
theorem dX0_addPair_122 : decode cX0_addPair 122 = .ok (.iastore, 1) := by decide +kernel
theorem dX0_addPair_123 : decode cX0_addPair 123 = .ok (.iinc 4 (-1), 3) := by decide +kernel
theorem dX0_addPair_126 : decode cX0_addPair 126 = .ok (.goto (-41), 3) := by decide +kernel
theorem dX0_addPair_129 : decode cX0_addPair 129 = .ok (.aload_n 0, 1) := by decide +kernel
theorem dX0_addPair_130 : decode cX0_addPair 130 = .ok (.getfield 9, 3) := by decide +kernel
theorem dX0_addPair_133 : decode cX0_addPair 133 = .ok (.iload_n 3, 1) := by decide +kernel
theorem dX0_addPair_134 : decode cX0_addPair 134 = .ok (.iload_n 1, 1) := by decide +kernel
theorem dX0_addPair_135 : decode cX0_addPair 135 = .ok (.iastore, 1) := by decide +kernel
theorem dX0_addPair_136 : decode cX0_addPair 136 = .ok (.aload_n 0, 1) := by decide +kernel
theorem dX0_addPair_137 : decode cX0_addPair 137 = .ok (.getfield 15, 3) := by decide +kernel
theorem dX0_addPair_140 : decode cX0_addPair 140 = .ok (.iload_n 3, 1) := by decide +kernel
theorem dX0_addPair_141 : decode cX0_addPair 141 = .ok (.iload_n 2, 1) := by decide +kernel
theorem dX0_addPair_142 : decode cX0_addPair 142 = .ok (.iastore, 1) := by decide +kernel
theorem dX0_addPair_143 : decode cX0_addPair 143 = .ok (.aload_n 0, 1) := by decide +kernel
theorem dX0_addPair_144 : decode cX0_addPair 144 = .ok (.dup, 1) := by decide +kernel
theorem dX0_addPair_145 : decode cX0_addPair 145 = .ok (.getfield 18, 3) := by decide +kernel
theorem dX0_addPair_148 : decode cX0_addPair 148 = .ok (.iconst 1, 1) := by decide +kernel
theorem dX0_addPair_149 : decode cX0_addPair 149 = .ok (.iadd, 1) := by decide +kernel
theorem dX0_addPair_150 : decode cX0_addPair 150 = .ok (.putfield 18, 3) := by decide +kernel
theorem dX0_addPair_153 : decode cX0_addPair 153 = .ok (.return_, 1) := by decide +kernel
theorem dX0_total_0 : decode cX0_total 0 = .ok (.aload_n 0, 1) := by decide +kernel
theorem dX0_total_1 : decode cX0_total 1 = .ok (.getfield 22, 3) := by decide +kernel
theorem dX0_total_4 : decode cX0_total 4 = .ok (.ireturn, 1) := by decide +kernel
theorem dX0_below_0 : decode cX0_below 0 = .ok (.iconst 0, 1) := by decide +kernel
theorem dX0_below_1 : decode cX0_below 1 = .ok (.istore_n 2, 1) := by decide +kernel
theorem dX0_below_2 : decode cX0_below 2 = .ok (.iconst 0, 1) := by decide +kernel
theorem dX0_below_3 : decode cX0_below 3 = .ok (.istore_n 3, 1) := by decide +kernel
theorem dX0_below_4 : decode cX0_below 4 = .ok (.iload_n 3, 1) := by decide +kernel
theorem dX0_below_5 : decode cX0_below 5 = .ok (.aload_n 0, 1) := by decide +kernel
theorem dX0_below_6 : decode cX0_below 6 = .ok (.getfield 18, 3) := by decide +kernel
theorem dX0_below_9 : decode cX0_below 9 = .ok (.if_icmp .ge 28, 3) := by decide +kernel
theorem dX0_below_12 : decode cX0_below 12 = .ok (.aload_n 0, 1) := by decide +kernel
theorem dX0_below_13 : decode cX0_below 13 = .ok (.getfield 9, 3) := by decide +kernel
theorem dX0_below_16 : decode cX0_below 16 = .ok (.iload_n 3, 1) := by decide +kernel
theorem dX0_below_17 : decode cX0_below 17 = .ok (.iaload, 1) := by decide +kernel
theorem dX0_below_18 : decode cX0_below 18 = .ok (.iload_n 1, 1) := by decide +kernel
theorem dX0_below_19 : decode cX0_below 19 = .ok (.if_icmp .ge 18, 3) := by decide +kernel
theorem dX0_below_22 : decode cX0_below 22 = .ok (.iload_n 2, 1) := by decide +kernel
theorem dX0_below_23 : decode cX0_below 23 = .ok (.aload_n 0, 1) := by decide +kernel
theorem dX0_below_24 : decode cX0_below 24 = .ok (.getfield 15, 3) := by decide +kernel
theorem dX0_below_27 : decode cX0_below 27 = .ok (.iload_n 3, 1) := by decide +kernel
theorem dX0_below_28 : decode cX0_below 28 = .ok (.iaload, 1) := by decide +kernel
theorem dX0_below_29 : decode cX0_below 29 = .ok (.iadd, 1) := by decide +kernel
theorem dX0_below_30 : decode cX0_below 30 = .ok (.istore_n 2, 1) := by decide +kernel
theorem dX0_below_31 : decode cX0_below 31 = .ok (.iinc 3 1, 3) := by decide +kernel
theorem dX0_below_34 : decode cX0_below 34 = .ok (.goto (-30), 3) := by decide +kernel
theorem dX0_below_37 : decode cX0_below 37 = .ok (.iload_n 2, 1) := by decide +kernel
theorem dX0_below_38 : decode cX0_below 38 = .ok (.ireturn, 1) := by decide +kernel
theorem dX0_gathered_0 : decode cX0_gathered 0 = .ok (.iconst 0, 1) := by decide +kernel
theorem dX0_gathered_1 : decode cX0_gathered 1 = .ok (.istore_n 2, 1) := by decide +kernel
theorem dX0_gathered_2 : decode cX0_gathered 2 = .ok (.aload_n 0, 1) := by decide +kernel
theorem dX0_gathered_3 : decode cX0_gathered 3 = .ok (.getfield 18, 3) := by decide +kernel
theorem dX0_gathered_6 : decode cX0_gathered 6 = .ok (.iconst 1, 1) := by decide +kernel
theorem dX0_gathered_7 : decode cX0_gathered 7 = .ok (.isub, 1) := by decide +kernel
theorem dX0_gathered_8 : decode cX0_gathered 8 = .ok (.istore_n 3, 1) := by decide +kernel
theorem dX0_gathered_9 : decode cX0_gathered 9 = .ok (.iload_n 3, 1) := by decide +kernel
theorem dX0_gathered_10 : decode cX0_gathered 10 = .ok (.ifCond .lt 35, 3) := by decide +kernel
theorem dX0_gathered_13 : decode cX0_gathered 13 = .ok (.aload_n 0, 1) := by decide +kernel
theorem dX0_gathered_14 : decode cX0_gathered 14 = .ok (.getfield 9, 3) := by decide +kernel
theorem dX0_gathered_17 : decode cX0_gathered 17 = .ok (.iload_n 3, 1) := by decide +kernel
theorem dX0_gathered_18 : decode cX0_gathered 18 = .ok (.iaload, 1) := by decide +kernel
theorem dX0_gathered_19 : decode cX0_gathered 19 = .ok (.iload_n 1, 1) := by decide +kernel
theorem dX0_gathered_20 : decode cX0_gathered 20 = .ok (.if_icmp .lt 25, 3) := by decide +kernel
theorem dX0_gathered_23 : decode cX0_gathered 23 = .ok (.iload_n 2, 1) := by decide +kernel
theorem dX0_gathered_24 : decode cX0_gathered 24 = .ok (.aload_n 0, 1) := by decide +kernel
theorem dX0_gathered_25 : decode cX0_gathered 25 = .ok (.getfield 9, 3) := by decide +kernel
theorem dX0_gathered_28 : decode cX0_gathered 28 = .ok (.iload_n 3, 1) := by decide +kernel
theorem dX0_gathered_29 : decode cX0_gathered 29 = .ok (.iaload, 1) := by decide +kernel
theorem dX0_gathered_30 : decode cX0_gathered 30 = .ok (.aload_n 0, 1) := by decide +kernel
theorem dX0_gathered_31 : decode cX0_gathered 31 = .ok (.getfield 15, 3) := by decide +kernel
theorem dX0_gathered_34 : decode cX0_gathered 34 = .ok (.iload_n 3, 1) := by decide +kernel
theorem dX0_gathered_35 : decode cX0_gathered 35 = .ok (.iaload, 1) := by decide +kernel
theorem dX0_gathered_36 : decode cX0_gathered 36 = .ok (.imul, 1) := by decide +kernel
theorem dX0_gathered_37 : decode cX0_gathered 37 = .ok (.iadd, 1) := by decide +kernel
theorem dX0_gathered_38 : decode cX0_gathered 38 = .ok (.istore_n 2, 1) := by decide +kernel
theorem dX0_gathered_39 : decode cX0_gathered 39 = .ok (.iinc 3 (-1), 3) := by decide +kernel
theorem dX0_gathered_42 : decode cX0_gathered 42 = .ok (.goto (-33), 3) := by decide +kernel
theorem dX0_gathered_45 : decode cX0_gathered 45 = .ok (.iload_n 2, 1) := by decide +kernel
theorem dX0_gathered_46 : decode cX0_gathered 46 = .ok (.ireturn, 1) := by decide +kernel
theorem dX0_leastFrom_0 : decode cX0_leastFrom 0 = .ok (.iconst 0, 1) := by decide +kernel
theorem dX0_leastFrom_1 : decode cX0_leastFrom 1 = .ok (.istore_n 2, 1) := by decide +kernel
theorem dX0_leastFrom_2 : decode cX0_leastFrom 2 = .ok (.iload_n 2, 1) := by decide +kernel
theorem dX0_leastFrom_3 : decode cX0_leastFrom 3 = .ok (.aload_n 0, 1) := by decide +kernel
theorem dX0_leastFrom_4 : decode cX0_leastFrom 4 = .ok (.getfield 18, 3) := by decide +kernel
theorem dX0_leastFrom_7 : decode cX0_leastFrom 7 = .ok (.if_icmp .ge 26, 3) := by decide +kernel
theorem dX0_leastFrom_10 : decode cX0_leastFrom 10 = .ok (.aload_n 0, 1) := by decide +kernel
theorem dX0_leastFrom_11 : decode cX0_leastFrom 11 = .ok (.getfield 9, 3) := by decide +kernel
theorem dX0_leastFrom_14 : decode cX0_leastFrom 14 = .ok (.iload_n 2, 1) := by decide +kernel
theorem dX0_leastFrom_15 : decode cX0_leastFrom 15 = .ok (.iaload, 1) := by decide +kernel
theorem dX0_leastFrom_16 : decode cX0_leastFrom 16 = .ok (.iload_n 1, 1) := by decide +kernel
theorem dX0_leastFrom_17 : decode cX0_leastFrom 17 = .ok (.if_icmp .lt 10, 3) := by decide +kernel
theorem dX0_leastFrom_20 : decode cX0_leastFrom 20 = .ok (.aload_n 0, 1) := by decide +kernel
theorem dX0_leastFrom_21 : decode cX0_leastFrom 21 = .ok (.getfield 9, 3) := by decide +kernel
theorem dX0_leastFrom_24 : decode cX0_leastFrom 24 = .ok (.iload_n 2, 1) := by decide +kernel
theorem dX0_leastFrom_25 : decode cX0_leastFrom 25 = .ok (.iaload, 1) := by decide +kernel
theorem dX0_leastFrom_26 : decode cX0_leastFrom 26 = .ok (.ireturn, 1) := by decide +kernel
theorem dX0_leastFrom_27 : decode cX0_leastFrom 27 = .ok (.iinc 2 1, 3) := by decide +kernel
theorem dX0_leastFrom_30 : decode cX0_leastFrom 30 = .ok (.goto (-28), 3) := by decide +kernel
theorem dX0_leastFrom_33 : decode cX0_leastFrom 33 = .ok (.iconst (-1), 1) := by decide +kernel
theorem dX0_leastFrom_34 : decode cX0_leastFrom 34 = .ok (.ireturn, 1) := by decide +kernel
