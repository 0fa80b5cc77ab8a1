theorem dX11_book_180 : decode cX11_book 180 = .ok (.lload 7, 2) := by decide +kernel
theorem dX11_book_182 : decode cX11_book 182 = .ok (.l2i, 1) := by decide +kernel
theorem dX11_book_183 : decode cX11_book 183 = .ok (.iastore, 1) := by decide +kernel
theorem dX11_book_184 : decode cX11_book 184 = .ok (.iload 5, 2) := by decide +kernel
theorem dX11_book_186 : decode cX11_book 186 = .ok (.lload 7, 2) := by decide +kernel
theorem dX11_book_188 : decode cX11_book 188 = .ok (.l2i, 1) := by decide +kernel
theorem dX11_book_189 : decode cX11_book 189 = .ok (.iadd, 1) := by decide +kernel
theorem dX11_book_190 : decode cX11_book 190 = .ok (.istore 5, 2) := by decide +kernel
theorem dX11_book_192 : decode cX11_book 192 = .ok (.iinc 6 1, 3) := by decide +kernel
theorem dX11_book_195 : decode cX11_book 195 = .ok (.goto (-112), 3) := by decide +kernel
theorem dX11_book_198 : decode cX11_book 198 = .ok (.iload 5, 2) := by decide +kernel
theorem dX11_book_200 : decode cX11_book 200 = .ok (.ifCond .ne 6, 3) := by decide +kernel
theorem dX11_book_203 : decode cX11_book 203 = .ok (.bipush (-4), 2) := by decide +kernel
theorem dX11_book_205 : decode cX11_book 205 = .ok (.ireturn, 1) := by decide +kernel
theorem dX11_book_206 : decode cX11_book 206 = .ok (.aload_n 0, 1) := by decide +kernel
theorem dX11_book_207 : decode cX11_book 207 = .ok (.getfield 24, 3) := by decide +kernel
theorem dX11_book_210 : decode cX11_book 210 = .ok (.aload_n 0, 1) := by decide +kernel
theorem dX11_book_211 : decode cX11_book 211 = .ok (.getfield 116, 3) := by decide +kernel
theorem dX11_book_214 : decode cX11_book 214 = .ok (.lload_n 3, 1) := by decide +kernel
theorem dX11_book_215 : decode cX11_book 215 = .ok (.l2i, 1) := by decide +kernel
theorem dX11_book_216 : decode cX11_book 216 = .ok (.iastore, 1) := by decide +kernel
theorem dX11_book_217 : decode cX11_book 217 = .ok (.aload_n 0, 1) := by decide +kernel
theorem dX11_book_218 : decode cX11_book 218 = .ok (.getfield 33, 3) := by decide +kernel
theorem dX11_book_221 : decode cX11_book 221 = .ok (.aload_n 0, 1) := by decide +kernel
theorem dX11_book_222 : decode cX11_book 222 = .ok (.getfield 116, 3) := by decide +kernel
theorem dX11_book_225 : decode cX11_book 225 = .ok (.iload 5, 2) := by decide +kernel
theorem dX11_book_227 : decode cX11_book 227 = .ok (.iastore, 1) := by decide +kernel
theorem dX11_book_228 : decode cX11_book 228 = .ok (.aload_n 0, 1) := by decide +kernel
theorem dX11_book_229 : decode cX11_book 229 = .ok (.dup, 1) := by decide +kernel
theorem dX11_book_230 : decode cX11_book 230 = .ok (.getfield 116, 3) := by decide +kernel
theorem dX11_book_233 : decode cX11_book 233 = .ok (.iconst 1, 1) := by decide +kernel
theorem dX11_book_234 : decode cX11_book 234 = .ok (.iadd, 1) := by decide +kernel
theorem dX11_book_235 : decode cX11_book 235 = .ok (.putfield 116, 3) := by decide +kernel
theorem dX11_book_238 : decode cX11_book 238 = .ok (.aload_n 0, 1) := by decide +kernel
theorem dX11_book_239 : decode cX11_book 239 = .ok (.getfield 116, 3) := by decide +kernel
theorem dX11_book_242 : decode cX11_book 242 = .ok (.iconst 1, 1) := by decide +kernel
theorem dX11_book_243 : decode cX11_book 243 = .ok (.isub, 1) := by decide +kernel
theorem dX11_book_244 : decode cX11_book 244 = .ok (.ireturn, 1) := by decide +kernel
theorem dX11_isBook_0 : decode cX11_isBook 0 = .ok (.iload_n 1, 1) := by decide +kernel
theorem dX11_isBook_1 : decode cX11_isBook 1 = .ok (.ifCond .lt 15, 3) := by decide +kernel
theorem dX11_isBook_4 : decode cX11_isBook 4 = .ok (.iload_n 1, 1) := by decide +kernel
theorem dX11_isBook_5 : decode cX11_isBook 5 = .ok (.aload_n 0, 1) := by decide +kernel
theorem dX11_isBook_6 : decode cX11_isBook 6 = .ok (.getfield 116, 3) := by decide +kernel
theorem dX11_isBook_9 : decode cX11_isBook 9 = .ok (.if_icmp .ge 7, 3) := by decide +kernel
theorem dX11_isBook_12 : decode cX11_isBook 12 = .ok (.iconst 1, 1) := by decide +kernel
theorem dX11_isBook_13 : decode cX11_isBook 13 = .ok (.goto 4, 3) := by decide +kernel
theorem dX11_isBook_16 : decode cX11_isBook 16 = .ok (.iconst 0, 1) := by decide +kernel
theorem dX11_isBook_17 : decode cX11_isBook 17 = .ok (.ireturn, 1) := by decide +kernel
theorem dX11_weightOf_0 : decode cX11_weightOf 0 = .ok (.iconst 0, 1) := by decide +kernel
theorem dX11_weightOf_1 : decode cX11_weightOf 1 = .ok (.istore 4, 2) := by decide +kernel
theorem dX11_weightOf_3 : decode cX11_weightOf 3 = .ok (.bipush 8, 2) := by decide +kernel
theorem dX11_weightOf_5 : decode cX11_weightOf 5 = .ok (.iload_n 1, 1) := by decide +kernel
theorem dX11_weightOf_6 : decode cX11_weightOf 6 = .ok (.imul, 1) := by decide +kernel
theorem dX11_weightOf_7 : decode cX11_weightOf 7 = .ok (.istore 5, 2) := by decide +kernel
theorem dX11_weightOf_9 : decode cX11_weightOf 9 = .ok (.iload 5, 2) := by decide +kernel
theorem dX11_weightOf_11 : decode cX11_weightOf 11 = .ok (.bipush 8, 2) := by decide +kernel
theorem dX11_weightOf_13 : decode cX11_weightOf 13 = .ok (.iload_n 1, 1) := by decide +kernel
theorem dX11_weightOf_14 : decode cX11_weightOf 14 = .ok (.imul, 1) := by decide +kernel
theorem dX11_weightOf_15 : decode cX11_weightOf 15 = .ok (.aload_n 0, 1) := by decide +kernel
theorem dX11_weightOf_16 : decode cX11_weightOf 16 = .ok (.getfield 24, 3) := by decide +kernel
theorem dX11_weightOf_19 : decode cX11_weightOf 19 = .ok (.iload_n 1, 1) := by decide +kernel
theorem dX11_weightOf_20 : decode cX11_weightOf 20 = .ok (.iaload, 1) := by decide +kernel
theorem dX11_weightOf_21 : decode cX11_weightOf 21 = .ok (.iadd, 1) := by decide +kernel
theorem dX11_weightOf_22 : decode cX11_weightOf 22 = .ok (.if_icmp .ge 47, 3) := by decide +kernel
theorem dX11_weightOf_25 : decode cX11_weightOf 25 = .ok (.iload 4, 2) := by decide +kernel
theorem dX11_weightOf_27 : decode cX11_weightOf 27 = .ok (.aload_n 0, 1) := by decide +kernel
theorem dX11_weightOf_28 : decode cX11_weightOf 28 = .ok (.getfield 27, 3) := by decide +kernel
theorem dX11_weightOf_31 : decode cX11_weightOf 31 = .ok (.iload 5, 2) := by decide +kernel
theorem dX11_weightOf_33 : decode cX11_weightOf 33 = .ok (.iaload, 1) := by decide +kernel
theorem dX11_weightOf_34 : decode cX11_weightOf 34 = .ok (.iload_n 2, 1) := by decide +kernel
theorem dX11_weightOf_35 : decode cX11_weightOf 35 = .ok (.if_icmp .lt 24, 3) := by decide +kernel
theorem dX11_weightOf_38 : decode cX11_weightOf 38 = .ok (.aload_n 0, 1) := by decide +kernel
theorem dX11_weightOf_39 : decode cX11_weightOf 39 = .ok (.getfield 27, 3) := by decide +kernel
theorem dX11_weightOf_42 : decode cX11_weightOf 42 = .ok (.iload 5, 2) := by decide +kernel
theorem dX11_weightOf_44 : decode cX11_weightOf 44 = .ok (.iaload, 1) := by decide +kernel
theorem dX11_weightOf_45 : decode cX11_weightOf 45 = .ok (.iload_n 3, 1) := by decide +kernel
theorem dX11_weightOf_46 : decode cX11_weightOf 46 = .ok (.if_icmp .gt 13, 3) := by decide +kernel
theorem dX11_weightOf_49 : decode cX11_weightOf 49 = .ok (.aload_n 0, 1) := by decide +kernel
theorem dX11_weightOf_50 : decode cX11_weightOf 50 = .ok (.getfield 30, 3) := by decide +kernel
theorem dX11_weightOf_53 : decode cX11_weightOf 53 = .ok (.iload 5, 2) := by decide +kernel
theorem dX11_weightOf_55 : decode cX11_weightOf 55 = .ok (.iaload, 1) := by decide +kernel
theorem dX11_weightOf_56 : decode cX11_weightOf 56 = .ok (.goto 4, 3) := by decide +kernel
theorem dX11_weightOf_59 : decode cX11_weightOf 59 = .ok (.iconst 0, 1) := by decide +kernel
theorem dX11_weightOf_60 : decode cX11_weightOf 60 = .ok (.iadd, 1) := by decide +kernel
theorem dX11_weightOf_61 : decode cX11_weightOf 61 = .ok (.istore 4, 2) := by decide +kernel
theorem dX11_weightOf_63 : decode cX11_weightOf 63 = .ok (.iinc 5 1, 3) := by decide +kernel
theorem dX11_weightOf_66 : decode cX11_weightOf 66 = .ok (.goto (-57), 3) := by decide +kernel
theorem dX11_weightOf_69 : decode cX11_weightOf 69 = .ok (.iload 4, 2) := by decide +kernel
theorem dX11_weightOf_71 : decode cX11_weightOf 71 = .ok (.ireturn, 1) := by decide +kernel
set_option maxRecDepth 20000 in
theorem ggX11_comer_X11_isBook : GoodIn wsX11_comer wsX11_isBook := goodIn_r _ [8, 9, 10, 11, 12, 13, 14, 15, 16, 17, 18, 19, 20, 21, 22, 23, 24, 25, 26, 27, 28, 29, 30] (by decide +kernel) (by decide +kernel)
set_option maxRecDepth 20000 in
theorem gX11_comer_X11_isBook : GoodIn wsX11_comer (wsV RX11 124 RX11 yX11_isBook wsX11_isBook) := goodIn_app (goodIn_of _ (by decide +kernel)) ggX11_comer_X11_isBook
theorem dX11_comer_0 : decode cX11_comer 0 = .ok (.aload_n 0, 1) := by decide +kernel
theorem dX11_comer_1 : decode cX11_comer 1 = .ok (.iload_n 1, 1) := by decide +kernel
theorem dX11_comer_2 : decode cX11_comer 2 = .ok (.invokevirtual 124, 3) := by decide +kernel
theorem dX11_comer_5 : decode cX11_comer 5 = .ok (.ifCond .ne 6, 3) := by decide +kernel
theorem dX11_comer_8 : decode cX11_comer 8 = .ok (.bipush (-2), 2) := by decide +kernel
theorem dX11_comer_10 : decode cX11_comer 10 = .ok (.ireturn, 1) := by decide +kernel
theorem dX11_comer_11 : decode cX11_comer 11 = .ok (.aload_n 0, 1) := by decide +kernel
theorem dX11_comer_12 : decode cX11_comer 12 = .ok (.getfield 127, 3) := by decide +kernel
theorem dX11_comer_15 : decode cX11_comer 15 = .ok (.bipush 10, 2) := by decide +kernel
theorem dX11_comer_17 : decode cX11_comer 17 = .ok (.if_icmp .ne 6, 3) := by decide +kernel
theorem dX11_comer_20 : decode cX11_comer 20 = .ok (.bipush (-8), 2) := by decide +kernel
theorem dX11_comer_22 : decode cX11_comer 22 = .ok (.ireturn, 1) := by decide +kernel
theorem dX11_comer_23 : decode cX11_comer 23 = .ok (.aload_n 0, 1) := by decide +kernel
theorem dX11_comer_24 : decode cX11_comer 24 = .ok (.getfield 36, 3) := by decide +kernel
theorem dX11_comer_27 : decode cX11_comer 27 = .ok (.aload_n 0, 1) := by decide +kernel
theorem dX11_comer_28 : decode cX11_comer 28 = .ok (.getfield 127, 3) := by decide +kernel
theorem dX11_comer_31 : decode cX11_comer 31 = .ok (.iload_n 1, 1) := by decide +kernel
theorem dX11_comer_32 : decode cX11_comer 32 = .ok (.iastore, 1) := by decide +kernel
theorem dX11_comer_33 : decode cX11_comer 33 = .ok (.aload_n 0, 1) := by decide +kernel
theorem dX11_comer_34 : decode cX11_comer 34 = .ok (.getfield 39, 3) := by decide +kernel
theorem dX11_comer_37 : decode cX11_comer 37 = .ok (.aload_n 0, 1) := by decide +kernel
theorem dX11_comer_38 : decode cX11_comer 38 = .ok (.getfield 127, 3) := by decide +kernel
theorem dX11_comer_41 : decode cX11_comer 41 = .ok (.iconst 0, 1) := by decide +kernel
theorem dX11_comer_42 : decode cX11_comer 42 = .ok (.iastore, 1) := by decide +kernel
theorem dX11_comer_43 : decode cX11_comer 43 = .ok (.aload_n 0, 1) := by decide +kernel
theorem dX11_comer_44 : decode cX11_comer 44 = .ok (.dup, 1) := by decide +kernel
theorem dX11_comer_45 : decode cX11_comer 45 = .ok (.getfield 127, 3) := by decide +kernel
theorem dX11_comer_48 : decode cX11_comer 48 = .ok (.iconst 1, 1) := by decide +kernel
theorem dX11_comer_49 : decode cX11_comer 49 = .ok (.iadd, 1) := by decide +kernel
theorem dX11_comer_50 : decode cX11_comer 50 = .ok (.putfield 127, 3) := by decide +kernel
theorem dX11_comer_53 : decode cX11_comer 53 = .ok (.aload_n 0, 1) := by decide +kernel
theorem dX11_comer_54 : decode cX11_comer 54 = .ok (.getfield 127, 3) := by decide +kernel
theorem dX11_comer_57 : decode cX11_comer 57 = .ok (.iconst 1, 1) := by decide +kernel
theorem dX11_comer_58 : decode cX11_comer 58 = .ok (.isub, 1) := by decide +kernel
theorem dX11_comer_59 : decode cX11_comer 59 = .ok (.ireturn, 1) := by decide +kernel
theorem dX11_dismiss_0 : decode cX11_dismiss 0 = .ok (.aload_n 0, 1) := by decide +kernel
theorem dX11_dismiss_1 : decode cX11_dismiss 1 = .ok (.getfield 127, 3) := by decide +kernel
theorem dX11_dismiss_4 : decode cX11_dismiss 4 = .ok (.istore_n 1, 1) := by decide +kernel
theorem dX11_dismiss_5 : decode cX11_dismiss 5 = .ok (.aload_n 0, 1) := by decide +kernel
theorem dX11_dismiss_6 : decode cX11_dismiss 6 = .ok (.iconst 0, 1) := by decide +kernel
theorem dX11_dismiss_7 : decode cX11_dismiss 7 = .ok (.putfield 127, 3) := by decide +kernel
theorem dX11_dismiss_10 : decode cX11_dismiss 10 = .ok (.iload_n 1, 1) := by decide +kernel
theorem dX11_dismiss_11 : decode cX11_dismiss 11 = .ok (.ireturn, 1) := by decide +kernel
theorem dX11_tell_0 : decode cX11_tell 0 = .ok (.iload_n 1, 1) := by decide +kernel
theorem dX11_tell_1 : decode cX11_tell 1 = .ok (.ifCond .lt 22, 3) := by decide +kernel
theorem dX11_tell_4 : decode cX11_tell 4 = .ok (.iload_n 1, 1) := by decide +kernel
theorem dX11_tell_5 : decode cX11_tell 5 = .ok (.aload_n 0, 1) := by decide +kernel
theorem dX11_tell_6 : decode cX11_tell 6 = .ok (.getfield 127, 3) := by decide +kernel
theorem dX11_tell_9 : decode cX11_tell 9 = .ok (.if_icmp .ge 14, 3) := by decide +kernel
theorem dX11_tell_12 : decode cX11_tell 12 = .ok (.iload_n 2, 1) := by decide +kernel
theorem dX11_tell_13 : decode cX11_tell 13 = .ok (.ifCond .lt 10, 3) := by decide +kernel
theorem dX11_tell_16 : decode cX11_tell 16 = .ok (.iload_n 2, 1) := by decide +kernel
theorem dX11_tell_17 : decode cX11_tell 17 = .ok (.sipush 1001, 3) := by decide +kernel
theorem dX11_tell_20 : decode cX11_tell 20 = .ok (.if_icmp .le 5, 3) := by decide +kernel
theorem dX11_tell_23 : decode cX11_tell 23 = .ok (.iconst 0, 1) := by decide +kernel
theorem dX11_tell_24 : decode cX11_tell 24 = .ok (.ireturn, 1) := by decide +kernel
theorem dX11_tell_25 : decode cX11_tell 25 = .ok (.aload_n 0, 1) := by decide +kernel
theorem dX11_tell_26 : decode cX11_tell 26 = .ok (.getfield 39, 3) := by decide +kernel
theorem dX11_tell_29 : decode cX11_tell 29 = .ok (.iload_n 1, 1) := by decide +kernel
theorem dX11_tell_30 : decode cX11_tell 30 = .ok (.iload_n 2, 1) := by decide +kernel
theorem dX11_tell_31 : decode cX11_tell 31 = .ok (.iastore, 1) := by decide +kernel
theorem dX11_tell_32 : decode cX11_tell 32 = .ok (.iconst 1, 1) := by decide +kernel
theorem dX11_tell_33 : decode cX11_tell 33 = .ok (.ireturn, 1) := by decide +kernel
set_option maxRecDepth 20000 in
theorem ggX11_worthOf_X11_set : GoodIn wsX11_worthOf wsX11_set := goodIn_r _ [12, 13, 14, 15, 16, 11, 17, 18, 19, 20, 21, 22, 23, 24, 25, 38, 39, 40, 41, 42, 43, 44, 45, 46, 47, 48, 49, 50, 51, 52, 53, 54, 55, 56, 57, 58] (by decide +kernel) (by decide +kernel)
set_option maxRecDepth 20000 in
theorem gX11_worthOf_X11_set : GoodIn wsX11_worthOf (wsV RX11 60 RX11 yX11_set wsX11_set) := goodIn_app (goodIn_of _ (by decide +kernel)) ggX11_worthOf_X11_set
set_option maxRecDepth 20000 in
theorem ggX11_worthOf_X11_weightOf : GoodIn wsX11_worthOf wsX11_weightOf := goodIn_r _ [29, 4, 5, 6, 38, 39, 40, 41, 42, 43, 44, 45, 46, 47, 48, 49, 50, 51, 52, 53, 54, 55, 56, 57, 58] (by decide +kernel) (by decide +kernel)
set_option maxRecDepth 20000 in
theorem gX11_worthOf_X11_weightOf : GoodIn wsX11_worthOf (wsV RX11 130 RX11 yX11_weightOf wsX11_weightOf) := goodIn_app (goodIn_of _ (by decide +kernel)) ggX11_worthOf_X11_weightOf
set_option maxRecDepth 20000 in
theorem ggX11_worthOf_X11_times : GoodIn wsX11_worthOf wsX11_times := goodIn_r _ [33, 13, 14, 15, 16, 11, 17, 18, 19, 20, 21, 22, 23, 24, 25, 38, 39, 40, 41, 42, 43, 44, 45, 46, 47, 48, 49, 50, 51, 52, 53, 54, 55, 56, 57, 58] (by decide +kernel) (by decide +kernel)
set_option maxRecDepth 20000 in
theorem gX11_worthOf_X11_times : GoodIn wsX11_worthOf (wsV RX11 93 RX11 yX11_times wsX11_times) := goodIn_app (goodIn_of _ (by decide +kernel)) ggX11_worthOf_X11_times
set_option maxRecDepth 20000 in
theorem ggX11_worthOf_X11_more : GoodIn wsX11_worthOf wsX11_more := goodIn_r _ [37, 13, 14, 15, 16, 11, 17, 18, 19, 20, 21, 22, 23, 24, 25, 38, 39, 40, 41, 42, 43, 44, 45, 46, 47, 48, 49, 50, 51, 52, 53, 54, 55, 56, 57, 58] (by decide +kernel) (by decide +kernel)
set_option maxRecDepth 20000 in
theorem gX11_worthOf_X11_more : GoodIn wsX11_worthOf (wsV RX11 87 RX11 yX11_more wsX11_more) := goodIn_app (goodIn_of _ (by decide +kernel)) ggX11_worthOf_X11_more
theorem dX11_worthOf_0 : decode cX11_worthOf 0 = .ok (.aload_n 0, 1) := by decide +kernel
theorem dX11_worthOf_1 : decode cX11_worthOf 1 = .ok (.iconst 2, 1) := by decide +kernel
theorem dX11_worthOf_2 : decode cX11_worthOf 2 = .ok (.lconst 0, 1) := by decide +kernel
theorem dX11_worthOf_3 : decode cX11_worthOf 3 = .ok (.invokevirtual 60, 3) := by decide +kernel
theorem dX11_worthOf_6 : decode cX11_worthOf 6 = .ok (.aload_n 0, 1) := by decide +kernel
theorem dX11_worthOf_7 : decode cX11_worthOf 7 = .ok (.iconst 3, 1) := by decide +kernel
theorem dX11_worthOf_8 : decode cX11_worthOf 8 = .ok (.lconst 1, 1) := by decide +kernel
theorem dX11_worthOf_9 : decode cX11_worthOf 9 = .ok (.invokevirtual 60, 3) := by decide +kernel
theorem dX11_worthOf_12 : decode cX11_worthOf 12 = .ok (.aload_n 0, 1) := by decide +kernel
theorem dX11_worthOf_13 : decode cX11_worthOf 13 = .ok (.getfield 127, 3) := by decide +kernel
theorem dX11_worthOf_16 : decode cX11_worthOf 16 = .ok (.iconst 1, 1) := by decide +kernel
theorem dX11_worthOf_17 : decode cX11_worthOf 17 = .ok (.isub, 1) := by decide +kernel
theorem dX11_worthOf_18 : decode cX11_worthOf 18 = .ok (.istore_n 2, 1) := by decide +kernel
theorem dX11_worthOf_19 : decode cX11_worthOf 19 = .ok (.iload_n 2, 1) := by decide +kernel
theorem dX11_worthOf_20 : decode cX11_worthOf 20 = .ok (.ifCond .lt 124, 3) := by decide +kernel
theorem dX11_worthOf_23 : decode cX11_worthOf 23 = .ok (.aload_n 0, 1) := by decide +kernel
theorem dX11_worthOf_24 : decode cX11_worthOf 24 = .ok (.getfield 36, 3) := by decide +kernel
theorem dX11_worthOf_27 : decode cX11_worthOf 27 = .ok (.iload_n 2, 1) := by decide +kernel
theorem dX11_worthOf_28 : decode cX11_worthOf 28 = .ok (.iaload, 1) := by decide +kernel
theorem dX11_worthOf_29 : decode cX11_worthOf 29 = .ok (.istore_n 3, 1) := by decide +kernel
theorem dX11_worthOf_30 : decode cX11_worthOf 30 = .ok (.iload_n 1, 1) := by decide +kernel
theorem dX11_worthOf_31 : decode cX11_worthOf 31 = .ok (.iconst (-1), 1) := by decide +kernel
theorem dX11_worthOf_32 : decode cX11_worthOf 32 = .ok (.if_icmp .ne 12, 3) := by decide +kernel
theorem dX11_worthOf_35 : decode cX11_worthOf 35 = .ok (.aload_n 0, 1) := by decide +kernel
theorem dX11_worthOf_36 : decode cX11_worthOf 36 = .ok (.getfield 39, 3) := by decide +kernel
theorem dX11_worthOf_39 : decode cX11_worthOf 39 = .ok (.iload_n 2, 1) := by decide +kernel
theorem dX11_worthOf_40 : decode cX11_worthOf 40 = .ok (.iaload, 1) := by decide +kernel
theorem dX11_worthOf_41 : decode cX11_worthOf 41 = .ok (.goto 4, 3) := by decide +kernel
theorem dX11_worthOf_44 : decode cX11_worthOf 44 = .ok (.iload_n 1, 1) := by decide +kernel
theorem dX11_worthOf_45 : decode cX11_worthOf 45 = .ok (.istore 4, 2) := by decide +kernel
theorem dX11_worthOf_47 : decode cX11_worthOf 47 = .ok (.aload_n 0, 1) := by decide +kernel
theorem dX11_worthOf_48 : decode cX11_worthOf 48 = .ok (.iconst 2, 1) := by decide +kernel
theorem dX11_worthOf_49 : decode cX11_worthOf 49 = .ok (.aload_n 0, 1) := by decide +kernel
theorem dX11_worthOf_50 : decode cX11_worthOf 50 = .ok (.iload_n 3, 1) := by decide +kernel
theorem dX11_worthOf_51 : decode cX11_worthOf 51 = .ok (.iconst 0, 1) := by decide +kernel
theorem dX11_worthOf_52 : decode cX11_worthOf 52 = .ok (.iload 4, 2) := by decide +kernel
theorem dX11_worthOf_54 : decode cX11_worthOf 54 = .ok (.iconst 1, 1) := by decide +kernel
theorem dX11_worthOf_55 : decode cX11_worthOf 55 = .ok (.isub, 1) := by decide +kernel
theorem dX11_worthOf_56 : decode cX11_worthOf 56 = .ok (.invokevirtual 130, 3) := by decide +kernel
theorem dX11_worthOf_59 : decode cX11_worthOf 59 = .ok (.i2l, 1) := by decide +kernel
theorem dX11_worthOf_60 : decode cX11_worthOf 60 = .ok (.invokevirtual 93, 3) := by decide +kernel
theorem dX11_worthOf_63 : decode cX11_worthOf 63 = .ok (.bipush 8, 2) := by decide +kernel
theorem dX11_worthOf_65 : decode cX11_worthOf 65 = .ok (.iload_n 3, 1) := by decide +kernel
theorem dX11_worthOf_66 : decode cX11_worthOf 66 = .ok (.imul, 1) := by decide +kernel
theorem dX11_worthOf_67 : decode cX11_worthOf 67 = .ok (.istore 5, 2) := by decide +kernel
theorem dX11_worthOf_69 : decode cX11_worthOf 69 = .ok (.iload 5, 2) := by decide +kernel
theorem dX11_worthOf_71 : decode cX11_worthOf 71 = .ok (.bipush 8, 2) := by decide +kernel
theorem dX11_worthOf_73 : decode cX11_worthOf 73 = .ok (.iload_n 3, 1) := by decide +kernel
theorem dX11_worthOf_74 : decode cX11_worthOf 74 = .ok (.imul, 1) := by decide +kernel
theorem dX11_worthOf_75 : decode cX11_worthOf 75 = .ok (.aload_n 0, 1) := by decide +kernel
theorem dX11_worthOf_76 : decode cX11_worthOf 76 = .ok (.getfield 24, 3) := by decide +kernel
theorem dX11_worthOf_79 : decode cX11_worthOf 79 = .ok (.iload_n 3, 1) := by decide +kernel
theorem dX11_worthOf_80 : decode cX11_worthOf 80 = .ok (.iaload, 1) := by decide +kernel
theorem dX11_worthOf_81 : decode cX11_worthOf 81 = .ok (.iadd, 1) := by decide +kernel
theorem dX11_worthOf_82 : decode cX11_worthOf 82 = .ok (.if_icmp .ge 44, 3) := by decide +kernel
theorem dX11_worthOf_85 : decode cX11_worthOf 85 = .ok (.aload_n 0, 1) := by decide +kernel
theorem dX11_worthOf_86 : decode cX11_worthOf 86 = .ok (.getfield 27, 3) := by decide +kernel
theorem dX11_worthOf_89 : decode cX11_worthOf 89 = .ok (.iload 5, 2) := by decide +kernel
theorem dX11_worthOf_91 : decode cX11_worthOf 91 = .ok (.iaload, 1) := by decide +kernel
theorem dX11_worthOf_92 : decode cX11_worthOf 92 = .ok (.iload 4, 2) := by decide +kernel
theorem dX11_worthOf_94 : decode cX11_worthOf 94 = .ok (.if_icmp .lt 26, 3) := by decide +kernel
theorem dX11_worthOf_97 : decode cX11_worthOf 97 = .ok (.aload_n 0, 1) := by decide +kernel
theorem dX11_worthOf_98 : decode cX11_worthOf 98 = .ok (.iconst 2, 1) := by decide +kernel
theorem dX11_worthOf_99 : decode cX11_worthOf 99 = .ok (.iconst 3, 1) := by decide +kernel
theorem dX11_worthOf_100 : decode cX11_worthOf 100 = .ok (.aload_n 0, 1) := by decide +kernel
theorem dX11_worthOf_101 : decode cX11_worthOf 101 = .ok (.getfield 30, 3) := by decide +kernel
theorem dX11_worthOf_104 : decode cX11_worthOf 104 = .ok (.iload 5, 2) := by decide +kernel
theorem dX11_worthOf_106 : decode cX11_worthOf 106 = .ok (.iaload, 1) := by decide +kernel
theorem dX11_worthOf_107 : decode cX11_worthOf 107 = .ok (.i2l, 1) := by decide +kernel
theorem dX11_worthOf_108 : decode cX11_worthOf 108 = .ok (.aload_n 0, 1) := by decide +kernel
theorem dX11_worthOf_109 : decode cX11_worthOf 109 = .ok (.getfield 27, 3) := by decide +kernel
theorem dX11_worthOf_112 : decode cX11_worthOf 112 = .ok (.iload 5, 2) := by decide +kernel
theorem dX11_worthOf_114 : decode cX11_worthOf 114 = .ok (.iaload, 1) := by decide +kernel
theorem dX11_worthOf_115 : decode cX11_worthOf 115 = .ok (.i2l, 1) := by decide +kernel
theorem dX11_worthOf_116 : decode cX11_worthOf 116 = .ok (.lmul, 1) := by decide +kernel
theorem dX11_worthOf_117 : decode cX11_worthOf 117 = .ok (.invokevirtual 87, 3) := by decide +kernel
theorem dX11_worthOf_120 : decode cX11_worthOf 120 = .ok (.iinc 5 1, 3) := by decide +kernel
theorem dX11_worthOf_123 : decode cX11_worthOf 123 = .ok (.goto (-54), 3) := by decide +kernel
theorem dX11_worthOf_126 : decode cX11_worthOf 126 = .ok (.aload_n 0, 1) := by decide +kernel
theorem dX11_worthOf_127 : decode cX11_worthOf 127 = .ok (.iconst 3, 1) := by decide +kernel
theorem dX11_worthOf_128 : decode cX11_worthOf 128 = .ok (.aload_n 0, 1) := by decide +kernel
theorem dX11_worthOf_129 : decode cX11_worthOf 129 = .ok (.getfield 33, 3) := by decide +kernel
theorem dX11_worthOf_132 : decode cX11_worthOf 132 = .ok (.iload_n 3, 1) := by decide +kernel
theorem dX11_worthOf_133 : decode cX11_worthOf 133 = .ok (.iaload, 1) := by decide +kernel
theorem dX11_worthOf_134 : decode cX11_worthOf 134 = .ok (.i2l, 1) := by decide +kernel
theorem dX11_worthOf_135 : decode cX11_worthOf 135 = .ok (.invokevirtual 93, 3) := by decide +kernel
theorem dX11_worthOf_138 : decode cX11_worthOf 138 = .ok (.iinc 2 (-1), 3) := by decide +kernel
theorem dX11_worthOf_141 : decode cX11_worthOf 141 = .ok (.goto (-122), 3) := by decide +kernel
theorem dX11_worthOf_144 : decode cX11_worthOf 144 = .ok (.return_, 1) := by decide +kernel
set_option maxRecDepth 20000 in
theorem ggX11_told_X11_worthOf : GoodIn wsX11_told wsX11_worthOf := goodIn_r _ [5, 6, 7, 8, 9, 10, 11, 12, 13, 14, 15, 4, 16, 17, 18, 19, 20, 21, 22, 23, 24, 25, 26, 27, 28, 29, 30, 31, 32, 33, 34, 35, 36, 37, 38, 39, 40, 41, 73, 74, 75, 76, 77, 78, 79, 80, 81, 82, 83, 84, 85, 86, 87, 88, 89, 90, 91, 92, 93] (by decide +kernel) (by decide +kernel)
set_option maxRecDepth 20000 in
theorem gX11_told_X11_worthOf : GoodIn wsX11_told (wsV RX11 134 RX11 yX11_worthOf wsX11_worthOf) := goodIn_app (goodIn_of _ (by decide +kernel)) ggX11_told_X11_worthOf
set_option maxRecDepth 20000 in
theorem ggX11_told_X11_copy : GoodIn wsX11_told wsX11_copy := goodIn_r _ [45, 17, 73, 74, 75, 76, 77, 78, 79, 80, 81, 82, 83, 84, 85, 86, 87, 88, 89, 90, 91, 92, 93] (by decide +kernel) (by decide +kernel)
set_option maxRecDepth 20000 in
theorem gX11_told_X11_copy : GoodIn wsX11_told (wsV RX11 83 RX11 yX11_copy wsX11_copy) := goodIn_app (goodIn_of _ (by decide +kernel)) ggX11_told_X11_copy
set_option maxRecDepth 20000 in
theorem ggX11_told_X11_result : GoodIn wsX11_told wsX11_result := goodIn_r _ [49, 17, 50, 51, 42, 43, 44, 4, 45, 34, 35, 36, 37, 18, 19, 20, 21, 22, 23, 24, 25, 26, 27, 28, 29, 52, 53, 54, 55, 13, 14, 15, 16, 56, 57, 58, 59, 60, 61, 62, 63, 64, 65, 66, 67, 38, 39, 40, 41, 68, 69, 70, 71, 72, 73, 74, 75, 76, 77, 78, 79, 80, 81, 82, 83, 84, 85, 86, 87, 88, 89, 90, 91, 92, 93] (by decide +kernel) (by decide +kernel)
set_option maxRecDepth 20000 in
theorem gX11_told_X11_result : GoodIn wsX11_told (wsV RX11 137 RX11 yX11_result wsX11_result) := goodIn_app (goodIn_of _ (by decide +kernel)) ggX11_told_X11_result
theorem dX11_told_0 : decode cX11_told 0 = .ok (.aload_n 0, 1) := by decide +kernel
theorem dX11_told_1 : decode cX11_told 1 = .ok (.iconst (-1), 1) := by decide +kernel
theorem dX11_told_2 : decode cX11_told 2 = .ok (.invokevirtual 134, 3) := by decide +kernel
theorem dX11_told_5 : decode cX11_told 5 = .ok (.aload_n 0, 1) := by decide +kernel
theorem dX11_told_6 : decode cX11_told 6 = .ok (.bipush 10, 2) := by decide +kernel
theorem dX11_told_8 : decode cX11_told 8 = .ok (.iconst 2, 1) := by decide +kernel
theorem dX11_told_9 : decode cX11_told 9 = .ok (.invokevirtual 83, 3) := by decide +kernel
theorem dX11_told_12 : decode cX11_told 12 = .ok (.aload_n 0, 1) := by decide +kernel
theorem dX11_told_13 : decode cX11_told 13 = .ok (.bipush 11, 2) := by decide +kernel
theorem dX11_told_15 : decode cX11_told 15 = .ok (.iconst 3, 1) := by decide +kernel
theorem dX11_told_16 : decode cX11_told 16 = .ok (.invokevirtual 83, 3) := by decide +kernel
theorem dX11_told_19 : decode cX11_told 19 = .ok (.aload_n 0, 1) := by decide +kernel
theorem dX11_told_20 : decode cX11_told 20 = .ok (.bipush 10, 2) := by decide +kernel
theorem dX11_told_22 : decode cX11_told 22 = .ok (.bipush 11, 2) := by decide +kernel
theorem dX11_told_24 : decode cX11_told 24 = .ok (.invokevirtual 137, 3) := by decide +kernel
theorem dX11_told_27 : decode cX11_told 27 = .ok (.return_, 1) := by decide +kernel
set_option maxRecDepth 20000 in
theorem ggX11_bestFrom_X11_set : GoodIn wsX11_bestFrom wsX11_set := goodIn_r _ [11, 12, 13, 14, 15, 10, 16, 17, 18, 19, 20, 21, 22, 23, 24, 41, 42, 43, 44, 45, 46, 47, 48, 49, 50, 51, 52, 53, 54, 55, 56, 57, 58, 59, 60, 61] (by decide +kernel) (by decide +kernel)
set_option maxRecDepth 20000 in
theorem gX11_bestFrom_X11_set : GoodIn wsX11_bestFrom (wsV RX11 60 RX11 yX11_set wsX11_set) := goodIn_app (goodIn_of _ (by decide +kernel)) ggX11_bestFrom_X11_set
set_option maxRecDepth 20000 in
theorem ggX11_bestFrom_X11_more : GoodIn wsX11_bestFrom wsX11_more := goodIn_r _ [28, 12, 13, 14, 15, 10, 16, 17, 18, 19, 20, 21, 22, 23, 24, 41, 42, 43, 44, 45, 46, 47, 48, 49, 50, 51, 52, 53, 54, 55, 56, 57, 58, 59, 60, 61] (by decide +kernel) (by decide +kernel)
set_option maxRecDepth 20000 in
theorem gX11_bestFrom_X11_more : GoodIn wsX11_bestFrom (wsV RX11 87 RX11 yX11_more wsX11_more) := goodIn_app (goodIn_of _ (by decide +kernel)) ggX11_bestFrom_X11_more
set_option maxRecDepth 20000 in
theorem ggX11_bestFrom_X11_compared : GoodIn wsX11_bestFrom wsX11_compared := goodIn_r _ [32, 12, 41, 42, 43, 44, 45, 46, 47, 48, 49, 50, 51, 52, 53, 54, 55, 56, 57, 58, 59, 60, 61] (by decide +kernel) (by decide +kernel)
set_option maxRecDepth 20000 in
theorem gX11_bestFrom_X11_compared : GoodIn wsX11_bestFrom (wsV RX11 106 RX11 yX11_compared wsX11_compared) := goodIn_app (goodIn_of _ (by decide +kernel)) ggX11_bestFrom_X11_compared
set_option maxRecDepth 20000 in
theorem ggX11_bestFrom_X11_copy : GoodIn wsX11_bestFrom wsX11_copy := goodIn_r _ [36, 12, 41, 42, 43, 44, 45, 46, 47, 48, 49, 50, 51, 52, 53, 54, 55, 56, 57, 58, 59, 60, 61] (by decide +kernel) (by decide +kernel)
set_option maxRecDepth 20000 in
theorem gX11_bestFrom_X11_copy : GoodIn wsX11_bestFrom (wsV RX11 83 RX11 yX11_copy wsX11_copy) := goodIn_app (goodIn_of _ (by decide +kernel)) ggX11_bestFrom_X11_copy
set_option maxRecDepth 20000 in
theorem ggX11_bestFrom_X11_times : GoodIn wsX11_bestFrom wsX11_times := goodIn_r _ [40, 12, 13, 14, 15, 10, 16, 17, 18, 19, 20, 21, 22, 23, 24, 41, 42, 43, 44, 45, 46, 47, 48, 49, 50, 51, 52, 53, 54, 55, 56, 57, 58, 59, 60, 61] (by decide +kernel) (by decide +kernel)
set_option maxRecDepth 20000 in
theorem gX11_bestFrom_X11_times : GoodIn wsX11_bestFrom (wsV RX11 93 RX11 yX11_times wsX11_times) := goodIn_app (goodIn_of _ (by decide +kernel)) ggX11_bestFrom_X11_times
theorem dX11_bestFrom_0 : decode cX11_bestFrom 0 = .ok (.aload_n 0, 1) := by decide +kernel
theorem dX11_bestFrom_1 : decode cX11_bestFrom 1 = .ok (.bipush 10, 2) := by decide +kernel
theorem dX11_bestFrom_3 : decode cX11_bestFrom 3 = .ok (.aload_n 0, 1) := by decide +kernel
theorem dX11_bestFrom_4 : decode cX11_bestFrom 4 = .ok (.getfield 127, 3) := by decide +kernel
theorem dX11_bestFrom_7 : decode cX11_bestFrom 7 = .ok (.iadd, 1) := by decide +kernel
theorem dX11_bestFrom_8 : decode cX11_bestFrom 8 = .ok (.lconst 0, 1) := by decide +kernel
theorem dX11_bestFrom_9 : decode cX11_bestFrom 9 = .ok (.invokevirtual 60, 3) := by decide +kernel
theorem dX11_bestFrom_12 : decode cX11_bestFrom 12 = .ok (.aload_n 0, 1) := by decide +kernel
theorem dX11_bestFrom_13 : decode cX11_bestFrom 13 = .ok (.bipush 30, 2) := by decide +kernel
theorem dX11_bestFrom_15 : decode cX11_bestFrom 15 = .ok (.aload_n 0, 1) := by decide +kernel
theorem dX11_bestFrom_16 : decode cX11_bestFrom 16 = .ok (.getfield 127, 3) := by decide +kernel
theorem dX11_bestFrom_19 : decode cX11_bestFrom 19 = .ok (.iadd, 1) := by decide +kernel
theorem dX11_bestFrom_20 : decode cX11_bestFrom 20 = .ok (.lconst 1, 1) := by decide +kernel
theorem dX11_bestFrom_21 : decode cX11_bestFrom 21 = .ok (.invokevirtual 60, 3) := by decide +kernel
theorem dX11_bestFrom_24 : decode cX11_bestFrom 24 = .ok (.aload_n 0, 1) := by decide +kernel
theorem dX11_bestFrom_25 : decode cX11_bestFrom 25 = .ok (.getfield 127, 3) := by decide +kernel
theorem dX11_bestFrom_28 : decode cX11_bestFrom 28 = .ok (.iconst 1, 1) := by decide +kernel
theorem dX11_bestFrom_29 : decode cX11_bestFrom 29 = .ok (.isub, 1) := by decide +kernel
theorem dX11_bestFrom_30 : decode cX11_bestFrom 30 = .ok (.istore_n 1, 1) := by decide +kernel
theorem dX11_bestFrom_31 : decode cX11_bestFrom 31 = .ok (.iload_n 1, 1) := by decide +kernel
theorem dX11_bestFrom_32 : decode cX11_bestFrom 32 = .ok (.ifCond .lt 155, 3) := by decide +kernel
theorem dX11_bestFrom_35 : decode cX11_bestFrom 35 = .ok (.aload_n 0, 1) := by decide +kernel
theorem dX11_bestFrom_36 : decode cX11_bestFrom 36 = .ok (.getfield 36, 3) := by decide +kernel
theorem dX11_bestFrom_39 : decode cX11_bestFrom 39 = .ok (.iload_n 1, 1) := by decide +kernel
theorem dX11_bestFrom_40 : decode cX11_bestFrom 40 = .ok (.iaload, 1) := by decide +kernel
theorem dX11_bestFrom_41 : decode cX11_bestFrom 41 = .ok (.istore_n 2, 1) := by decide +kernel
theorem dX11_bestFrom_42 : decode cX11_bestFrom 42 = .ok (.aload_n 0, 1) := by decide +kernel
theorem dX11_bestFrom_43 : decode cX11_bestFrom 43 = .ok (.bipush 10, 2) := by decide +kernel
theorem dX11_bestFrom_45 : decode cX11_bestFrom 45 = .ok (.iload_n 1, 1) := by decide +kernel
theorem dX11_bestFrom_46 : decode cX11_bestFrom 46 = .ok (.iadd, 1) := by decide +kernel
theorem dX11_bestFrom_47 : decode cX11_bestFrom 47 = .ok (.lconst 0, 1) := by decide +kernel
theorem dX11_bestFrom_48 : decode cX11_bestFrom 48 = .ok (.invokevirtual 60, 3) := by decide +kernel
theorem dX11_bestFrom_51 : decode cX11_bestFrom 51 = .ok (.bipush 8, 2) := by decide +kernel
theorem dX11_bestFrom_53 : decode cX11_bestFrom 53 = .ok (.iload_n 2, 1) := by decide +kernel
theorem dX11_bestFrom_54 : decode cX11_bestFrom 54 = .ok (.imul, 1) := by decide +kernel
theorem dX11_bestFrom_55 : decode cX11_bestFrom 55 = .ok (.istore_n 3, 1) := by decide +kernel
theorem dX11_bestFrom_56 : decode cX11_bestFrom 56 = .ok (.iload_n 3, 1) := by decide +kernel
theorem dX11_bestFrom_57 : decode cX11_bestFrom 57 = .ok (.bipush 8, 2) := by decide +kernel
theorem dX11_bestFrom_59 : decode cX11_bestFrom 59 = .ok (.iload_n 2, 1) := by decide +kernel
theorem dX11_bestFrom_60 : decode cX11_bestFrom 60 = .ok (.imul, 1) := by decide +kernel
theorem dX11_bestFrom_61 : decode cX11_bestFrom 61 = .ok (.aload_n 0, 1) := by decide +kernel
theorem dX11_bestFrom_62 : decode cX11_bestFrom 62 = .ok (.getfield 24, 3) := by decide +kernel
theorem dX11_bestFrom_65 : decode cX11_bestFrom 65 = .ok (.iload_n 2, 1) := by decide +kernel
theorem dX11_bestFrom_66 : decode cX11_bestFrom 66 = .ok (.iaload, 1) := by decide +kernel
theorem dX11_bestFrom_67 : decode cX11_bestFrom 67 = .ok (.iadd, 1) := by decide +kernel
theorem dX11_bestFrom_68 : decode cX11_bestFrom 68 = .ok (.if_icmp .ge 84, 3) := by decide +kernel
theorem dX11_bestFrom_71 : decode cX11_bestFrom 71 = .ok (.aload_n 0, 1) := by decide +kernel
theorem dX11_bestFrom_72 : decode cX11_bestFrom 72 = .ok (.iconst 2, 1) := by decide +kernel
theorem dX11_bestFrom_73 : decode cX11_bestFrom 73 = .ok (.lconst 0, 1) := by decide +kernel
theorem dX11_bestFrom_74 : decode cX11_bestFrom 74 = .ok (.invokevirtual 60, 3) := by decide +kernel
theorem dX11_bestFrom_77 : decode cX11_bestFrom 77 = .ok (.aload_n 0, 1) := by decide +kernel
theorem dX11_bestFrom_78 : decode cX11_bestFrom 78 = .ok (.iconst 2, 1) := by decide +kernel
theorem dX11_bestFrom_79 : decode cX11_bestFrom 79 = .ok (.bipush 30, 2) := by decide +kernel
theorem dX11_bestFrom_81 : decode cX11_bestFrom 81 = .ok (.iload_n 1, 1) := by decide +kernel
theorem dX11_bestFrom_82 : decode cX11_bestFrom 82 = .ok (.iadd, 1) := by decide +kernel
theorem dX11_bestFrom_83 : decode cX11_bestFrom 83 = .ok (.iconst 1, 1) := by decide +kernel
theorem dX11_bestFrom_84 : decode cX11_bestFrom 84 = .ok (.iadd, 1) := by decide +kernel
theorem dX11_bestFrom_85 : decode cX11_bestFrom 85 = .ok (.aload_n 0, 1) := by decide +kernel
theorem dX11_bestFrom_86 : decode cX11_bestFrom 86 = .ok (.getfield 27, 3) := by decide +kernel
theorem dX11_bestFrom_89 : decode cX11_bestFrom 89 = .ok (.iload_n 3, 1) := by decide +kernel
theorem dX11_bestFrom_90 : decode cX11_bestFrom 90 = .ok (.iaload, 1) := by decide +kernel
theorem dX11_bestFrom_91 : decode cX11_bestFrom 91 = .ok (.i2l, 1) := by decide +kernel
theorem dX11_bestFrom_92 : decode cX11_bestFrom 92 = .ok (.invokevirtual 87, 3) := by decide +kernel
theorem dX11_bestFrom_95 : decode cX11_bestFrom 95 = .ok (.aload_n 0, 1) := by decide +kernel
theorem dX11_bestFrom_96 : decode cX11_bestFrom 96 = .ok (.iconst 2, 1) := by decide +kernel
theorem dX11_bestFrom_97 : decode cX11_bestFrom 97 = .ok (.bipush 10, 2) := by decide +kernel
theorem dX11_bestFrom_99 : decode cX11_bestFrom 99 = .ok (.iload_n 1, 1) := by decide +kernel
theorem dX11_bestFrom_100 : decode cX11_bestFrom 100 = .ok (.iadd, 1) := by decide +kernel
theorem dX11_bestFrom_101 : decode cX11_bestFrom 101 = .ok (.iconst 1, 1) := by decide +kernel
theorem dX11_bestFrom_102 : decode cX11_bestFrom 102 = .ok (.iadd, 1) := by decide +kernel
theorem dX11_bestFrom_103 : decode cX11_bestFrom 103 = .ok (.invokevirtual 106, 3) := by decide +kernel
theorem dX11_bestFrom_106 : decode cX11_bestFrom 106 = .ok (.ifCond .lt 7, 3) := by decide +kernel
theorem dX11_bestFrom_109 : decode cX11_bestFrom 109 = .ok (.iconst 1, 1) := by decide +kernel
theorem dX11_bestFrom_110 : decode cX11_bestFrom 110 = .ok (.goto 4, 3) := by decide +kernel
theorem dX11_bestFrom_113 : decode cX11_bestFrom 113 = .ok (.iconst 0, 1) := by decide +kernel
theorem dX11_bestFrom_114 : decode cX11_bestFrom 114 = .ok (.istore 4, 2) := by decide +kernel
theorem dX11_bestFrom_116 : decode cX11_bestFrom 116 = .ok (.aload_n 0, 1) := by decide +kernel
theorem dX11_bestFrom_117 : decode cX11_bestFrom 117 = .ok (.bipush 10, 2) := by decide +kernel
theorem dX11_bestFrom_119 : decode cX11_bestFrom 119 = .ok (.iload_n 1, 1) := by decide +kernel
theorem dX11_bestFrom_120 : decode cX11_bestFrom 120 = .ok (.iadd, 1) := by decide +kernel
theorem dX11_bestFrom_121 : decode cX11_bestFrom 121 = .ok (.iload 4, 2) := by decide +kernel
theorem dX11_bestFrom_123 : decode cX11_bestFrom 123 = .ok (.ifCond .eq 7, 3) := by decide +kernel
theorem dX11_bestFrom_126 : decode cX11_bestFrom 126 = .ok (.iconst 2, 1) := by decide +kernel
theorem dX11_bestFrom_127 : decode cX11_bestFrom 127 = .ok (.goto 9, 3) := by decide +kernel
theorem dX11_bestFrom_130 : decode cX11_bestFrom 130 = .ok (.bipush 10, 2) := by decide +kernel
theorem dX11_bestFrom_132 : decode cX11_bestFrom 132 = .ok (.iload_n 1, 1) := by decide +kernel
theorem dX11_bestFrom_133 : decode cX11_bestFrom 133 = .ok (.iadd, 1) := by decide +kernel
theorem dX11_bestFrom_134 : decode cX11_bestFrom 134 = .ok (.iconst 1, 1) := by decide +kernel
theorem dX11_bestFrom_135 : decode cX11_bestFrom 135 = .ok (.iadd, 1) := by decide +kernel
theorem dX11_bestFrom_136 : decode cX11_bestFrom 136 = .ok (.aload_n 0, 1) := by decide +kernel
theorem dX11_bestFrom_137 : decode cX11_bestFrom 137 = .ok (.getfield 30, 3) := by decide +kernel
theorem dX11_bestFrom_140 : decode cX11_bestFrom 140 = .ok (.iload_n 3, 1) := by decide +kernel
theorem dX11_bestFrom_141 : decode cX11_bestFrom 141 = .ok (.iaload, 1) := by decide +kernel
theorem dX11_bestFrom_142 : decode cX11_bestFrom 142 = .ok (.i2l, 1) := by decide +kernel
theorem dX11_bestFrom_143 : decode cX11_bestFrom 143 = .ok (.invokevirtual 87, 3) := by decide +kernel
theorem dX11_bestFrom_146 : decode cX11_bestFrom 146 = .ok (.iinc 3 1, 3) := by decide +kernel
theorem dX11_bestFrom_149 : decode cX11_bestFrom 149 = .ok (.goto (-93), 3) := by decide +kernel
theorem dX11_bestFrom_152 : decode cX11_bestFrom 152 = .ok (.aload_n 0, 1) := by decide +kernel
theorem dX11_bestFrom_153 : decode cX11_bestFrom 153 = .ok (.bipush 30, 2) := by decide +kernel
theorem dX11_bestFrom_155 : decode cX11_bestFrom 155 = .ok (.iload_n 1, 1) := by decide +kernel
theorem dX11_bestFrom_156 : decode cX11_bestFrom 156 = .ok (.iadd, 1) := by decide +kernel
theorem dX11_bestFrom_157 : decode cX11_bestFrom 157 = .ok (.bipush 30, 2) := by decide +kernel
theorem dX11_bestFrom_159 : decode cX11_bestFrom 159 = .ok (.iload_n 1, 1) := by decide +kernel
theorem dX11_bestFrom_160 : decode cX11_bestFrom 160 = .ok (.iadd, 1) := by decide +kernel
theorem dX11_bestFrom_161 : decode cX11_bestFrom 161 = .ok (.iconst 1, 1) := by decide +kernel
theorem dX11_bestFrom_162 : decode cX11_bestFrom 162 = .ok (.iadd, 1) := by decide +kernel
theorem dX11_bestFrom_163 : decode cX11_bestFrom 163 = .ok (.invokevirtual 83, 3) := by decide +kernel
theorem dX11_bestFrom_166 : decode cX11_bestFrom 166 = .ok (.aload_n 0, 1) := by decide +kernel
theorem dX11_bestFrom_167 : decode cX11_bestFrom 167 = .ok (.bipush 30, 2) := by decide +kernel
theorem dX11_bestFrom_169 : decode cX11_bestFrom 169 = .ok (.iload_n 1, 1) := by decide +kernel
theorem dX11_bestFrom_170 : decode cX11_bestFrom 170 = .ok (.iadd, 1) := by decide +kernel
theorem dX11_bestFrom_171 : decode cX11_bestFrom 171 = .ok (.aload_n 0, 1) := by decide +kernel
theorem dX11_bestFrom_172 : decode cX11_bestFrom 172 = .ok (.getfield 33, 3) := by decide +kernel
theorem dX11_bestFrom_175 : decode cX11_bestFrom 175 = .ok (.iload_n 2, 1) := by decide +kernel
theorem dX11_bestFrom_176 : decode cX11_bestFrom 176 = .ok (.iaload, 1) := by decide +kernel
theorem dX11_bestFrom_177 : decode cX11_bestFrom 177 = .ok (.i2l, 1) := by decide +kernel
theorem dX11_bestFrom_178 : decode cX11_bestFrom 178 = .ok (.invokevirtual 93, 3) := by decide +kernel
theorem dX11_bestFrom_181 : decode cX11_bestFrom 181 = .ok (.iinc 1 (-1), 3) := by decide +kernel
theorem dX11_bestFrom_184 : decode cX11_bestFrom 184 = .ok (.goto (-153), 3) := by decide +kernel
theorem dX11_bestFrom_187 : decode cX11_bestFrom 187 = .ok (.return_, 1) := by decide +kernel
set_option maxRecDepth 20000 in
theorem ggX11_best_X11_bestFrom : GoodIn wsX11_best wsX11_bestFrom := goodIn_r _ [5, 6, 7, 8, 9, 10, 11, 12, 13, 14, 4, 15, 16, 17, 18, 19, 20, 21, 22, 23, 24, 25, 26, 27, 28, 29, 30, 31, 32, 33, 34, 35, 36, 37, 38, 39, 40, 41, 42, 43, 44, 68, 69, 70, 71, 72, 73, 74, 75, 76, 77, 78, 79, 80, 81, 82, 83, 84, 85, 86, 87, 88] (by decide +kernel) (by decide +kernel)
set_option maxRecDepth 20000 in
theorem gX11_best_X11_bestFrom : GoodIn wsX11_best (wsV RX11 140 RX11 yX11_bestFrom wsX11_bestFrom) := goodIn_app (goodIn_of _ (by decide +kernel)) ggX11_best_X11_bestFrom
set_option maxRecDepth 20000 in
theorem ggX11_best_X11_result : GoodIn wsX11_best wsX11_result := goodIn_r _ [48, 16, 49, 50, 37, 38, 39, 4, 40, 41, 42, 43, 44, 17, 18, 19, 20, 21, 22, 23, 24, 25, 26, 27, 28, 51, 52, 53, 54, 12, 13, 14, 15, 55, 56, 57, 58, 59, 60, 61, 62, 33, 34, 35, 36, 29, 30, 31, 32, 63, 64, 65, 66, 67, 68, 69, 70, 71, 72, 73, 74, 75, 76, 77, 78, 79, 80, 81, 82, 83, 84, 85, 86, 87, 88] (by decide +kernel) (by decide +kernel)
set_option maxRecDepth 20000 in
theorem gX11_best_X11_result : GoodIn wsX11_best (wsV RX11 137 RX11 yX11_result wsX11_result) := goodIn_app (goodIn_of _ (by decide +kernel)) ggX11_best_X11_result
theorem dX11_best_0 : decode cX11_best 0 = .ok (.aload_n 0, 1) := by decide +kernel
theorem dX11_best_1 : decode cX11_best 1 = .ok (.invokevirtual 140, 3) := by decide +kernel
theorem dX11_best_4 : decode cX11_best 4 = .ok (.aload_n 0, 1) := by decide +kernel
theorem dX11_best_5 : decode cX11_best 5 = .ok (.bipush 10, 2) := by decide +kernel
theorem dX11_best_7 : decode cX11_best 7 = .ok (.bipush 30, 2) := by decide +kernel
theorem dX11_best_9 : decode cX11_best 9 = .ok (.invokevirtual 137, 3) := by decide +kernel
theorem dX11_best_12 : decode cX11_best 12 = .ok (.return_, 1) := by decide +kernel
set_option maxRecDepth 20000 in
theorem ggX11_bar_X11_bestFrom : GoodIn wsX11_bar wsX11_bestFrom := goodIn_r _ [14, 1, 2, 3, 4, 5, 15, 16, 17, 18, 13, 19, 20, 21, 22, 23, 24, 25, 26, 27, 28, 29, 30, 31, 32, 33, 34, 35, 36, 37, 38, 39, 40, 41, 42, 43, 44, 45, 46, 47, 48, 49, 50, 51, 52, 53, 54, 55, 56, 57, 58, 59, 60, 61, 62, 63, 64, 65, 66, 67, 68, 69] (by decide +kernel) (by decide +kernel)
set_option maxRecDepth 20000 in
theorem gX11_bar_X11_bestFrom : GoodIn wsX11_bar (wsV RX11 140 RX11 yX11_bestFrom wsX11_bestFrom) := goodIn_app (goodIn_of _ (by decide +kernel)) ggX11_bar_X11_bestFrom
set_option maxRecDepth 20000 in
theorem ggX11_bar_X11_set : GoodIn wsX11_bar wsX11_set := goodIn_r _ [19, 20, 21, 22, 23, 13, 24, 25, 26, 27, 28, 29, 30, 31, 32, 49, 50, 51, 52, 53, 54, 55, 56, 57, 58, 59, 60, 61, 62, 63, 64, 65, 66, 67, 68, 69] (by decide +kernel) (by decide +kernel)
set_option maxRecDepth 20000 in
theorem gX11_bar_X11_set : GoodIn wsX11_bar (wsV RX11 60 RX11 yX11_set wsX11_set) := goodIn_app (goodIn_of _ (by decide +kernel)) ggX11_bar_X11_set
set_option maxRecDepth 20000 in
theorem ggX11_bar_X11_more : GoodIn wsX11_bar wsX11_more := goodIn_r _ [36, 20, 21, 22, 23, 13, 24, 25, 26, 27, 28, 29, 30, 31, 32, 49, 50, 51, 52, 53, 54, 55, 56, 57, 58, 59, 60, 61, 62, 63, 64, 65, 66, 67, 68, 69] (by decide +kernel) (by decide +kernel)
set_option maxRecDepth 20000 in
theorem gX11_bar_X11_more : GoodIn wsX11_bar (wsV RX11 87 RX11 yX11_more wsX11_more) := goodIn_app (goodIn_of _ (by decide +kernel)) ggX11_bar_X11_more
set_option maxRecDepth 20000 in
theorem ggX11_bar_X11_compared : GoodIn wsX11_bar wsX11_compared := goodIn_r _ [40, 20, 49, 50, 51, 52, 53, 54, 55, 56, 57, 58, 59, 60, 61, 62, 63, 64, 65, 66, 67, 68, 69] (by decide +kernel) (by decide +kernel)
set_option maxRecDepth 20000 in
theorem gX11_bar_X11_compared : GoodIn wsX11_bar (wsV RX11 106 RX11 yX11_compared wsX11_compared) := goodIn_app (goodIn_of _ (by decide +kernel)) ggX11_bar_X11_compared
theorem dX11_bar_0 : decode cX11_bar 0 = .ok (.iload_n 1, 1) := by decide +kernel
theorem dX11_bar_1 : decode cX11_bar 1 = .ok (.ifCond .lt 11, 3) := by decide +kernel
theorem dX11_bar_4 : decode cX11_bar 4 = .ok (.iload_n 1, 1) := by decide +kernel
theorem dX11_bar_5 : decode cX11_bar 5 = .ok (.aload_n 0, 1) := by decide +kernel
theorem dX11_bar_6 : decode cX11_bar 6 = .ok (.getfield 127, 3) := by decide +kernel
theorem dX11_bar_9 : decode cX11_bar 9 = .ok (.if_icmp .lt 5, 3) := by decide +kernel
theorem dX11_bar_12 : decode cX11_bar 12 = .ok (.iconst (-1), 1) := by decide +kernel
theorem dX11_bar_13 : decode cX11_bar 13 = .ok (.ireturn, 1) := by decide +kernel
theorem dX11_bar_14 : decode cX11_bar 14 = .ok (.aload_n 0, 1) := by decide +kernel
theorem dX11_bar_15 : decode cX11_bar 15 = .ok (.invokevirtual 140, 3) := by decide +kernel
theorem dX11_bar_18 : decode cX11_bar 18 = .ok (.aload_n 0, 1) := by decide +kernel
theorem dX11_bar_19 : decode cX11_bar 19 = .ok (.getfield 36, 3) := by decide +kernel
theorem dX11_bar_22 : decode cX11_bar 22 = .ok (.iload_n 1, 1) := by decide +kernel
theorem dX11_bar_23 : decode cX11_bar 23 = .ok (.iaload, 1) := by decide +kernel
theorem dX11_bar_24 : decode cX11_bar 24 = .ok (.istore_n 2, 1) := by decide +kernel
theorem dX11_bar_25 : decode cX11_bar 25 = .ok (.iconst 0, 1) := by decide +kernel
theorem dX11_bar_26 : decode cX11_bar 26 = .ok (.istore_n 3, 1) := by decide +kernel
theorem dX11_bar_27 : decode cX11_bar 27 = .ok (.bipush 8, 2) := by decide +kernel
theorem dX11_bar_29 : decode cX11_bar 29 = .ok (.iload_n 2, 1) := by decide +kernel
theorem dX11_bar_30 : decode cX11_bar 30 = .ok (.imul, 1) := by decide +kernel
theorem dX11_bar_31 : decode cX11_bar 31 = .ok (.istore 4, 2) := by decide +kernel
theorem dX11_bar_33 : decode cX11_bar 33 = .ok (.iload 4, 2) := by decide +kernel
theorem dX11_bar_35 : decode cX11_bar 35 = .ok (.bipush 8, 2) := by decide +kernel
theorem dX11_bar_37 : decode cX11_bar 37 = .ok (.iload_n 2, 1) := by decide +kernel
theorem dX11_bar_38 : decode cX11_bar 38 = .ok (.imul, 1) := by decide +kernel
theorem dX11_bar_39 : decode cX11_bar 39 = .ok (.aload_n 0, 1) := by decide +kernel
theorem dX11_bar_40 : decode cX11_bar 40 = .ok (.getfield 24, 3) := by decide +kernel
theorem dX11_bar_43 : decode cX11_bar 43 = .ok (.iload_n 2, 1) := by decide +kernel
theorem dX11_bar_44 : decode cX11_bar 44 = .ok (.iaload, 1) := by decide +kernel
theorem dX11_bar_45 : decode cX11_bar 45 = .ok (.iadd, 1) := by decide +kernel
theorem dX11_bar_46 : decode cX11_bar 46 = .ok (.if_icmp .ge 72, 3) := by decide +kernel
theorem dX11_bar_49 : decode cX11_bar 49 = .ok (.aload_n 0, 1) := by decide +kernel
theorem dX11_bar_50 : decode cX11_bar 50 = .ok (.iconst 2, 1) := by decide +kernel
theorem dX11_bar_51 : decode cX11_bar 51 = .ok (.lconst 0, 1) := by decide +kernel
theorem dX11_bar_52 : decode cX11_bar 52 = .ok (.invokevirtual 60, 3) := by decide +kernel
theorem dX11_bar_55 : decode cX11_bar 55 = .ok (.aload_n 0, 1) := by decide +kernel
theorem dX11_bar_56 : decode cX11_bar 56 = .ok (.iconst 2, 1) := by decide +kernel
theorem dX11_bar_57 : decode cX11_bar 57 = .ok (.bipush 30, 2) := by decide +kernel
theorem dX11_bar_59 : decode cX11_bar 59 = .ok (.iload_n 1, 1) := by decide +kernel
theorem dX11_bar_60 : decode cX11_bar 60 = .ok (.iadd, 1) := by decide +kernel
theorem dX11_bar_61 : decode cX11_bar 61 = .ok (.iconst 1, 1) := by decide +kernel
theorem dX11_bar_62 : decode cX11_bar 62 = .ok (.iadd, 1) := by decide +kernel
theorem dX11_bar_63 : decode cX11_bar 63 = .ok (.aload_n 0, 1) := by decide +kernel
theorem dX11_bar_64 : decode cX11_bar 64 = .ok (.getfield 27, 3) := by decide +kernel
theorem dX11_bar_67 : decode cX11_bar 67 = .ok (.iload 4, 2) := by decide +kernel
theorem dX11_bar_69 : decode cX11_bar 69 = .ok (.iaload, 1) := by decide +kernel
theorem dX11_bar_70 : decode cX11_bar 70 = .ok (.i2l, 1) := by decide +kernel
theorem dX11_bar_71 : decode cX11_bar 71 = .ok (.invokevirtual 87, 3) := by decide +kernel
theorem dX11_bar_74 : decode cX11_bar 74 = .ok (.aload_n 0, 1) := by decide +kernel
theorem dX11_bar_75 : decode cX11_bar 75 = .ok (.getfield 30, 3) := by decide +kernel
theorem dX11_bar_78 : decode cX11_bar 78 = .ok (.iload 4, 2) := by decide +kernel
theorem dX11_bar_80 : decode cX11_bar 80 = .ok (.iaload, 1) := by decide +kernel
theorem dX11_bar_81 : decode cX11_bar 81 = .ok (.ifCond .le 31, 3) := by decide +kernel
theorem dX11_bar_84 : decode cX11_bar 84 = .ok (.aload_n 0, 1) := by decide +kernel
theorem dX11_bar_85 : decode cX11_bar 85 = .ok (.iconst 2, 1) := by decide +kernel
theorem dX11_bar_86 : decode cX11_bar 86 = .ok (.bipush 10, 2) := by decide +kernel
theorem dX11_bar_88 : decode cX11_bar 88 = .ok (.iload_n 1, 1) := by decide +kernel
theorem dX11_bar_89 : decode cX11_bar 89 = .ok (.iadd, 1) := by decide +kernel
theorem dX11_bar_90 : decode cX11_bar 90 = .ok (.iconst 1, 1) := by decide +kernel
theorem dX11_bar_91 : decode cX11_bar 91 = .ok (.iadd, 1) := by decide +kernel
theorem dX11_bar_92 : decode cX11_bar 92 = .ok (.invokevirtual 106, 3) := by decide +kernel
theorem dX11_bar_95 : decode cX11_bar 95 = .ok (.ifCond .ge 17, 3) := by decide +kernel
theorem dX11_bar_98 : decode cX11_bar 98 = .ok (.iload_n 3, 1) := by decide +kernel
theorem dX11_bar_99 : decode cX11_bar 99 = .ok (.aload_n 0, 1) := by decide +kernel
theorem dX11_bar_100 : decode cX11_bar 100 = .ok (.getfield 27, 3) := by decide +kernel
theorem dX11_bar_103 : decode cX11_bar 103 = .ok (.iload 4, 2) := by decide +kernel
theorem dX11_bar_105 : decode cX11_bar 105 = .ok (.iaload, 1) := by decide +kernel
theorem dX11_bar_106 : decode cX11_bar 106 = .ok (.iconst 1, 1) := by decide +kernel
theorem dX11_bar_107 : decode cX11_bar 107 = .ok (.iadd, 1) := by decide +kernel
theorem dX11_bar_108 : decode cX11_bar 108 = .ok (.invokestatic 143, 3) := by decide +kernel
theorem dX11_bar_111 : decode cX11_bar 111 = .ok (.istore_n 3, 1) := by decide +kernel
theorem dX11_bar_112 : decode cX11_bar 112 = .ok (.iinc 4 1, 3) := by decide +kernel
theorem dX11_bar_115 : decode cX11_bar 115 = .ok (.goto (-82), 3) := by decide +kernel
theorem dX11_bar_118 : decode cX11_bar 118 = .ok (.iload_n 3, 1) := by decide +kernel
theorem dX11_bar_119 : decode cX11_bar 119 = .ok (.ireturn, 1) := by decide +kernel
set_option maxRecDepth 20000 in
theorem ggX11_few_X11_set : GoodIn wsX11_few wsX11_set := goodIn_r _ [11, 12, 13, 14, 15, 10, 16, 17, 18, 19, 20, 21, 22, 23, 24, 64, 65, 66, 67, 68, 69, 70, 71, 72, 73, 74, 75, 76, 77, 78, 79, 80, 81, 82, 83, 84] (by decide +kernel) (by decide +kernel)
set_option maxRecDepth 20000 in
theorem gX11_few_X11_set : GoodIn wsX11_few (wsV RX11 60 RX11 yX11_set wsX11_set) := goodIn_app (goodIn_of _ (by decide +kernel)) ggX11_few_X11_set
set_option maxRecDepth 20000 in
theorem ggX11_few_X11_copy : GoodIn wsX11_few wsX11_copy := goodIn_r _ [28, 12, 64, 65, 66, 67, 68, 69, 70, 71, 72, 73, 74, 75, 76, 77, 78, 79, 80, 81, 82, 83, 84] (by decide +kernel) (by decide +kernel)
set_option maxRecDepth 20000 in
theorem gX11_few_X11_copy : GoodIn wsX11_few (wsV RX11 83 RX11 yX11_copy wsX11_copy) := goodIn_app (goodIn_of _ (by decide +kernel)) ggX11_few_X11_copy
set_option maxRecDepth 20000 in
theorem ggX11_few_X11_more : GoodIn wsX11_few wsX11_more := goodIn_r _ [32, 12, 13, 14, 15, 10, 16, 17, 18, 19, 20, 21, 22, 23, 24, 64, 65, 66, 67, 68, 69, 70, 71, 72, 73, 74, 75, 76, 77, 78, 79, 80, 81, 82, 83, 84] (by decide +kernel) (by decide +kernel)
set_option maxRecDepth 20000 in
theorem gX11_few_X11_more : GoodIn wsX11_few (wsV RX11 87 RX11 yX11_more wsX11_more) := goodIn_app (goodIn_of _ (by decide +kernel)) ggX11_few_X11_more
set_option maxRecDepth 20000 in
theorem ggX11_few_X11_compared : GoodIn wsX11_few wsX11_compared := goodIn_r _ [36, 12, 64, 65, 66, 67, 68, 69, 70, 71, 72, 73, 74, 75, 76, 77, 78, 79, 80, 81, 82, 83, 84] (by decide +kernel) (by decide +kernel)
set_option maxRecDepth 20000 in
theorem gX11_few_X11_compared : GoodIn wsX11_few (wsV RX11 106 RX11 yX11_compared wsX11_compared) := goodIn_app (goodIn_of _ (by decide +kernel)) ggX11_few_X11_compared
set_option maxRecDepth 20000 in
theorem ggX11_few_X11_times : GoodIn wsX11_few wsX11_times := goodIn_r _ [40, 12, 13, 14, 15, 10, 16, 17, 18, 19, 20, 21, 22, 23, 24, 64, 65, 66, 67, 68, 69, 70, 71, 72, 73, 74, 75, 76, 77, 78, 79, 80, 81, 82, 83, 84] (by decide +kernel) (by decide +kernel)
set_option maxRecDepth 20000 in
theorem gX11_few_X11_times : GoodIn wsX11_few (wsV RX11 93 RX11 yX11_times wsX11_times) := goodIn_app (goodIn_of _ (by decide +kernel)) ggX11_few_X11_times
set_option maxRecDepth 20000 in
theorem ggX11_few_X11_result : GoodIn wsX11_few wsX11_result := goodIn_r _ [44, 12, 45, 46, 25, 26, 27, 10, 28, 37, 38, 39, 40, 13, 14, 15, 16, 17, 18, 19, 20, 21, 22, 23, 24, 47, 48, 49, 50, 7, 8, 9, 11, 51, 52, 53, 54, 55, 56, 57, 58, 33, 34, 35, 36, 29, 30, 31, 32, 59, 60, 61, 62, 63, 64, 65, 66, 67, 68, 69, 70, 71, 72, 73, 74, 75, 76, 77, 78, 79, 80, 81, 82, 83, 84] (by decide +kernel) (by decide +kernel)
set_option maxRecDepth 20000 in
theorem gX11_few_X11_result : GoodIn wsX11_few (wsV RX11 137 RX11 yX11_result wsX11_result) := goodIn_app (goodIn_of _ (by decide +kernel)) ggX11_few_X11_result
theorem dX11_few_0 : decode cX11_few 0 = .ok (.iload_n 1, 1) := by decide +kernel
theorem dX11_few_1 : decode cX11_few 1 = .ok (.ifCond .lt 9, 3) := by decide +kernel
theorem dX11_few_4 : decode cX11_few 4 = .ok (.iload_n 1, 1) := by decide +kernel
theorem dX11_few_5 : decode cX11_few 5 = .ok (.bipush 10, 2) := by decide +kernel
theorem dX11_few_7 : decode cX11_few 7 = .ok (.if_icmp .le 5, 3) := by decide +kernel
theorem dX11_few_10 : decode cX11_few 10 = .ok (.iconst 0, 1) := by decide +kernel
theorem dX11_few_11 : decode cX11_few 11 = .ok (.ireturn, 1) := by decide +kernel
theorem dX11_few_12 : decode cX11_few 12 = .ok (.iconst 0, 1) := by decide +kernel
theorem dX11_few_13 : decode cX11_few 13 = .ok (.istore_n 2, 1) := by decide +kernel
theorem dX11_few_14 : decode cX11_few 14 = .ok (.iload_n 2, 1) := by decide +kernel
theorem dX11_few_15 : decode cX11_few 15 = .ok (.iload_n 1, 1) := by decide +kernel
theorem dX11_few_16 : decode cX11_few 16 = .ok (.if_icmp .gt 18, 3) := by decide +kernel
theorem dX11_few_19 : decode cX11_few 19 = .ok (.aload_n 0, 1) := by decide +kernel
theorem dX11_few_20 : decode cX11_few 20 = .ok (.bipush 10, 2) := by decide +kernel
theorem dX11_few_22 : decode cX11_few 22 = .ok (.iload_n 2, 1) := by decide +kernel
theorem dX11_few_23 : decode cX11_few 23 = .ok (.iadd, 1) := by decide +kernel
theorem dX11_few_24 : decode cX11_few 24 = .ok (.lconst 0, 1) := by decide +kernel
theorem dX11_few_25 : decode cX11_few 25 = .ok (.invokevirtual 60, 3) := by decide +kernel
theorem dX11_few_28 : decode cX11_few 28 = .ok (.iinc 2 1, 3) := by decide +kernel
theorem dX11_few_31 : decode cX11_few 31 = .ok (.goto (-17), 3) := by decide +kernel
theorem dX11_few_34 : decode cX11_few 34 = .ok (.aload_n 0, 1) := by decide +kernel
theorem dX11_few_35 : decode cX11_few 35 = .ok (.bipush 30, 2) := by decide +kernel
theorem dX11_few_37 : decode cX11_few 37 = .ok (.lconst 1, 1) := by decide +kernel
theorem dX11_few_38 : decode cX11_few 38 = .ok (.invokevirtual 60, 3) := by decide +kernel
theorem dX11_few_41 : decode cX11_few 41 = .ok (.aload_n 0, 1) := by decide +kernel
theorem dX11_few_42 : decode cX11_few 42 = .ok (.getfield 127, 3) := by decide +kernel
theorem dX11_few_45 : decode cX11_few 45 = .ok (.iconst 1, 1) := by decide +kernel
theorem dX11_few_46 : decode cX11_few 46 = .ok (.isub, 1) := by decide +kernel
theorem dX11_few_47 : decode cX11_few 47 = .ok (.istore_n 2, 1) := by decide +kernel
theorem dX11_few_48 : decode cX11_few 48 = .ok (.iload_n 2, 1) := by decide +kernel
theorem dX11_few_49 : decode cX11_few 49 = .ok (.ifCond .lt 164, 3) := by decide +kernel
theorem dX11_few_52 : decode cX11_few 52 = .ok (.aload_n 0, 1) := by decide +kernel
theorem dX11_few_53 : decode cX11_few 53 = .ok (.getfield 36, 3) := by decide +kernel
theorem dX11_few_56 : decode cX11_few 56 = .ok (.iload_n 2, 1) := by decide +kernel
theorem dX11_few_57 : decode cX11_few 57 = .ok (.iaload, 1) := by decide +kernel
theorem dX11_few_58 : decode cX11_few 58 = .ok (.istore_n 3, 1) := by decide +kernel
theorem dX11_few_59 : decode cX11_few 59 = .ok (.iload_n 1, 1) := by decide +kernel
theorem dX11_few_60 : decode cX11_few 60 = .ok (.istore 4, 2) := by decide +kernel
theorem dX11_few_62 : decode cX11_few 62 = .ok (.iload 4, 2) := by decide +kernel
theorem dX11_few_64 : decode cX11_few 64 = .ok (.ifCond .le 130, 3) := by decide +kernel
theorem dX11_few_67 : decode cX11_few 67 = .ok (.aload_n 0, 1) := by decide +kernel
theorem dX11_few_68 : decode cX11_few 68 = .ok (.bipush 31, 2) := by decide +kernel
theorem dX11_few_70 : decode cX11_few 70 = .ok (.lconst 0, 1) := by decide +kernel
theorem dX11_few_71 : decode cX11_few 71 = .ok (.invokevirtual 60, 3) := by decide +kernel
theorem dX11_few_74 : decode cX11_few 74 = .ok (.bipush 8, 2) := by decide +kernel
theorem dX11_few_76 : decode cX11_few 76 = .ok (.iload_n 3, 1) := by decide +kernel
theorem dX11_few_77 : decode cX11_few 77 = .ok (.imul, 1) := by decide +kernel
theorem dX11_few_78 : decode cX11_few 78 = .ok (.istore 5, 2) := by decide +kernel
theorem dX11_few_80 : decode cX11_few 80 = .ok (.iload 5, 2) := by decide +kernel
theorem dX11_few_82 : decode cX11_few 82 = .ok (.bipush 8, 2) := by decide +kernel
theorem dX11_few_84 : decode cX11_few 84 = .ok (.iload_n 3, 1) := by decide +kernel
theorem dX11_few_85 : decode cX11_few 85 = .ok (.imul, 1) := by decide +kernel
theorem dX11_few_86 : decode cX11_few 86 = .ok (.aload_n 0, 1) := by decide +kernel
theorem dX11_few_87 : decode cX11_few 87 = .ok (.getfield 24, 3) := by decide +kernel
theorem dX11_few_90 : decode cX11_few 90 = .ok (.iload_n 3, 1) := by decide +kernel
theorem dX11_few_91 : decode cX11_few 91 = .ok (.iaload, 1) := by decide +kernel
theorem dX11_few_92 : decode cX11_few 92 = .ok (.iadd, 1) := by decide +kernel
theorem dX11_few_93 : decode cX11_few 93 = .ok (.if_icmp .ge 84, 3) := by decide +kernel
theorem dX11_few_96 : decode cX11_few 96 = .ok (.aload_n 0, 1) := by decide +kernel
theorem dX11_few_97 : decode cX11_few 97 = .ok (.iconst 2, 1) := by decide +kernel
theorem dX11_few_98 : decode cX11_few 98 = .ok (.bipush 10, 2) := by decide +kernel
theorem dX11_few_100 : decode cX11_few 100 = .ok (.iload 4, 2) := by decide +kernel
theorem dX11_few_102 : decode cX11_few 102 = .ok (.iadd, 1) := by decide +kernel
theorem dX11_few_103 : decode cX11_few 103 = .ok (.iconst 1, 1) := by decide +kernel
theorem dX11_few_104 : decode cX11_few 104 = .ok (.isub, 1) := by decide +kernel
theorem dX11_few_105 : decode cX11_few 105 = .ok (.invokevirtual 83, 3) := by decide +kernel
theorem dX11_few_108 : decode cX11_few 108 = .ok (.aload_n 0, 1) := by decide +kernel
theorem dX11_few_109 : decode cX11_few 109 = .ok (.iconst 2, 1) := by decide +kernel
theorem dX11_few_110 : decode cX11_few 110 = .ok (.bipush 30, 2) := by decide +kernel
theorem dX11_few_112 : decode cX11_few 112 = .ok (.aload_n 0, 1) := by decide +kernel
theorem dX11_few_113 : decode cX11_few 113 = .ok (.getfield 27, 3) := by decide +kernel
theorem dX11_few_116 : decode cX11_few 116 = .ok (.iload 5, 2) := by decide +kernel
theorem dX11_few_118 : decode cX11_few 118 = .ok (.iaload, 1) := by decide +kernel
theorem dX11_few_119 : decode cX11_few 119 = .ok (.i2l, 1) := by decide +kernel
theorem dX11_few_120 : decode cX11_few 120 = .ok (.invokevirtual 87, 3) := by decide +kernel
theorem dX11_few_123 : decode cX11_few 123 = .ok (.aload_n 0, 1) := by decide +kernel
theorem dX11_few_124 : decode cX11_few 124 = .ok (.iconst 2, 1) := by decide +kernel
theorem dX11_few_125 : decode cX11_few 125 = .ok (.bipush 10, 2) := by decide +kernel
theorem dX11_few_127 : decode cX11_few 127 = .ok (.iload 4, 2) := by decide +kernel
theorem dX11_few_129 : decode cX11_few 129 = .ok (.iadd, 1) := by decide +kernel
theorem dX11_few_130 : decode cX11_few 130 = .ok (.invokevirtual 106, 3) := by decide +kernel
theorem dX11_few_133 : decode cX11_few 133 = .ok (.ifCond .le 7, 3) := by decide +kernel
theorem dX11_few_136 : decode cX11_few 136 = .ok (.iconst 1, 1) := by decide +kernel
theorem dX11_few_137 : decode cX11_few 137 = .ok (.goto 4, 3) := by decide +kernel
theorem dX11_few_140 : decode cX11_few 140 = .ok (.iconst 0, 1) := by decide +kernel
theorem dX11_few_141 : decode cX11_few 141 = .ok (.istore 6, 2) := by decide +kernel
theorem dX11_few_143 : decode cX11_few 143 = .ok (.aload_n 0, 1) := by decide +kernel
theorem dX11_few_144 : decode cX11_few 144 = .ok (.bipush 31, 2) := by decide +kernel
theorem dX11_few_146 : decode cX11_few 146 = .ok (.iload 6, 2) := by decide +kernel
theorem dX11_few_148 : decode cX11_few 148 = .ok (.ifCond .eq 7, 3) := by decide +kernel
theorem dX11_few_151 : decode cX11_few 151 = .ok (.iconst 2, 1) := by decide +kernel
theorem dX11_few_152 : decode cX11_few 152 = .ok (.goto 8, 3) := by decide +kernel
theorem dX11_few_155 : decode cX11_few 155 = .ok (.bipush 10, 2) := by decide +kernel
theorem dX11_few_157 : decode cX11_few 157 = .ok (.iload 4, 2) := by decide +kernel
theorem dX11_few_159 : decode cX11_few 159 = .ok (.iadd, 1) := by decide +kernel
theorem dX11_few_160 : decode cX11_few 160 = .ok (.aload_n 0, 1) := by decide +kernel
theorem dX11_few_161 : decode cX11_few 161 = .ok (.getfield 30, 3) := by decide +kernel
theorem dX11_few_164 : decode cX11_few 164 = .ok (.iload 5, 2) := by decide +kernel
theorem dX11_few_166 : decode cX11_few 166 = .ok (.iaload, 1) := by decide +kernel
theorem dX11_few_167 : decode cX11_few 167 = .ok (.i2l, 1) := by decide +kernel
theorem dX11_few_168 : decode cX11_few 168 = .ok (.invokevirtual 87, 3) := by decide +kernel
theorem dX11_few_171 : decode cX11_few 171 = .ok (.iinc 5 1, 3) := by decide +kernel
theorem dX11_few_174 : decode cX11_few 174 = .ok (.goto (-94), 3) := by decide +kernel
theorem dX11_few_177 : decode cX11_few 177 = .ok (.aload_n 0, 1) := by decide +kernel
theorem dX11_few_178 : decode cX11_few 178 = .ok (.bipush 10, 2) := by decide +kernel
theorem dX11_few_180 : decode cX11_few 180 = .ok (.iload 4, 2) := by decide +kernel
theorem dX11_few_182 : decode cX11_few 182 = .ok (.iadd, 1) := by decide +kernel
theorem dX11_few_183 : decode cX11_few 183 = .ok (.bipush 31, 2) := by decide +kernel
theorem dX11_few_185 : decode cX11_few 185 = .ok (.invokevirtual 83, 3) := by decide +kernel
theorem dX11_few_188 : decode cX11_few 188 = .ok (.iinc 4 (-1), 3) := by decide +kernel
theorem dX11_few_191 : decode cX11_few 191 = .ok (.goto (-129), 3) := by decide +kernel
theorem dX11_few_194 : decode cX11_few 194 = .ok (.aload_n 0, 1) := by decide +kernel
theorem dX11_few_195 : decode cX11_few 195 = .ok (.bipush 30, 2) := by decide +kernel
theorem dX11_few_197 : decode cX11_few 197 = .ok (.aload_n 0, 1) := by decide +kernel
theorem dX11_few_198 : decode cX11_few 198 = .ok (.getfield 33, 3) := by decide +kernel
theorem dX11_few_201 : decode cX11_few 201 = .ok (.iload_n 3, 1) := by decide +kernel
theorem dX11_few_202 : decode cX11_few 202 = .ok (.iaload, 1) := by decide +kernel
theorem dX11_few_203 : decode cX11_few 203 = .ok (.i2l, 1) := by decide +kernel
theorem dX11_few_204 : decode cX11_few 204 = .ok (.invokevirtual 93, 3) := by decide +kernel
theorem dX11_few_207 : decode cX11_few 207 = .ok (.iinc 2 (-1), 3) := by decide +kernel
theorem dX11_few_210 : decode cX11_few 210 = .ok (.goto (-162), 3) := by decide +kernel
theorem dX11_few_213 : decode cX11_few 213 = .ok (.aload_n 0, 1) := by decide +kernel
theorem dX11_few_214 : decode cX11_few 214 = .ok (.bipush 10, 2) := by decide +kernel
theorem dX11_few_216 : decode cX11_few 216 = .ok (.iload_n 1, 1) := by decide +kernel
theorem dX11_few_217 : decode cX11_few 217 = .ok (.iadd, 1) := by decide +kernel
theorem dX11_few_218 : decode cX11_few 218 = .ok (.bipush 30, 2) := by decide +kernel
theorem dX11_few_220 : decode cX11_few 220 = .ok (.invokevirtual 137, 3) := by decide +kernel
theorem dX11_few_223 : decode cX11_few 223 = .ok (.iconst 1, 1) := by decide +kernel
theorem dX11_few_224 : decode cX11_few 224 = .ok (.ireturn, 1) := by decide +kernel
set_option maxRecDepth 20000 in
theorem ggX11_foresees_X11_set : GoodIn wsX11_foresees wsX11_set := goodIn_r _ [9, 10, 11, 12, 13, 8, 14, 15, 16, 17, 18, 19, 20, 21, 22, 38, 39, 40, 41, 42, 43, 44, 45, 46, 47, 48, 49, 50, 51, 52, 53, 54, 55, 56, 57, 58] (by decide +kernel) (by decide +kernel)
set_option maxRecDepth 20000 in
theorem gX11_foresees_X11_set : GoodIn wsX11_foresees (wsV RX11 60 RX11 yX11_set wsX11_set) := goodIn_app (goodIn_of _ (by decide +kernel)) ggX11_foresees_X11_set
set_option maxRecDepth 20000 in
theorem ggX11_foresees_X11_times : GoodIn wsX11_foresees wsX11_times := goodIn_r _ [26, 10, 11, 12, 13, 8, 14, 15, 16, 17, 18, 19, 20, 21, 22, 38, 39, 40, 41, 42, 43, 44, 45, 46, 47, 48, 49, 50, 51, 52, 53, 54, 55, 56, 57, 58] (by decide +kernel) (by decide +kernel)
set_option maxRecDepth 20000 in
theorem gX11_foresees_X11_times : GoodIn wsX11_foresees (wsV RX11 93 RX11 yX11_times wsX11_times) := goodIn_app (goodIn_of _ (by decide +kernel)) ggX11_foresees_X11_times
set_option maxRecDepth 20000 in
theorem ggX11_foresees_X11_weightOf : GoodIn wsX11_foresees wsX11_weightOf := goodIn_r _ [30, 31, 32, 33, 38, 39, 40, 41, 42, 43, 44, 45, 46, 47, 48, 49, 50, 51, 52, 53, 54, 55, 56, 57, 58] (by decide +kernel) (by decide +kernel)
set_option maxRecDepth 20000 in
theorem gX11_foresees_X11_weightOf : GoodIn wsX11_foresees (wsV RX11 130 RX11 yX11_weightOf wsX11_weightOf) := goodIn_app (goodIn_of _ (by decide +kernel)) ggX11_foresees_X11_weightOf
set_option maxRecDepth 20000 in
theorem ggX11_foresees_X11_more : GoodIn wsX11_foresees wsX11_more := goodIn_r _ [37, 10, 11, 12, 13, 8, 14, 15, 16, 17, 18, 19, 20, 21, 22, 38, 39, 40, 41, 42, 43, 44, 45, 46, 47, 48, 49, 50, 51, 52, 53, 54, 55, 56, 57, 58] (by decide +kernel) (by decide +kernel)
set_option maxRecDepth 20000 in
theorem gX11_foresees_X11_more : GoodIn wsX11_foresees (wsV RX11 87 RX11 yX11_more wsX11_more) := goodIn_app (goodIn_of _ (by decide +kernel)) ggX11_foresees_X11_more
theorem dX11_foresees_0 : decode cX11_foresees 0 = .ok (.aload_n 0, 1) := by decide +kernel
theorem dX11_foresees_1 : decode cX11_foresees 1 = .ok (.iconst 4, 1) := by decide +kernel
theorem dX11_foresees_2 : decode cX11_foresees 2 = .ok (.lconst 0, 1) := by decide +kernel
theorem dX11_foresees_3 : decode cX11_foresees 3 = .ok (.invokevirtual 60, 3) := by decide +kernel
theorem dX11_foresees_6 : decode cX11_foresees 6 = .ok (.aload_n 0, 1) := by decide +kernel
theorem dX11_foresees_7 : decode cX11_foresees 7 = .ok (.iconst 5, 1) := by decide +kernel
theorem dX11_foresees_8 : decode cX11_foresees 8 = .ok (.lconst 1, 1) := by decide +kernel
theorem dX11_foresees_9 : decode cX11_foresees 9 = .ok (.invokevirtual 60, 3) := by decide +kernel
theorem dX11_foresees_12 : decode cX11_foresees 12 = .ok (.iconst 0, 1) := by decide +kernel
theorem dX11_foresees_13 : decode cX11_foresees 13 = .ok (.istore_n 1, 1) := by decide +kernel
theorem dX11_foresees_14 : decode cX11_foresees 14 = .ok (.iload_n 1, 1) := by decide +kernel
theorem dX11_foresees_15 : decode cX11_foresees 15 = .ok (.aload_n 0, 1) := by decide +kernel
theorem dX11_foresees_16 : decode cX11_foresees 16 = .ok (.getfield 127, 3) := by decide +kernel
theorem dX11_foresees_19 : decode cX11_foresees 19 = .ok (.if_icmp .ge 26, 3) := by decide +kernel
theorem dX11_foresees_22 : decode cX11_foresees 22 = .ok (.aload_n 0, 1) := by decide +kernel
theorem dX11_foresees_23 : decode cX11_foresees 23 = .ok (.iconst 5, 1) := by decide +kernel
theorem dX11_foresees_24 : decode cX11_foresees 24 = .ok (.aload_n 0, 1) := by decide +kernel
theorem dX11_foresees_25 : decode cX11_foresees 25 = .ok (.getfield 33, 3) := by decide +kernel
theorem dX11_foresees_28 : decode cX11_foresees 28 = .ok (.aload_n 0, 1) := by decide +kernel
theorem dX11_foresees_29 : decode cX11_foresees 29 = .ok (.getfield 36, 3) := by decide +kernel
theorem dX11_foresees_32 : decode cX11_foresees 32 = .ok (.iload_n 1, 1) := by decide +kernel
theorem dX11_foresees_33 : decode cX11_foresees 33 = .ok (.iaload, 1) := by decide +kernel
theorem dX11_foresees_34 : decode cX11_foresees 34 = .ok (.iaload, 1) := by decide +kernel
theorem dX11_foresees_35 : decode cX11_foresees 35 = .ok (.i2l, 1) := by decide +kernel
theorem dX11_foresees_36 : decode cX11_foresees 36 = .ok (.invokevirtual 93, 3) := by decide +kernel
theorem dX11_foresees_39 : decode cX11_foresees 39 = .ok (.iinc 1 1, 3) := by decide +kernel
theorem dX11_foresees_42 : decode cX11_foresees 42 = .ok (.goto (-28), 3) := by decide +kernel
theorem dX11_foresees_45 : decode cX11_foresees 45 = .ok (.iconst 1, 1) := by decide +kernel
theorem dX11_foresees_46 : decode cX11_foresees 46 = .ok (.istore_n 1, 1) := by decide +kernel
theorem dX11_foresees_47 : decode cX11_foresees 47 = .ok (.iload_n 1, 1) := by decide +kernel
theorem dX11_foresees_48 : decode cX11_foresees 48 = .ok (.sipush 1000, 3) := by decide +kernel
theorem dX11_foresees_51 : decode cX11_foresees 51 = .ok (.if_icmp .gt 77, 3) := by decide +kernel
theorem dX11_foresees_54 : decode cX11_foresees 54 = .ok (.aload_n 0, 1) := by decide +kernel
theorem dX11_foresees_55 : decode cX11_foresees 55 = .ok (.getfield 127, 3) := by decide +kernel
theorem dX11_foresees_58 : decode cX11_foresees 58 = .ok (.ifCond .le 70, 3) := by decide +kernel
theorem dX11_foresees_61 : decode cX11_foresees 61 = .ok (.aload_n 0, 1) := by decide +kernel
theorem dX11_foresees_62 : decode cX11_foresees 62 = .ok (.bipush 6, 2) := by decide +kernel
theorem dX11_foresees_64 : decode cX11_foresees 64 = .ok (.lconst 1, 1) := by decide +kernel
theorem dX11_foresees_65 : decode cX11_foresees 65 = .ok (.invokevirtual 60, 3) := by decide +kernel
theorem dX11_foresees_68 : decode cX11_foresees 68 = .ok (.iconst 0, 1) := by decide +kernel
theorem dX11_foresees_69 : decode cX11_foresees 69 = .ok (.istore_n 2, 1) := by decide +kernel
theorem dX11_foresees_70 : decode cX11_foresees 70 = .ok (.iload_n 2, 1) := by decide +kernel
theorem dX11_foresees_71 : decode cX11_foresees 71 = .ok (.aload_n 0, 1) := by decide +kernel
theorem dX11_foresees_72 : decode cX11_foresees 72 = .ok (.getfield 127, 3) := by decide +kernel
theorem dX11_foresees_75 : decode cX11_foresees 75 = .ok (.if_icmp .ge 30, 3) := by decide +kernel
theorem dX11_foresees_78 : decode cX11_foresees 78 = .ok (.aload_n 0, 1) := by decide +kernel
theorem dX11_foresees_79 : decode cX11_foresees 79 = .ok (.bipush 6, 2) := by decide +kernel
theorem dX11_foresees_81 : decode cX11_foresees 81 = .ok (.aload_n 0, 1) := by decide +kernel
theorem dX11_foresees_82 : decode cX11_foresees 82 = .ok (.aload_n 0, 1) := by decide +kernel
theorem dX11_foresees_83 : decode cX11_foresees 83 = .ok (.getfield 36, 3) := by decide +kernel
theorem dX11_foresees_86 : decode cX11_foresees 86 = .ok (.iload_n 2, 1) := by decide +kernel
theorem dX11_foresees_87 : decode cX11_foresees 87 = .ok (.iaload, 1) := by decide +kernel
theorem dX11_foresees_88 : decode cX11_foresees 88 = .ok (.iconst 0, 1) := by decide +kernel
theorem dX11_foresees_89 : decode cX11_foresees 89 = .ok (.iload_n 1, 1) := by decide +kernel
theorem dX11_foresees_90 : decode cX11_foresees 90 = .ok (.iconst 1, 1) := by decide +kernel
theorem dX11_foresees_91 : decode cX11_foresees 91 = .ok (.isub, 1) := by decide +kernel
theorem dX11_foresees_92 : decode cX11_foresees 92 = .ok (.invokevirtual 130, 3) := by decide +kernel
theorem dX11_foresees_95 : decode cX11_foresees 95 = .ok (.i2l, 1) := by decide +kernel
theorem dX11_foresees_96 : decode cX11_foresees 96 = .ok (.invokevirtual 93, 3) := by decide +kernel
theorem dX11_foresees_99 : decode cX11_foresees 99 = .ok (.iinc 2 1, 3) := by decide +kernel
theorem dX11_foresees_102 : decode cX11_foresees 102 = .ok (.goto (-32), 3) := by decide +kernel
theorem dX11_foresees_105 : decode cX11_foresees 105 = .ok (.aload_n 0, 1) := by decide +kernel
theorem dX11_foresees_106 : decode cX11_foresees 106 = .ok (.iconst 4, 1) := by decide +kernel
theorem dX11_foresees_107 : decode cX11_foresees 107 = .ok (.iconst 5, 1) := by decide +kernel
theorem dX11_foresees_108 : decode cX11_foresees 108 = .ok (.lconst 1, 1) := by decide +kernel
theorem dX11_foresees_109 : decode cX11_foresees 109 = .ok (.invokevirtual 87, 3) := by decide +kernel
theorem dX11_foresees_112 : decode cX11_foresees 112 = .ok (.aload_n 0, 1) := by decide +kernel
theorem dX11_foresees_113 : decode cX11_foresees 113 = .ok (.iconst 4, 1) := by decide +kernel
theorem dX11_foresees_114 : decode cX11_foresees 114 = .ok (.bipush 6, 2) := by decide +kernel
theorem dX11_foresees_116 : decode cX11_foresees 116 = .ok (.ldc2_w 91, 3) := by decide +kernel
theorem dX11_foresees_119 : decode cX11_foresees 119 = .ok (.invokevirtual 87, 3) := by decide +kernel
theorem dX11_foresees_122 : decode cX11_foresees 122 = .ok (.iinc 1 1, 3) := by decide +kernel
theorem dX11_foresees_125 : decode cX11_foresees 125 = .ok (.goto (-78), 3) := by decide +kernel
theorem dX11_foresees_128 : decode cX11_foresees 128 = .ok (.return_, 1) := by decide +kernel
set_option maxRecDepth 20000 in
theorem ggX11_foresight_X11_foresees : GoodIn wsX11_foresight wsX11_foresees := goodIn_r _ [5, 6, 7, 8, 9, 10, 11, 12, 4, 13, 14, 15, 16, 17, 18, 19, 20, 21, 22, 23, 24, 25, 26, 27, 28, 29, 30, 31, 32, 33, 34, 35, 36, 37, 38, 39, 40, 41, 72, 73, 74, 75, 76, 77, 78, 79, 80, 81, 82, 83, 84, 85, 86, 87, 88, 89, 90, 91, 92] (by decide +kernel) (by decide +kernel)
set_option maxRecDepth 20000 in
theorem gX11_foresight_X11_foresees : GoodIn wsX11_foresight (wsV RX11 146 RX11 yX11_foresees wsX11_foresees) := goodIn_app (goodIn_of _ (by decide +kernel)) ggX11_foresight_X11_foresees
set_option maxRecDepth 20000 in
theorem ggX11_foresight_X11_copy : GoodIn wsX11_foresight wsX11_copy := goodIn_r _ [45, 14, 72, 73, 74, 75, 76, 77, 78, 79, 80, 81, 82, 83, 84, 85, 86, 87, 88, 89, 90, 91, 92] (by decide +kernel) (by decide +kernel)
set_option maxRecDepth 20000 in
theorem gX11_foresight_X11_copy : GoodIn wsX11_foresight (wsV RX11 83 RX11 yX11_copy wsX11_copy) := goodIn_app (goodIn_of _ (by decide +kernel)) ggX11_foresight_X11_copy
set_option maxRecDepth 20000 in
theorem ggX11_foresight_X11_result : GoodIn wsX11_foresight wsX11_result := goodIn_r _ [49, 14, 9, 50, 42, 43, 44, 4, 45, 27, 28, 29, 30, 15, 16, 17, 18, 19, 20, 21, 22, 23, 24, 25, 26, 51, 52, 53, 54, 10, 11, 12, 13, 55, 56, 57, 58, 59, 60, 61, 62, 63, 64, 65, 66, 38, 39, 40, 41, 67, 68, 69, 70, 71, 72, 73, 74, 75, 76, 77, 78, 79, 80, 81, 82, 83, 84, 85, 86, 87, 88, 89, 90, 91, 92] (by decide +kernel) (by decide +kernel)
set_option maxRecDepth 20000 in
theorem gX11_foresight_X11_result : GoodIn wsX11_foresight (wsV RX11 137 RX11 yX11_result wsX11_result) := goodIn_app (goodIn_of _ (by decide +kernel)) ggX11_foresight_X11_result
theorem dX11_foresight_0 : decode cX11_foresight 0 = .ok (.aload_n 0, 1) := by decide +kernel
theorem dX11_foresight_1 : decode cX11_foresight 1 = .ok (.invokevirtual 146, 3) := by decide +kernel
theorem dX11_foresight_4 : decode cX11_foresight 4 = .ok (.aload_n 0, 1) := by decide +kernel
theorem dX11_foresight_5 : decode cX11_foresight 5 = .ok (.bipush 10, 2) := by decide +kernel
theorem dX11_foresight_7 : decode cX11_foresight 7 = .ok (.iconst 4, 1) := by decide +kernel
theorem dX11_foresight_8 : decode cX11_foresight 8 = .ok (.invokevirtual 83, 3) := by decide +kernel
theorem dX11_foresight_11 : decode cX11_foresight 11 = .ok (.aload_n 0, 1) := by decide +kernel
theorem dX11_foresight_12 : decode cX11_foresight 12 = .ok (.bipush 11, 2) := by decide +kernel
theorem dX11_foresight_14 : decode cX11_foresight 14 = .ok (.iconst 5, 1) := by decide +kernel
theorem dX11_foresight_15 : decode cX11_foresight 15 = .ok (.invokevirtual 83, 3) := by decide +kernel
theorem dX11_foresight_18 : decode cX11_foresight 18 = .ok (.aload_n 0, 1) := by decide +kernel
theorem dX11_foresight_19 : decode cX11_foresight 19 = .ok (.bipush 10, 2) := by decide +kernel
theorem dX11_foresight_21 : decode cX11_foresight 21 = .ok (.bipush 11, 2) := by decide +kernel
theorem dX11_foresight_23 : decode cX11_foresight 23 = .ok (.invokevirtual 137, 3) := by decide +kernel
theorem dX11_foresight_26 : decode cX11_foresight 26 = .ok (.return_, 1) := by decide +kernel
set_option maxRecDepth 20000 in
theorem ggX11_half_X11_foresees : GoodIn wsX11_half wsX11_foresees := goodIn_r _ [6, 7, 8, 9, 10, 11, 12, 13, 5, 14, 15, 16, 17, 18, 19, 20, 21, 22, 23, 24, 25, 26, 27, 28, 29, 30, 31, 32, 33, 34, 35, 36, 37, 38, 39, 40, 41, 42, 56, 57, 58, 59, 60, 61, 62, 63, 64, 65, 66, 67, 68, 69, 70, 71, 72, 73, 74, 75, 76] (by decide +kernel) (by decide +kernel)
set_option maxRecDepth 20000 in
theorem gX11_half_X11_foresees : GoodIn wsX11_half (wsV RX11 146 RX11 yX11_foresees wsX11_foresees) := goodIn_app (goodIn_of _ (by decide +kernel)) ggX11_half_X11_foresees
set_option maxRecDepth 20000 in
theorem ggX11_half_X11_copy : GoodIn wsX11_half wsX11_copy := goodIn_r _ [46, 15, 56, 57, 58, 59, 60, 61, 62, 63, 64, 65, 66, 67, 68, 69, 70, 71, 72, 73, 74, 75, 76] (by decide +kernel) (by decide +kernel)
set_option maxRecDepth 20000 in
theorem gX11_half_X11_copy : GoodIn wsX11_half (wsV RX11 83 RX11 yX11_copy wsX11_copy) := goodIn_app (goodIn_of _ (by decide +kernel)) ggX11_half_X11_copy
set_option maxRecDepth 20000 in
theorem ggX11_half_X11_worthOf : GoodIn wsX11_half wsX11_worthOf := goodIn_r _ [50, 7, 9, 51, 36, 37, 38, 8, 11, 12, 13, 5, 14, 15, 16, 17, 18, 19, 20, 21, 22, 23, 24, 25, 26, 27, 32, 33, 34, 35, 28, 29, 30, 31, 39, 40, 41, 42, 56, 57, 58, 59, 60, 61, 62, 63, 64, 65, 66, 67, 68, 69, 70, 71, 72, 73, 74, 75, 76] (by decide +kernel) (by decide +kernel)
set_option maxRecDepth 20000 in
theorem gX11_half_X11_worthOf : GoodIn wsX11_half (wsV RX11 134 RX11 yX11_worthOf wsX11_worthOf) := goodIn_app (goodIn_of _ (by decide +kernel)) ggX11_half_X11_worthOf
set_option maxRecDepth 20000 in
theorem ggX11_half_X11_times : GoodIn wsX11_half wsX11_times := goodIn_r _ [31, 15, 16, 17, 18, 5, 19, 20, 21, 22, 23, 24, 25, 26, 27, 56, 57, 58, 59, 60, 61, 62, 63, 64, 65, 66, 67, 68, 69, 70, 71, 72, 73, 74, 75, 76] (by decide +kernel) (by decide +kernel)
set_option maxRecDepth 20000 in
theorem gX11_half_X11_times : GoodIn wsX11_half (wsV RX11 93 RX11 yX11_times wsX11_times) := goodIn_app (goodIn_of _ (by decide +kernel)) ggX11_half_X11_times
set_option maxRecDepth 20000 in
theorem ggX11_half_X11_compared : GoodIn wsX11_half wsX11_compared := goodIn_r _ [55, 15, 56, 57, 58, 59, 60, 61, 62, 63, 64, 65, 66, 67, 68, 69, 70, 71, 72, 73, 74, 75, 76] (by decide +kernel) (by decide +kernel)
set_option maxRecDepth 20000 in
theorem gX11_half_X11_compared : GoodIn wsX11_half (wsV RX11 106 RX11 yX11_compared wsX11_compared) := goodIn_app (goodIn_of _ (by decide +kernel)) ggX11_half_X11_compared
theorem dX11_half_0 : decode cX11_half 0 = .ok (.aload_n 0, 1) := by decide +kernel
theorem dX11_half_1 : decode cX11_half 1 = .ok (.invokevirtual 146, 3) := by decide +kernel
theorem dX11_half_4 : decode cX11_half 4 = .ok (.aload_n 0, 1) := by decide +kernel
theorem dX11_half_5 : decode cX11_half 5 = .ok (.bipush 10, 2) := by decide +kernel
theorem dX11_half_7 : decode cX11_half 7 = .ok (.iconst 4, 1) := by decide +kernel
theorem dX11_half_8 : decode cX11_half 8 = .ok (.invokevirtual 83, 3) := by decide +kernel
theorem dX11_half_11 : decode cX11_half 11 = .ok (.iconst 0, 1) := by decide +kernel
theorem dX11_half_12 : decode cX11_half 12 = .ok (.istore_n 1, 1) := by decide +kernel
theorem dX11_half_13 : decode cX11_half 13 = .ok (.iload_n 1, 1) := by decide +kernel
theorem dX11_half_14 : decode cX11_half 14 = .ok (.sipush 1001, 3) := by decide +kernel
theorem dX11_half_17 : decode cX11_half 17 = .ok (.if_icmp .gt 34, 3) := by decide +kernel
theorem dX11_half_20 : decode cX11_half 20 = .ok (.aload_n 0, 1) := by decide +kernel
theorem dX11_half_21 : decode cX11_half 21 = .ok (.iload_n 1, 1) := by decide +kernel
theorem dX11_half_22 : decode cX11_half 22 = .ok (.invokevirtual 134, 3) := by decide +kernel
theorem dX11_half_25 : decode cX11_half 25 = .ok (.aload_n 0, 1) := by decide +kernel
theorem dX11_half_26 : decode cX11_half 26 = .ok (.iconst 2, 1) := by decide +kernel
theorem dX11_half_27 : decode cX11_half 27 = .ok (.ldc2_w 79, 3) := by decide +kernel
theorem dX11_half_30 : decode cX11_half 30 = .ok (.invokevirtual 93, 3) := by decide +kernel
theorem dX11_half_33 : decode cX11_half 33 = .ok (.aload_n 0, 1) := by decide +kernel
theorem dX11_half_34 : decode cX11_half 34 = .ok (.iconst 2, 1) := by decide +kernel
theorem dX11_half_35 : decode cX11_half 35 = .ok (.bipush 10, 2) := by decide +kernel
theorem dX11_half_37 : decode cX11_half 37 = .ok (.invokevirtual 106, 3) := by decide +kernel
theorem dX11_half_40 : decode cX11_half 40 = .ok (.ifCond .lt 5, 3) := by decide +kernel
theorem dX11_half_43 : decode cX11_half 43 = .ok (.iload_n 1, 1) := by decide +kernel
theorem dX11_half_44 : decode cX11_half 44 = .ok (.ireturn, 1) := by decide +kernel
theorem dX11_half_45 : decode cX11_half 45 = .ok (.iinc 1 1, 3) := by decide +kernel
theorem dX11_half_48 : decode cX11_half 48 = .ok (.goto (-35), 3) := by decide +kernel
theorem dX11_half_51 : decode cX11_half 51 = .ok (.iconst (-1), 1) := by decide +kernel
theorem dX11_half_52 : decode cX11_half 52 = .ok (.ireturn, 1) := by decide +kernel
set_option maxRecDepth 20000 in
theorem ggX11_common_X11_common : GoodIn wsX11_common wsX11_common := goodIn_r _ [0, 1, 2, 3] (by decide +kernel) (by decide +kernel)
set_option maxRecDepth 20000 in
theorem gX11_common_X11_common : GoodIn wsX11_common (va_wsS RX11 149 yX11_common wsX11_common) := goodIn_app (goodIn_of _ (by decide +kernel)) ggX11_common_X11_common
theorem dX11_common_0 : decode cX11_common 0 = .ok (.iload_n 1, 1) := by decide +kernel
theorem dX11_common_1 : decode cX11_common 1 = .ok (.ifCond .ne 7, 3) := by decide +kernel
theorem dX11_common_4 : decode cX11_common 4 = .ok (.iload_n 0, 1) := by decide +kernel
theorem dX11_common_5 : decode cX11_common 5 = .ok (.goto 10, 3) := by decide +kernel
theorem dX11_common_8 : decode cX11_common 8 = .ok (.iload_n 1, 1) := by decide +kernel
theorem dX11_common_9 : decode cX11_common 9 = .ok (.iload_n 0, 1) := by decide +kernel
theorem dX11_common_10 : decode cX11_common 10 = .ok (.iload_n 1, 1) := by decide +kernel
theorem dX11_common_11 : decode cX11_common 11 = .ok (.irem, 1) := by decide +kernel
theorem dX11_common_12 : decode cX11_common 12 = .ok (.invokestatic 149, 3) := by decide +kernel
theorem dX11_common_15 : decode cX11_common 15 = .ok (.ireturn, 1) := by decide +kernel
set_option maxRecDepth 20000 in
theorem ggX11_multiple_X11_set : GoodIn wsX11_multiple wsX11_set := goodIn_r _ [7, 2, 8, 9, 10, 6, 11, 1, 12, 13, 14, 15, 16, 17, 18, 30, 31, 32, 33, 34, 35, 36, 37, 38, 39, 40, 41, 42, 43, 44, 45, 46, 47, 48, 49, 50] (by decide +kernel) (by decide +kernel)
set_option maxRecDepth 20000 in
theorem gX11_multiple_X11_set : GoodIn wsX11_multiple (wsV RX11 60 RX11 yX11_set wsX11_set) := goodIn_app (goodIn_of _ (by decide +kernel)) ggX11_multiple_X11_set
set_option maxRecDepth 20000 in
theorem ggX11_multiple_X11_copy : GoodIn wsX11_multiple wsX11_copy := goodIn_r _ [22, 2, 30, 31, 32, 33, 34, 35, 36, 37, 38, 39, 40, 41, 42, 43, 44, 45, 46, 47, 48, 49, 50] (by decide +kernel) (by decide +kernel)
set_option maxRecDepth 20000 in
theorem gX11_multiple_X11_copy : GoodIn wsX11_multiple (wsV RX11 83 RX11 yX11_copy wsX11_copy) := goodIn_app (goodIn_of _ (by decide +kernel)) ggX11_multiple_X11_copy
set_option maxRecDepth 20000 in
theorem ggX11_multiple_X11_common : GoodIn wsX11_multiple wsX11_common := goodIn_r _ [25, 23, 24, 6] (by decide +kernel) (by decide +kernel)
set_option maxRecDepth 20000 in
theorem gX11_multiple_X11_common : GoodIn wsX11_multiple (va_wsS RX11 149 yX11_common wsX11_common) := goodIn_app (goodIn_of _ (by decide +kernel)) ggX11_multiple_X11_common
set_option maxRecDepth 20000 in
theorem ggX11_multiple_X11_times : GoodIn wsX11_multiple wsX11_times := goodIn_r _ [29, 2, 8, 9, 10, 6, 11, 1, 12, 13, 14, 15, 16, 17, 18, 30, 31, 32, 33, 34, 35, 36, 37, 38, 39, 40, 41, 42, 43, 44, 45, 46, 47, 48, 49, 50] (by decide +kernel) (by decide +kernel)
set_option maxRecDepth 20000 in
theorem gX11_multiple_X11_times : GoodIn wsX11_multiple (wsV RX11 93 RX11 yX11_times wsX11_times) := goodIn_app (goodIn_of _ (by decide +kernel)) ggX11_multiple_X11_times
theorem dX11_multiple_0 : decode cX11_multiple 0 = .ok (.aload_n 0, 1) := by decide +kernel
theorem dX11_multiple_1 : decode cX11_multiple 1 = .ok (.iload_n 1, 1) := by decide +kernel
theorem dX11_multiple_2 : decode cX11_multiple 2 = .ok (.lconst 1, 1) := by decide +kernel
theorem dX11_multiple_3 : decode cX11_multiple 3 = .ok (.invokevirtual 60, 3) := by decide +kernel
theorem dX11_multiple_6 : decode cX11_multiple 6 = .ok (.iconst 2, 1) := by decide +kernel
theorem dX11_multiple_7 : decode cX11_multiple 7 = .ok (.istore_n 3, 1) := by decide +kernel
theorem dX11_multiple_8 : decode cX11_multiple 8 = .ok (.iload_n 3, 1) := by decide +kernel
theorem dX11_multiple_9 : decode cX11_multiple 9 = .ok (.iload_n 2, 1) := by decide +kernel
theorem dX11_multiple_10 : decode cX11_multiple 10 = .ok (.if_icmp .ge 71, 3) := by decide +kernel
theorem dX11_multiple_13 : decode cX11_multiple 13 = .ok (.aload_n 0, 1) := by decide +kernel
theorem dX11_multiple_14 : decode cX11_multiple 14 = .ok (.bipush 6, 2) := by decide +kernel
theorem dX11_multiple_16 : decode cX11_multiple 16 = .ok (.iload_n 1, 1) := by decide +kernel
theorem dX11_multiple_17 : decode cX11_multiple 17 = .ok (.invokevirtual 83, 3) := by decide +kernel
theorem dX11_multiple_20 : decode cX11_multiple 20 = .ok (.lconst 0, 1) := by decide +kernel
theorem dX11_multiple_21 : decode cX11_multiple 21 = .ok (.lstore 4, 2) := by decide +kernel
theorem dX11_multiple_23 : decode cX11_multiple 23 = .ok (.bipush 9, 2) := by decide +kernel
