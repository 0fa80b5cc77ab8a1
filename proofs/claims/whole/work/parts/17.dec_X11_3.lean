theorem dX11_placeOf_8 : decode cX11_placeOf 8 = .ok (.iload_n 1, 1) := by decide +kernel
theorem dX11_placeOf_9 : decode cX11_placeOf 9 = .ok (.if_icmp .eq 9, 3) := by decide +kernel
theorem dX11_placeOf_12 : decode cX11_placeOf 12 = .ok (.iinc 2 1, 3) := by decide +kernel
theorem dX11_placeOf_15 : decode cX11_placeOf 15 = .ok (.goto (-13), 3) := by decide +kernel
theorem dX11_placeOf_18 : decode cX11_placeOf 18 = .ok (.iload_n 2, 1) := by decide +kernel
theorem dX11_placeOf_19 : decode cX11_placeOf 19 = .ok (.ireturn, 1) := by decide +kernel
set_option maxRecDepth 20000 in
theorem ggX11_search_X11_set : GoodIn wsX11_search wsX11_set := goodIn_r _ [18, 19, 20, 21, 22, 17, 23, 24, 25, 26, 27, 28, 29, 30, 31, 75, 76, 77, 78, 79, 80, 81, 82, 83, 84, 85, 86, 87, 88, 89, 90, 91, 92, 93, 94, 95] (by decide +kernel) (by decide +kernel)
set_option maxRecDepth 20000 in
theorem gX11_search_X11_set : GoodIn wsX11_search (wsV RX11 60 RX11 yX11_set wsX11_set) := goodIn_app (goodIn_of _ (by decide +kernel)) ggX11_search_X11_set
set_option maxRecDepth 20000 in
theorem ggX11_search_X11_times : GoodIn wsX11_search wsX11_times := goodIn_r _ [35, 19, 20, 21, 22, 17, 23, 24, 25, 26, 27, 28, 29, 30, 31, 75, 76, 77, 78, 79, 80, 81, 82, 83, 84, 85, 86, 87, 88, 89, 90, 91, 92, 93, 94, 95] (by decide +kernel) (by decide +kernel)
set_option maxRecDepth 20000 in
theorem gX11_search_X11_times : GoodIn wsX11_search (wsV RX11 93 RX11 yX11_times wsX11_times) := goodIn_app (goodIn_of _ (by decide +kernel)) ggX11_search_X11_times
set_option maxRecDepth 20000 in
theorem ggX11_search_X11_more : GoodIn wsX11_search wsX11_more := goodIn_r _ [39, 19, 20, 21, 22, 17, 23, 24, 25, 26, 27, 28, 29, 30, 31, 75, 76, 77, 78, 79, 80, 81, 82, 83, 84, 85, 86, 87, 88, 89, 90, 91, 92, 93, 94, 95] (by decide +kernel) (by decide +kernel)
set_option maxRecDepth 20000 in
theorem gX11_search_X11_more : GoodIn wsX11_search (wsV RX11 87 RX11 yX11_more wsX11_more) := goodIn_app (goodIn_of _ (by decide +kernel)) ggX11_search_X11_more
set_option maxRecDepth 20000 in
theorem ggX11_search_X11_placeOf : GoodIn wsX11_search wsX11_placeOf := goodIn_r _ [43, 6, 75, 76, 77, 78, 79, 80, 81, 82, 83, 84, 85, 86, 87, 88, 89, 90, 91, 92, 93, 94, 95] (by decide +kernel) (by decide +kernel)
set_option maxRecDepth 20000 in
theorem gX11_search_X11_placeOf : GoodIn wsX11_search (wsV RX11 178 RX11 yX11_placeOf wsX11_placeOf) := goodIn_app (goodIn_of _ (by decide +kernel)) ggX11_search_X11_placeOf
set_option maxRecDepth 20000 in
theorem ggX11_search_X11_compared : GoodIn wsX11_search wsX11_compared := goodIn_r _ [47, 19, 75, 76, 77, 78, 79, 80, 81, 82, 83, 84, 85, 86, 87, 88, 89, 90, 91, 92, 93, 94, 95] (by decide +kernel) (by decide +kernel)
set_option maxRecDepth 20000 in
theorem gX11_search_X11_compared : GoodIn wsX11_search (wsV RX11 106 RX11 yX11_compared wsX11_compared) := goodIn_app (goodIn_of _ (by decide +kernel)) ggX11_search_X11_compared
set_option maxRecDepth 20000 in
theorem ggX11_search_X11_copy : GoodIn wsX11_search wsX11_copy := goodIn_r _ [51, 19, 75, 76, 77, 78, 79, 80, 81, 82, 83, 84, 85, 86, 87, 88, 89, 90, 91, 92, 93, 94, 95] (by decide +kernel) (by decide +kernel)
set_option maxRecDepth 20000 in
theorem gX11_search_X11_copy : GoodIn wsX11_search (wsV RX11 83 RX11 yX11_copy wsX11_copy) := goodIn_app (goodIn_of _ (by decide +kernel)) ggX11_search_X11_copy
set_option maxRecDepth 20000 in
theorem ggX11_search_X11_result : GoodIn wsX11_search wsX11_result := goodIn_r _ [55, 19, 56, 57, 48, 49, 50, 17, 51, 32, 33, 34, 35, 20, 21, 22, 23, 24, 25, 26, 27, 28, 29, 30, 31, 58, 59, 60, 61, 14, 15, 16, 18, 62, 63, 64, 65, 66, 67, 68, 69, 44, 45, 46, 47, 36, 37, 38, 39, 70, 71, 72, 73, 74, 75, 76, 77, 78, 79, 80, 81, 82, 83, 84, 85, 86, 87, 88, 89, 90, 91, 92, 93, 94, 95] (by decide +kernel) (by decide +kernel)
set_option maxRecDepth 20000 in
theorem gX11_search_X11_result : GoodIn wsX11_search (wsV RX11 137 RX11 yX11_result wsX11_result) := goodIn_app (goodIn_of _ (by decide +kernel)) ggX11_search_X11_result
theorem dX11_search_0 : decode cX11_search 0 = .ok (.aload_n 0, 1) := by decide +kernel
theorem dX11_search_1 : decode cX11_search 1 = .ok (.iconst 0, 1) := by decide +kernel
theorem dX11_search_2 : decode cX11_search 2 = .ok (.putfield 175, 3) := by decide +kernel
theorem dX11_search_5 : decode cX11_search 5 = .ok (.iconst 0, 1) := by decide +kernel
theorem dX11_search_6 : decode cX11_search 6 = .ok (.istore_n 1, 1) := by decide +kernel
theorem dX11_search_7 : decode cX11_search 7 = .ok (.iload_n 1, 1) := by decide +kernel
theorem dX11_search_8 : decode cX11_search 8 = .ok (.sipush 1000, 3) := by decide +kernel
theorem dX11_search_11 : decode cX11_search 11 = .ok (.if_icmp .gt 123, 3) := by decide +kernel
theorem dX11_search_14 : decode cX11_search 14 = .ok (.iload_n 1, 1) := by decide +kernel
theorem dX11_search_15 : decode cX11_search 15 = .ok (.ifCond .ne 7, 3) := by decide +kernel
theorem dX11_search_18 : decode cX11_search 18 = .ok (.iconst 1, 1) := by decide +kernel
theorem dX11_search_19 : decode cX11_search 19 = .ok (.goto 4, 3) := by decide +kernel
theorem dX11_search_22 : decode cX11_search 22 = .ok (.iconst 0, 1) := by decide +kernel
theorem dX11_search_23 : decode cX11_search 23 = .ok (.istore_n 2, 1) := by decide +kernel
theorem dX11_search_24 : decode cX11_search 24 = .ok (.iconst 0, 1) := by decide +kernel
theorem dX11_search_25 : decode cX11_search 25 = .ok (.istore_n 3, 1) := by decide +kernel
theorem dX11_search_26 : decode cX11_search 26 = .ok (.iload_n 3, 1) := by decide +kernel
theorem dX11_search_27 : decode cX11_search 27 = .ok (.aload_n 0, 1) := by decide +kernel
theorem dX11_search_28 : decode cX11_search 28 = .ok (.getfield 172, 3) := by decide +kernel
theorem dX11_search_31 : decode cX11_search 31 = .ok (.if_icmp .ge 73, 3) := by decide +kernel
theorem dX11_search_34 : decode cX11_search 34 = .ok (.bipush 8, 2) := by decide +kernel
theorem dX11_search_36 : decode cX11_search 36 = .ok (.aload_n 0, 1) := by decide +kernel
theorem dX11_search_37 : decode cX11_search 37 = .ok (.getfield 51, 3) := by decide +kernel
theorem dX11_search_40 : decode cX11_search 40 = .ok (.iload_n 3, 1) := by decide +kernel
theorem dX11_search_41 : decode cX11_search 41 = .ok (.iaload, 1) := by decide +kernel
theorem dX11_search_42 : decode cX11_search 42 = .ok (.imul, 1) := by decide +kernel
theorem dX11_search_43 : decode cX11_search 43 = .ok (.istore 4, 2) := by decide +kernel
theorem dX11_search_45 : decode cX11_search 45 = .ok (.iload 4, 2) := by decide +kernel
theorem dX11_search_47 : decode cX11_search 47 = .ok (.bipush 8, 2) := by decide +kernel
theorem dX11_search_49 : decode cX11_search 49 = .ok (.aload_n 0, 1) := by decide +kernel
theorem dX11_search_50 : decode cX11_search 50 = .ok (.getfield 51, 3) := by decide +kernel
theorem dX11_search_53 : decode cX11_search 53 = .ok (.iload_n 3, 1) := by decide +kernel
theorem dX11_search_54 : decode cX11_search 54 = .ok (.iaload, 1) := by decide +kernel
theorem dX11_search_55 : decode cX11_search 55 = .ok (.imul, 1) := by decide +kernel
theorem dX11_search_56 : decode cX11_search 56 = .ok (.aload_n 0, 1) := by decide +kernel
theorem dX11_search_57 : decode cX11_search 57 = .ok (.getfield 24, 3) := by decide +kernel
theorem dX11_search_60 : decode cX11_search 60 = .ok (.aload_n 0, 1) := by decide +kernel
theorem dX11_search_61 : decode cX11_search 61 = .ok (.getfield 51, 3) := by decide +kernel
theorem dX11_search_64 : decode cX11_search 64 = .ok (.iload_n 3, 1) := by decide +kernel
theorem dX11_search_65 : decode cX11_search 65 = .ok (.iaload, 1) := by decide +kernel
theorem dX11_search_66 : decode cX11_search 66 = .ok (.iaload, 1) := by decide +kernel
theorem dX11_search_67 : decode cX11_search 67 = .ok (.iadd, 1) := by decide +kernel
theorem dX11_search_68 : decode cX11_search 68 = .ok (.if_icmp .ge 30, 3) := by decide +kernel
theorem dX11_search_71 : decode cX11_search 71 = .ok (.iload_n 2, 1) := by decide +kernel
theorem dX11_search_72 : decode cX11_search 72 = .ok (.ifCond .ne 14, 3) := by decide +kernel
theorem dX11_search_75 : decode cX11_search 75 = .ok (.aload_n 0, 1) := by decide +kernel
theorem dX11_search_76 : decode cX11_search 76 = .ok (.getfield 27, 3) := by decide +kernel
theorem dX11_search_79 : decode cX11_search 79 = .ok (.iload 4, 2) := by decide +kernel
theorem dX11_search_81 : decode cX11_search 81 = .ok (.iaload, 1) := by decide +kernel
theorem dX11_search_82 : decode cX11_search 82 = .ok (.iload_n 1, 1) := by decide +kernel
theorem dX11_search_83 : decode cX11_search 83 = .ok (.if_icmp .ne 7, 3) := by decide +kernel
theorem dX11_search_86 : decode cX11_search 86 = .ok (.iconst 1, 1) := by decide +kernel
theorem dX11_search_87 : decode cX11_search 87 = .ok (.goto 4, 3) := by decide +kernel
theorem dX11_search_90 : decode cX11_search 90 = .ok (.iconst 0, 1) := by decide +kernel
theorem dX11_search_91 : decode cX11_search 91 = .ok (.istore_n 2, 1) := by decide +kernel
theorem dX11_search_92 : decode cX11_search 92 = .ok (.iinc 4 1, 3) := by decide +kernel
theorem dX11_search_95 : decode cX11_search 95 = .ok (.goto (-50), 3) := by decide +kernel
theorem dX11_search_98 : decode cX11_search 98 = .ok (.iinc 3 1, 3) := by decide +kernel
theorem dX11_search_101 : decode cX11_search 101 = .ok (.goto (-75), 3) := by decide +kernel
theorem dX11_search_104 : decode cX11_search 104 = .ok (.iload_n 2, 1) := by decide +kernel
theorem dX11_search_105 : decode cX11_search 105 = .ok (.ifCond .eq 23, 3) := by decide +kernel
theorem dX11_search_108 : decode cX11_search 108 = .ok (.aload_n 0, 1) := by decide +kernel
theorem dX11_search_109 : decode cX11_search 109 = .ok (.getfield 57, 3) := by decide +kernel
theorem dX11_search_112 : decode cX11_search 112 = .ok (.aload_n 0, 1) := by decide +kernel
theorem dX11_search_113 : decode cX11_search 113 = .ok (.getfield 175, 3) := by decide +kernel
theorem dX11_search_116 : decode cX11_search 116 = .ok (.iload_n 1, 1) := by decide +kernel
theorem dX11_search_117 : decode cX11_search 117 = .ok (.iastore, 1) := by decide +kernel
theorem dX11_search_118 : decode cX11_search 118 = .ok (.aload_n 0, 1) := by decide +kernel
theorem dX11_search_119 : decode cX11_search 119 = .ok (.dup, 1) := by decide +kernel
theorem dX11_search_120 : decode cX11_search 120 = .ok (.getfield 175, 3) := by decide +kernel
theorem dX11_search_123 : decode cX11_search 123 = .ok (.iconst 1, 1) := by decide +kernel
theorem dX11_search_124 : decode cX11_search 124 = .ok (.iadd, 1) := by decide +kernel
theorem dX11_search_125 : decode cX11_search 125 = .ok (.putfield 175, 3) := by decide +kernel
theorem dX11_search_128 : decode cX11_search 128 = .ok (.iinc 1 1, 3) := by decide +kernel
theorem dX11_search_131 : decode cX11_search 131 = .ok (.goto (-124), 3) := by decide +kernel
theorem dX11_search_134 : decode cX11_search 134 = .ok (.iconst 1, 1) := by decide +kernel
theorem dX11_search_135 : decode cX11_search 135 = .ok (.aload_n 0, 1) := by decide +kernel
theorem dX11_search_136 : decode cX11_search 136 = .ok (.getfield 172, 3) := by decide +kernel
theorem dX11_search_139 : decode cX11_search 139 = .ok (.ishl, 1) := by decide +kernel
theorem dX11_search_140 : decode cX11_search 140 = .ok (.iconst 1, 1) := by decide +kernel
theorem dX11_search_141 : decode cX11_search 141 = .ok (.isub, 1) := by decide +kernel
theorem dX11_search_142 : decode cX11_search 142 = .ok (.istore_n 1, 1) := by decide +kernel
theorem dX11_search_143 : decode cX11_search 143 = .ok (.iload_n 1, 1) := by decide +kernel
theorem dX11_search_144 : decode cX11_search 144 = .ok (.istore_n 2, 1) := by decide +kernel
theorem dX11_search_145 : decode cX11_search 145 = .ok (.iload_n 2, 1) := by decide +kernel
theorem dX11_search_146 : decode cX11_search 146 = .ok (.ifCond .lt 264, 3) := by decide +kernel
theorem dX11_search_149 : decode cX11_search 149 = .ok (.aload_n 0, 1) := by decide +kernel
theorem dX11_search_150 : decode cX11_search 150 = .ok (.iconst 3, 1) := by decide +kernel
theorem dX11_search_151 : decode cX11_search 151 = .ok (.lconst 1, 1) := by decide +kernel
theorem dX11_search_152 : decode cX11_search 152 = .ok (.invokevirtual 60, 3) := by decide +kernel
theorem dX11_search_155 : decode cX11_search 155 = .ok (.iconst 0, 1) := by decide +kernel
theorem dX11_search_156 : decode cX11_search 156 = .ok (.istore_n 3, 1) := by decide +kernel
theorem dX11_search_157 : decode cX11_search 157 = .ok (.iload_n 3, 1) := by decide +kernel
theorem dX11_search_158 : decode cX11_search 158 = .ok (.aload_n 0, 1) := by decide +kernel
theorem dX11_search_159 : decode cX11_search 159 = .ok (.getfield 172, 3) := by decide +kernel
theorem dX11_search_162 : decode cX11_search 162 = .ok (.if_icmp .ge 34, 3) := by decide +kernel
theorem dX11_search_165 : decode cX11_search 165 = .ok (.iload_n 2, 1) := by decide +kernel
theorem dX11_search_166 : decode cX11_search 166 = .ok (.iload_n 3, 1) := by decide +kernel
theorem dX11_search_167 : decode cX11_search 167 = .ok (.ishr, 1) := by decide +kernel
theorem dX11_search_168 : decode cX11_search 168 = .ok (.iconst 1, 1) := by decide +kernel
theorem dX11_search_169 : decode cX11_search 169 = .ok (.iand, 1) := by decide +kernel
theorem dX11_search_170 : decode cX11_search 170 = .ok (.ifCond .ne 20, 3) := by decide +kernel
theorem dX11_search_173 : decode cX11_search 173 = .ok (.aload_n 0, 1) := by decide +kernel
theorem dX11_search_174 : decode cX11_search 174 = .ok (.iconst 3, 1) := by decide +kernel
theorem dX11_search_175 : decode cX11_search 175 = .ok (.aload_n 0, 1) := by decide +kernel
theorem dX11_search_176 : decode cX11_search 176 = .ok (.getfield 33, 3) := by decide +kernel
theorem dX11_search_179 : decode cX11_search 179 = .ok (.aload_n 0, 1) := by decide +kernel
theorem dX11_search_180 : decode cX11_search 180 = .ok (.getfield 51, 3) := by decide +kernel
theorem dX11_search_183 : decode cX11_search 183 = .ok (.iload_n 3, 1) := by decide +kernel
theorem dX11_search_184 : decode cX11_search 184 = .ok (.iaload, 1) := by decide +kernel
theorem dX11_search_185 : decode cX11_search 185 = .ok (.iaload, 1) := by decide +kernel
theorem dX11_search_186 : decode cX11_search 186 = .ok (.i2l, 1) := by decide +kernel
theorem dX11_search_187 : decode cX11_search 187 = .ok (.invokevirtual 93, 3) := by decide +kernel
theorem dX11_search_190 : decode cX11_search 190 = .ok (.iinc 3 1, 3) := by decide +kernel
theorem dX11_search_193 : decode cX11_search 193 = .ok (.goto (-36), 3) := by decide +kernel
theorem dX11_search_196 : decode cX11_search 196 = .ok (.iconst 0, 1) := by decide +kernel
theorem dX11_search_197 : decode cX11_search 197 = .ok (.istore_n 3, 1) := by decide +kernel
theorem dX11_search_198 : decode cX11_search 198 = .ok (.iload_n 3, 1) := by decide +kernel
theorem dX11_search_199 : decode cX11_search 199 = .ok (.aload_n 0, 1) := by decide +kernel
theorem dX11_search_200 : decode cX11_search 200 = .ok (.getfield 175, 3) := by decide +kernel
theorem dX11_search_203 : decode cX11_search 203 = .ok (.if_icmp .ge 201, 3) := by decide +kernel
theorem dX11_search_206 : decode cX11_search 206 = .ok (.bipush 10, 2) := by decide +kernel
theorem dX11_search_208 : decode cX11_search 208 = .ok (.bipush 50, 2) := by decide +kernel
theorem dX11_search_210 : decode cX11_search 210 = .ok (.iload_n 2, 1) := by decide +kernel
theorem dX11_search_211 : decode cX11_search 211 = .ok (.imul, 1) := by decide +kernel
theorem dX11_search_212 : decode cX11_search 212 = .ok (.iadd, 1) := by decide +kernel
theorem dX11_search_213 : decode cX11_search 213 = .ok (.iload_n 3, 1) := by decide +kernel
theorem dX11_search_214 : decode cX11_search 214 = .ok (.iadd, 1) := by decide +kernel
theorem dX11_search_215 : decode cX11_search 215 = .ok (.istore 4, 2) := by decide +kernel
theorem dX11_search_217 : decode cX11_search 217 = .ok (.aload_n 0, 1) := by decide +kernel
theorem dX11_search_218 : decode cX11_search 218 = .ok (.iload 4, 2) := by decide +kernel
theorem dX11_search_220 : decode cX11_search 220 = .ok (.lconst 0, 1) := by decide +kernel
theorem dX11_search_221 : decode cX11_search 221 = .ok (.invokevirtual 60, 3) := by decide +kernel
theorem dX11_search_224 : decode cX11_search 224 = .ok (.aload_n 0, 1) := by decide +kernel
theorem dX11_search_225 : decode cX11_search 225 = .ok (.iload 4, 2) := by decide +kernel
theorem dX11_search_227 : decode cX11_search 227 = .ok (.iconst 3, 1) := by decide +kernel
theorem dX11_search_228 : decode cX11_search 228 = .ok (.aload_n 0, 1) := by decide +kernel
theorem dX11_search_229 : decode cX11_search 229 = .ok (.getfield 57, 3) := by decide +kernel
theorem dX11_search_232 : decode cX11_search 232 = .ok (.iload_n 3, 1) := by decide +kernel
theorem dX11_search_233 : decode cX11_search 233 = .ok (.iaload, 1) := by decide +kernel
theorem dX11_search_234 : decode cX11_search 234 = .ok (.i2l, 1) := by decide +kernel
theorem dX11_search_235 : decode cX11_search 235 = .ok (.invokevirtual 87, 3) := by decide +kernel
theorem dX11_search_238 : decode cX11_search 238 = .ok (.iconst 0, 1) := by decide +kernel
theorem dX11_search_239 : decode cX11_search 239 = .ok (.istore 5, 2) := by decide +kernel
theorem dX11_search_241 : decode cX11_search 241 = .ok (.iload 5, 2) := by decide +kernel
theorem dX11_search_243 : decode cX11_search 243 = .ok (.aload_n 0, 1) := by decide +kernel
theorem dX11_search_244 : decode cX11_search 244 = .ok (.getfield 172, 3) := by decide +kernel
theorem dX11_search_247 : decode cX11_search 247 = .ok (.if_icmp .ge 151, 3) := by decide +kernel
theorem dX11_search_250 : decode cX11_search 250 = .ok (.iload_n 2, 1) := by decide +kernel
theorem dX11_search_251 : decode cX11_search 251 = .ok (.iload 5, 2) := by decide +kernel
theorem dX11_search_253 : decode cX11_search 253 = .ok (.ishr, 1) := by decide +kernel
theorem dX11_search_254 : decode cX11_search 254 = .ok (.iconst 1, 1) := by decide +kernel
theorem dX11_search_255 : decode cX11_search 255 = .ok (.iand, 1) := by decide +kernel
theorem dX11_search_256 : decode cX11_search 256 = .ok (.iconst 1, 1) := by decide +kernel
theorem dX11_search_257 : decode cX11_search 257 = .ok (.if_icmp .ne 6, 3) := by decide +kernel
theorem dX11_search_260 : decode cX11_search 260 = .ok (.goto 132, 3) := by decide +kernel
theorem dX11_search_263 : decode cX11_search 263 = .ok (.aload_n 0, 1) := by decide +kernel
theorem dX11_search_264 : decode cX11_search 264 = .ok (.iconst 2, 1) := by decide +kernel
theorem dX11_search_265 : decode cX11_search 265 = .ok (.lconst 0, 1) := by decide +kernel
theorem dX11_search_266 : decode cX11_search 266 = .ok (.invokevirtual 60, 3) := by decide +kernel
theorem dX11_search_269 : decode cX11_search 269 = .ok (.aload_n 0, 1) := by decide +kernel
theorem dX11_search_270 : decode cX11_search 270 = .ok (.iconst 2, 1) := by decide +kernel
theorem dX11_search_271 : decode cX11_search 271 = .ok (.iconst 3, 1) := by decide +kernel
theorem dX11_search_272 : decode cX11_search 272 = .ok (.aload_n 0, 1) := by decide +kernel
theorem dX11_search_273 : decode cX11_search 273 = .ok (.getfield 54, 3) := by decide +kernel
theorem dX11_search_276 : decode cX11_search 276 = .ok (.iload 5, 2) := by decide +kernel
theorem dX11_search_278 : decode cX11_search 278 = .ok (.iaload, 1) := by decide +kernel
theorem dX11_search_279 : decode cX11_search 279 = .ok (.ineg, 1) := by decide +kernel
theorem dX11_search_280 : decode cX11_search 280 = .ok (.i2l, 1) := by decide +kernel
theorem dX11_search_281 : decode cX11_search 281 = .ok (.invokevirtual 87, 3) := by decide +kernel
theorem dX11_search_284 : decode cX11_search 284 = .ok (.bipush 8, 2) := by decide +kernel
theorem dX11_search_286 : decode cX11_search 286 = .ok (.aload_n 0, 1) := by decide +kernel
theorem dX11_search_287 : decode cX11_search 287 = .ok (.getfield 51, 3) := by decide +kernel
theorem dX11_search_290 : decode cX11_search 290 = .ok (.iload 5, 2) := by decide +kernel
theorem dX11_search_292 : decode cX11_search 292 = .ok (.iaload, 1) := by decide +kernel
theorem dX11_search_293 : decode cX11_search 293 = .ok (.imul, 1) := by decide +kernel
theorem dX11_search_294 : decode cX11_search 294 = .ok (.istore 6, 2) := by decide +kernel
theorem dX11_search_296 : decode cX11_search 296 = .ok (.iload 6, 2) := by decide +kernel
theorem dX11_search_298 : decode cX11_search 298 = .ok (.bipush 8, 2) := by decide +kernel
theorem dX11_search_300 : decode cX11_search 300 = .ok (.aload_n 0, 1) := by decide +kernel
theorem dX11_search_301 : decode cX11_search 301 = .ok (.getfield 51, 3) := by decide +kernel
theorem dX11_search_304 : decode cX11_search 304 = .ok (.iload 5, 2) := by decide +kernel
theorem dX11_search_306 : decode cX11_search 306 = .ok (.iaload, 1) := by decide +kernel
theorem dX11_search_307 : decode cX11_search 307 = .ok (.imul, 1) := by decide +kernel
theorem dX11_search_308 : decode cX11_search 308 = .ok (.aload_n 0, 1) := by decide +kernel
theorem dX11_search_309 : decode cX11_search 309 = .ok (.getfield 24, 3) := by decide +kernel
theorem dX11_search_312 : decode cX11_search 312 = .ok (.aload_n 0, 1) := by decide +kernel
theorem dX11_search_313 : decode cX11_search 313 = .ok (.getfield 51, 3) := by decide +kernel
theorem dX11_search_316 : decode cX11_search 316 = .ok (.iload 5, 2) := by decide +kernel
theorem dX11_search_318 : decode cX11_search 318 = .ok (.iaload, 1) := by decide +kernel
theorem dX11_search_319 : decode cX11_search 319 = .ok (.iaload, 1) := by decide +kernel
theorem dX11_search_320 : decode cX11_search 320 = .ok (.iadd, 1) := by decide +kernel
theorem dX11_search_321 : decode cX11_search 321 = .ok (.if_icmp .ge 54, 3) := by decide +kernel
theorem dX11_search_324 : decode cX11_search 324 = .ok (.iload_n 3, 1) := by decide +kernel
theorem dX11_search_325 : decode cX11_search 325 = .ok (.aload_n 0, 1) := by decide +kernel
theorem dX11_search_326 : decode cX11_search 326 = .ok (.aload_n 0, 1) := by decide +kernel
theorem dX11_search_327 : decode cX11_search 327 = .ok (.getfield 27, 3) := by decide +kernel
theorem dX11_search_330 : decode cX11_search 330 = .ok (.iload 6, 2) := by decide +kernel
theorem dX11_search_332 : decode cX11_search 332 = .ok (.iaload, 1) := by decide +kernel
theorem dX11_search_333 : decode cX11_search 333 = .ok (.invokevirtual 178, 3) := by decide +kernel
theorem dX11_search_336 : decode cX11_search 336 = .ok (.invokestatic 143, 3) := by decide +kernel
theorem dX11_search_339 : decode cX11_search 339 = .ok (.istore 7, 2) := by decide +kernel
theorem dX11_search_341 : decode cX11_search 341 = .ok (.aload_n 0, 1) := by decide +kernel
theorem dX11_search_342 : decode cX11_search 342 = .ok (.iconst 2, 1) := by decide +kernel
theorem dX11_search_343 : decode cX11_search 343 = .ok (.bipush 10, 2) := by decide +kernel
theorem dX11_search_345 : decode cX11_search 345 = .ok (.bipush 50, 2) := by decide +kernel
theorem dX11_search_347 : decode cX11_search 347 = .ok (.iload_n 2, 1) := by decide +kernel
theorem dX11_search_348 : decode cX11_search 348 = .ok (.iconst 1, 1) := by decide +kernel
theorem dX11_search_349 : decode cX11_search 349 = .ok (.iload 5, 2) := by decide +kernel
theorem dX11_search_351 : decode cX11_search 351 = .ok (.ishl, 1) := by decide +kernel
theorem dX11_search_352 : decode cX11_search 352 = .ok (.ior, 1) := by decide +kernel
theorem dX11_search_353 : decode cX11_search 353 = .ok (.imul, 1) := by decide +kernel
theorem dX11_search_354 : decode cX11_search 354 = .ok (.iadd, 1) := by decide +kernel
theorem dX11_search_355 : decode cX11_search 355 = .ok (.iload 7, 2) := by decide +kernel
theorem dX11_search_357 : decode cX11_search 357 = .ok (.iadd, 1) := by decide +kernel
theorem dX11_search_358 : decode cX11_search 358 = .ok (.aload_n 0, 1) := by decide +kernel
theorem dX11_search_359 : decode cX11_search 359 = .ok (.getfield 30, 3) := by decide +kernel
theorem dX11_search_362 : decode cX11_search 362 = .ok (.iload 6, 2) := by decide +kernel
theorem dX11_search_364 : decode cX11_search 364 = .ok (.iaload, 1) := by decide +kernel
theorem dX11_search_365 : decode cX11_search 365 = .ok (.i2l, 1) := by decide +kernel
theorem dX11_search_366 : decode cX11_search 366 = .ok (.invokevirtual 87, 3) := by decide +kernel
theorem dX11_search_369 : decode cX11_search 369 = .ok (.iinc 6 1, 3) := by decide +kernel
theorem dX11_search_372 : decode cX11_search 372 = .ok (.goto (-76), 3) := by decide +kernel
theorem dX11_search_375 : decode cX11_search 375 = .ok (.aload_n 0, 1) := by decide +kernel
theorem dX11_search_376 : decode cX11_search 376 = .ok (.iconst 2, 1) := by decide +kernel
theorem dX11_search_377 : decode cX11_search 377 = .ok (.iload 4, 2) := by decide +kernel
theorem dX11_search_379 : decode cX11_search 379 = .ok (.invokevirtual 106, 3) := by decide +kernel
theorem dX11_search_382 : decode cX11_search 382 = .ok (.ifCond .le 10, 3) := by decide +kernel
theorem dX11_search_385 : decode cX11_search 385 = .ok (.aload_n 0, 1) := by decide +kernel
theorem dX11_search_386 : decode cX11_search 386 = .ok (.iload 4, 2) := by decide +kernel
theorem dX11_search_388 : decode cX11_search 388 = .ok (.iconst 2, 1) := by decide +kernel
theorem dX11_search_389 : decode cX11_search 389 = .ok (.invokevirtual 83, 3) := by decide +kernel
theorem dX11_search_392 : decode cX11_search 392 = .ok (.iinc 5 1, 3) := by decide +kernel
theorem dX11_search_395 : decode cX11_search 395 = .ok (.goto (-154), 3) := by decide +kernel
theorem dX11_search_398 : decode cX11_search 398 = .ok (.iinc 3 1, 3) := by decide +kernel
theorem dX11_search_401 : decode cX11_search 401 = .ok (.goto (-203), 3) := by decide +kernel
theorem dX11_search_404 : decode cX11_search 404 = .ok (.iinc 2 (-1), 3) := by decide +kernel
theorem dX11_search_407 : decode cX11_search 407 = .ok (.goto (-262), 3) := by decide +kernel
theorem dX11_search_410 : decode cX11_search 410 = .ok (.aload_n 0, 1) := by decide +kernel
theorem dX11_search_411 : decode cX11_search 411 = .ok (.sipush 3510, 3) := by decide +kernel
theorem dX11_search_414 : decode cX11_search 414 = .ok (.lconst 1, 1) := by decide +kernel
theorem dX11_search_415 : decode cX11_search 415 = .ok (.invokevirtual 60, 3) := by decide +kernel
theorem dX11_search_418 : decode cX11_search 418 = .ok (.iconst 0, 1) := by decide +kernel
theorem dX11_search_419 : decode cX11_search 419 = .ok (.istore_n 2, 1) := by decide +kernel
theorem dX11_search_420 : decode cX11_search 420 = .ok (.iload_n 2, 1) := by decide +kernel
theorem dX11_search_421 : decode cX11_search 421 = .ok (.aload_n 0, 1) := by decide +kernel
theorem dX11_search_422 : decode cX11_search 422 = .ok (.getfield 172, 3) := by decide +kernel
theorem dX11_search_425 : decode cX11_search 425 = .ok (.if_icmp .ge 28, 3) := by decide +kernel
theorem dX11_search_428 : decode cX11_search 428 = .ok (.aload_n 0, 1) := by decide +kernel
theorem dX11_search_429 : decode cX11_search 429 = .ok (.sipush 3510, 3) := by decide +kernel
theorem dX11_search_432 : decode cX11_search 432 = .ok (.aload_n 0, 1) := by decide +kernel
theorem dX11_search_433 : decode cX11_search 433 = .ok (.getfield 33, 3) := by decide +kernel
theorem dX11_search_436 : decode cX11_search 436 = .ok (.aload_n 0, 1) := by decide +kernel
theorem dX11_search_437 : decode cX11_search 437 = .ok (.getfield 51, 3) := by decide +kernel
theorem dX11_search_440 : decode cX11_search 440 = .ok (.iload_n 2, 1) := by decide +kernel
theorem dX11_search_441 : decode cX11_search 441 = .ok (.iaload, 1) := by decide +kernel
theorem dX11_search_442 : decode cX11_search 442 = .ok (.iaload, 1) := by decide +kernel
theorem dX11_search_443 : decode cX11_search 443 = .ok (.i2l, 1) := by decide +kernel
theorem dX11_search_444 : decode cX11_search 444 = .ok (.invokevirtual 93, 3) := by decide +kernel
theorem dX11_search_447 : decode cX11_search 447 = .ok (.iinc 2 1, 3) := by decide +kernel
theorem dX11_search_450 : decode cX11_search 450 = .ok (.goto (-30), 3) := by decide +kernel
theorem dX11_search_453 : decode cX11_search 453 = .ok (.aload_n 0, 1) := by decide +kernel
theorem dX11_search_454 : decode cX11_search 454 = .ok (.bipush 10, 2) := by decide +kernel
theorem dX11_search_456 : decode cX11_search 456 = .ok (.sipush 3510, 3) := by decide +kernel
theorem dX11_search_459 : decode cX11_search 459 = .ok (.invokevirtual 137, 3) := by decide +kernel
theorem dX11_search_462 : decode cX11_search 462 = .ok (.return_, 1) := by decide +kernel
set_option maxRecDepth 20000 in
theorem ggX11_sign_X11_isZero : GoodIn wsX11_sign wsX11_isZero := goodIn_r _ [6, 1, 7, 8, 9, 10, 11, 12, 13, 14, 15, 16, 17, 18, 19, 20, 21, 22, 23, 24, 25, 26, 27] (by decide +kernel) (by decide +kernel)
set_option maxRecDepth 20000 in
theorem gX11_sign_X11_isZero : GoodIn wsX11_sign (wsV RX11 96 RX11 yX11_isZero wsX11_isZero) := goodIn_app (goodIn_of _ (by decide +kernel)) ggX11_sign_X11_isZero
theorem dX11_sign_0 : decode cX11_sign 0 = .ok (.aload_n 0, 1) := by decide +kernel
theorem dX11_sign_1 : decode cX11_sign 1 = .ok (.iconst 0, 1) := by decide +kernel
theorem dX11_sign_2 : decode cX11_sign 2 = .ok (.invokevirtual 96, 3) := by decide +kernel
theorem dX11_sign_5 : decode cX11_sign 5 = .ok (.ifCond .eq 7, 3) := by decide +kernel
theorem dX11_sign_8 : decode cX11_sign 8 = .ok (.iconst 0, 1) := by decide +kernel
theorem dX11_sign_9 : decode cX11_sign 9 = .ok (.goto 20, 3) := by decide +kernel
theorem dX11_sign_12 : decode cX11_sign 12 = .ok (.aload_n 0, 1) := by decide +kernel
theorem dX11_sign_13 : decode cX11_sign 13 = .ok (.getfield 10, 3) := by decide +kernel
theorem dX11_sign_16 : decode cX11_sign 16 = .ok (.bipush 9, 2) := by decide +kernel
theorem dX11_sign_18 : decode cX11_sign 18 = .ok (.laload, 1) := by decide +kernel
theorem dX11_sign_19 : decode cX11_sign 19 = .ok (.lconst 0, 1) := by decide +kernel
theorem dX11_sign_20 : decode cX11_sign 20 = .ok (.lcmp, 1) := by decide +kernel
theorem dX11_sign_21 : decode cX11_sign 21 = .ok (.ifCond .ge 7, 3) := by decide +kernel
theorem dX11_sign_24 : decode cX11_sign 24 = .ok (.iconst (-1), 1) := by decide +kernel
theorem dX11_sign_25 : decode cX11_sign 25 = .ok (.goto 4, 3) := by decide +kernel
theorem dX11_sign_28 : decode cX11_sign 28 = .ok (.iconst 1, 1) := by decide +kernel
theorem dX11_sign_29 : decode cX11_sign 29 = .ok (.ireturn, 1) := by decide +kernel
theorem dX11_manyParts_0 : decode cX11_manyParts 0 = .ok (.bipush 9, 2) := by decide +kernel
theorem dX11_manyParts_2 : decode cX11_manyParts 2 = .ok (.istore_n 2, 1) := by decide +kernel
theorem dX11_manyParts_3 : decode cX11_manyParts 3 = .ok (.iload_n 2, 1) := by decide +kernel
theorem dX11_manyParts_4 : decode cX11_manyParts 4 = .ok (.ifCond .le 25, 3) := by decide +kernel
theorem dX11_manyParts_7 : decode cX11_manyParts 7 = .ok (.aload_n 0, 1) := by decide +kernel
theorem dX11_manyParts_8 : decode cX11_manyParts 8 = .ok (.getfield 10, 3) := by decide +kernel
theorem dX11_manyParts_11 : decode cX11_manyParts 11 = .ok (.bipush 10, 2) := by decide +kernel
theorem dX11_manyParts_13 : decode cX11_manyParts 13 = .ok (.iload_n 1, 1) := by decide +kernel
theorem dX11_manyParts_14 : decode cX11_manyParts 14 = .ok (.imul, 1) := by decide +kernel
theorem dX11_manyParts_15 : decode cX11_manyParts 15 = .ok (.iload_n 2, 1) := by decide +kernel
theorem dX11_manyParts_16 : decode cX11_manyParts 16 = .ok (.iadd, 1) := by decide +kernel
theorem dX11_manyParts_17 : decode cX11_manyParts 17 = .ok (.laload, 1) := by decide +kernel
theorem dX11_manyParts_18 : decode cX11_manyParts 18 = .ok (.lconst 0, 1) := by decide +kernel
theorem dX11_manyParts_19 : decode cX11_manyParts 19 = .ok (.lcmp, 1) := by decide +kernel
theorem dX11_manyParts_20 : decode cX11_manyParts 20 = .ok (.ifCond .ne 9, 3) := by decide +kernel
theorem dX11_manyParts_23 : decode cX11_manyParts 23 = .ok (.iinc 2 (-1), 3) := by decide +kernel
theorem dX11_manyParts_26 : decode cX11_manyParts 26 = .ok (.goto (-23), 3) := by decide +kernel
theorem dX11_manyParts_29 : decode cX11_manyParts 29 = .ok (.iload_n 2, 1) := by decide +kernel
theorem dX11_manyParts_30 : decode cX11_manyParts 30 = .ok (.iconst 1, 1) := by decide +kernel
theorem dX11_manyParts_31 : decode cX11_manyParts 31 = .ok (.iadd, 1) := by decide +kernel
theorem dX11_manyParts_32 : decode cX11_manyParts 32 = .ok (.ireturn, 1) := by decide +kernel
set_option maxRecDepth 20000 in
theorem ggX11_bare_X11_copy : GoodIn wsX11_bare wsX11_copy := goodIn_r _ [6, 7, 32, 33, 34, 35, 36, 37, 38, 39, 40, 41, 42, 43, 44, 45, 46, 47, 48, 49, 50, 51, 52] (by decide +kernel) (by decide +kernel)
set_option maxRecDepth 20000 in
theorem gX11_bare_X11_copy : GoodIn wsX11_bare (wsV RX11 83 RX11 yX11_copy wsX11_copy) := goodIn_app (goodIn_of _ (by decide +kernel)) ggX11_bare_X11_copy
set_option maxRecDepth 20000 in
theorem ggX11_bare_X11_sign : GoodIn wsX11_bare wsX11_sign := goodIn_r _ [11, 7, 12, 13, 14, 5, 15, 32, 33, 34, 35, 36, 37, 38, 39, 40, 41, 42, 43, 44, 45, 46, 47, 48, 49, 50, 51, 52] (by decide +kernel) (by decide +kernel)
set_option maxRecDepth 20000 in
theorem gX11_bare_X11_sign : GoodIn wsX11_bare (wsV RX11 182 RX11 yX11_sign wsX11_sign) := goodIn_app (goodIn_of _ (by decide +kernel)) ggX11_bare_X11_sign
set_option maxRecDepth 20000 in
theorem ggX11_bare_X11_times : GoodIn wsX11_bare wsX11_times := goodIn_r _ [19, 7, 20, 21, 22, 5, 23, 24, 25, 26, 27, 28, 29, 30, 31, 32, 33, 34, 35, 36, 37, 38, 39, 40, 41, 42, 43, 44, 45, 46, 47, 48, 49, 50, 51, 52] (by decide +kernel) (by decide +kernel)
set_option maxRecDepth 20000 in
theorem gX11_bare_X11_times : GoodIn wsX11_bare (wsV RX11 93 RX11 yX11_times wsX11_times) := goodIn_app (goodIn_of _ (by decide +kernel)) ggX11_bare_X11_times
theorem dX11_bare_0 : decode cX11_bare 0 = .ok (.aload_n 0, 1) := by decide +kernel
theorem dX11_bare_1 : decode cX11_bare 1 = .ok (.iconst 2, 1) := by decide +kernel
theorem dX11_bare_2 : decode cX11_bare 2 = .ok (.iconst 0, 1) := by decide +kernel
theorem dX11_bare_3 : decode cX11_bare 3 = .ok (.invokevirtual 83, 3) := by decide +kernel
theorem dX11_bare_6 : decode cX11_bare 6 = .ok (.aload_n 0, 1) := by decide +kernel
theorem dX11_bare_7 : decode cX11_bare 7 = .ok (.invokevirtual 182, 3) := by decide +kernel
theorem dX11_bare_10 : decode cX11_bare 10 = .ok (.ifCond .ge 11, 3) := by decide +kernel
theorem dX11_bare_13 : decode cX11_bare 13 = .ok (.aload_n 0, 1) := by decide +kernel
theorem dX11_bare_14 : decode cX11_bare 14 = .ok (.iconst 2, 1) := by decide +kernel
theorem dX11_bare_15 : decode cX11_bare 15 = .ok (.ldc2_w 91, 3) := by decide +kernel
theorem dX11_bare_18 : decode cX11_bare 18 = .ok (.invokevirtual 93, 3) := by decide +kernel
theorem dX11_bare_21 : decode cX11_bare 21 = .ok (.return_, 1) := by decide +kernel
set_option maxRecDepth 20000 in
theorem ggX11_look_X11_bare : GoodIn wsX11_look wsX11_bare := goodIn_r _ [5, 6, 7, 8, 9, 4, 10, 11, 12, 13, 14, 15, 16, 17, 18, 19, 20, 21, 22, 23, 24, 25, 26, 27, 28, 29, 30, 31, 32, 33, 34, 35, 40, 41, 42, 43, 44, 45, 46, 47, 48, 49, 50, 51, 52, 53, 54, 55, 56, 57, 58, 59, 60] (by decide +kernel) (by decide +kernel)
set_option maxRecDepth 20000 in
theorem gX11_look_X11_bare : GoodIn wsX11_look (wsV RX11 186 RX11 yX11_bare wsX11_bare) := goodIn_app (goodIn_of _ (by decide +kernel)) ggX11_look_X11_bare
set_option maxRecDepth 20000 in
theorem ggX11_look_X11_sign : GoodIn wsX11_look wsX11_sign := goodIn_r _ [15, 11, 16, 17, 18, 4, 19, 40, 41, 42, 43, 44, 45, 46, 47, 48, 49, 50, 51, 52, 53, 54, 55, 56, 57, 58, 59, 60] (by decide +kernel) (by decide +kernel)
set_option maxRecDepth 20000 in
theorem gX11_look_X11_sign : GoodIn wsX11_look (wsV RX11 182 RX11 yX11_sign wsX11_sign) := goodIn_app (goodIn_of _ (by decide +kernel)) ggX11_look_X11_sign
set_option maxRecDepth 20000 in
theorem ggX11_look_X11_manyParts : GoodIn wsX11_look wsX11_manyParts := goodIn_r _ [39, 11, 40, 41, 42, 43, 44, 45, 46, 47, 48, 49, 50, 51, 52, 53, 54, 55, 56, 57, 58, 59, 60] (by decide +kernel) (by decide +kernel)
set_option maxRecDepth 20000 in
theorem gX11_look_X11_manyParts : GoodIn wsX11_look (wsV RX11 189 RX11 yX11_manyParts wsX11_manyParts) := goodIn_app (goodIn_of _ (by decide +kernel)) ggX11_look_X11_manyParts
theorem dX11_look_0 : decode cX11_look 0 = .ok (.aload_n 0, 1) := by decide +kernel
theorem dX11_look_1 : decode cX11_look 1 = .ok (.invokevirtual 186, 3) := by decide +kernel
theorem dX11_look_4 : decode cX11_look 4 = .ok (.iload_n 1, 1) := by decide +kernel
theorem dX11_look_5 : decode cX11_look 5 = .ok (.ifCond .ne 10, 3) := by decide +kernel
theorem dX11_look_8 : decode cX11_look 8 = .ok (.aload_n 0, 1) := by decide +kernel
theorem dX11_look_9 : decode cX11_look 9 = .ok (.invokevirtual 182, 3) := by decide +kernel
theorem dX11_look_12 : decode cX11_look 12 = .ok (.goto 30, 3) := by decide +kernel
theorem dX11_look_15 : decode cX11_look 15 = .ok (.iload_n 1, 1) := by decide +kernel
theorem dX11_look_16 : decode cX11_look 16 = .ok (.iconst 1, 1) := by decide +kernel
theorem dX11_look_17 : decode cX11_look 17 = .ok (.if_icmp .ne 11, 3) := by decide +kernel
theorem dX11_look_20 : decode cX11_look 20 = .ok (.aload_n 0, 1) := by decide +kernel
theorem dX11_look_21 : decode cX11_look 21 = .ok (.iconst 2, 1) := by decide +kernel
theorem dX11_look_22 : decode cX11_look 22 = .ok (.invokevirtual 189, 3) := by decide +kernel
theorem dX11_look_25 : decode cX11_look 25 = .ok (.goto 17, 3) := by decide +kernel
theorem dX11_look_28 : decode cX11_look 28 = .ok (.iload_n 1, 1) := by decide +kernel
theorem dX11_look_29 : decode cX11_look 29 = .ok (.iconst 2, 1) := by decide +kernel
theorem dX11_look_30 : decode cX11_look 30 = .ok (.if_icmp .ne 11, 3) := by decide +kernel
theorem dX11_look_33 : decode cX11_look 33 = .ok (.aload_n 0, 1) := by decide +kernel
theorem dX11_look_34 : decode cX11_look 34 = .ok (.iconst 1, 1) := by decide +kernel
theorem dX11_look_35 : decode cX11_look 35 = .ok (.invokevirtual 189, 3) := by decide +kernel
theorem dX11_look_38 : decode cX11_look 38 = .ok (.goto 4, 3) := by decide +kernel
theorem dX11_look_41 : decode cX11_look 41 = .ok (.iconst (-1), 1) := by decide +kernel
theorem dX11_look_42 : decode cX11_look 42 = .ok (.ireturn, 1) := by decide +kernel
set_option maxRecDepth 20000 in
theorem ggX11_part_X11_bare : GoodIn wsX11_part wsX11_bare := goodIn_r _ [6, 7, 8, 9, 10, 5, 11, 1, 12, 13, 14, 15, 16, 17, 18, 19, 20, 21, 22, 23, 24, 25, 26, 27, 28, 29, 30, 31, 32, 33, 34, 35, 36, 37, 38, 39, 40, 41, 42, 43, 44, 45, 46, 47, 48, 49, 50, 51, 52, 53, 54, 55, 56] (by decide +kernel) (by decide +kernel)
set_option maxRecDepth 20000 in
theorem gX11_part_X11_bare : GoodIn wsX11_part (wsV RX11 186 RX11 yX11_bare wsX11_bare) := goodIn_app (goodIn_of _ (by decide +kernel)) ggX11_part_X11_bare
theorem dX11_part_0 : decode cX11_part 0 = .ok (.aload_n 0, 1) := by decide +kernel
theorem dX11_part_1 : decode cX11_part 1 = .ok (.invokevirtual 186, 3) := by decide +kernel
theorem dX11_part_4 : decode cX11_part 4 = .ok (.iload_n 2, 1) := by decide +kernel
theorem dX11_part_5 : decode cX11_part 5 = .ok (.ifCond .lt 9, 3) := by decide +kernel
theorem dX11_part_8 : decode cX11_part 8 = .ok (.iload_n 2, 1) := by decide +kernel
theorem dX11_part_9 : decode cX11_part 9 = .ok (.bipush 10, 2) := by decide +kernel
theorem dX11_part_11 : decode cX11_part 11 = .ok (.if_icmp .lt 7, 3) := by decide +kernel
theorem dX11_part_14 : decode cX11_part 14 = .ok (.iconst 0, 1) := by decide +kernel
theorem dX11_part_15 : decode cX11_part 15 = .ok (.goto 23, 3) := by decide +kernel
theorem dX11_part_18 : decode cX11_part 18 = .ok (.aload_n 0, 1) := by decide +kernel
theorem dX11_part_19 : decode cX11_part 19 = .ok (.getfield 10, 3) := by decide +kernel
theorem dX11_part_22 : decode cX11_part 22 = .ok (.bipush 10, 2) := by decide +kernel
theorem dX11_part_24 : decode cX11_part 24 = .ok (.iload_n 1, 1) := by decide +kernel
theorem dX11_part_25 : decode cX11_part 25 = .ok (.ifCond .eq 7, 3) := by decide +kernel
theorem dX11_part_28 : decode cX11_part 28 = .ok (.iconst 1, 1) := by decide +kernel
theorem dX11_part_29 : decode cX11_part 29 = .ok (.goto 4, 3) := by decide +kernel
theorem dX11_part_32 : decode cX11_part 32 = .ok (.iconst 2, 1) := by decide +kernel
theorem dX11_part_33 : decode cX11_part 33 = .ok (.imul, 1) := by decide +kernel
theorem dX11_part_34 : decode cX11_part 34 = .ok (.iload_n 2, 1) := by decide +kernel
theorem dX11_part_35 : decode cX11_part 35 = .ok (.iadd, 1) := by decide +kernel
theorem dX11_part_36 : decode cX11_part 36 = .ok (.laload, 1) := by decide +kernel
theorem dX11_part_37 : decode cX11_part 37 = .ok (.l2i, 1) := by decide +kernel
theorem dX11_part_38 : decode cX11_part 38 = .ok (.ireturn, 1) := by decide +kernel
set_option maxRecDepth 20000 in
theorem ggX11_compare_X11_copy : GoodIn wsX11_compare wsX11_copy := goodIn_r _ [5, 6, 27, 28, 29, 30, 31, 32, 33, 34, 35, 36, 37, 38, 39, 40, 41, 42, 43, 44, 45, 46, 47] (by decide +kernel) (by decide +kernel)
set_option maxRecDepth 20000 in
theorem gX11_compare_X11_copy : GoodIn wsX11_compare (wsV RX11 83 RX11 yX11_copy wsX11_copy) := goodIn_app (goodIn_of _ (by decide +kernel)) ggX11_compare_X11_copy
set_option maxRecDepth 20000 in
theorem ggX11_compare_X11_times : GoodIn wsX11_compare wsX11_times := goodIn_r _ [10, 6, 11, 12, 13, 4, 14, 15, 16, 17, 18, 19, 20, 21, 22, 27, 28, 29, 30, 31, 32, 33, 34, 35, 36, 37, 38, 39, 40, 41, 42, 43, 44, 45, 46, 47] (by decide +kernel) (by decide +kernel)
set_option maxRecDepth 20000 in
theorem gX11_compare_X11_times : GoodIn wsX11_compare (wsV RX11 93 RX11 yX11_times wsX11_times) := goodIn_app (goodIn_of _ (by decide +kernel)) ggX11_compare_X11_times
set_option maxRecDepth 20000 in
theorem ggX11_compare_X11_compared : GoodIn wsX11_compare wsX11_compared := goodIn_r _ [26, 6, 27, 28, 29, 30, 31, 32, 33, 34, 35, 36, 37, 38, 39, 40, 41, 42, 43, 44, 45, 46, 47] (by decide +kernel) (by decide +kernel)
set_option maxRecDepth 20000 in
theorem gX11_compare_X11_compared : GoodIn wsX11_compare (wsV RX11 106 RX11 yX11_compared wsX11_compared) := goodIn_app (goodIn_of _ (by decide +kernel)) ggX11_compare_X11_compared
theorem dX11_compare_0 : decode cX11_compare 0 = .ok (.iload_n 2, 1) := by decide +kernel
theorem dX11_compare_1 : decode cX11_compare 1 = .ok (.iconst 1, 1) := by decide +kernel
theorem dX11_compare_2 : decode cX11_compare 2 = .ok (.if_icmp .ge 6, 3) := by decide +kernel
theorem dX11_compare_5 : decode cX11_compare 5 = .ok (.bipush (-2), 2) := by decide +kernel
theorem dX11_compare_7 : decode cX11_compare 7 = .ok (.ireturn, 1) := by decide +kernel
theorem dX11_compare_8 : decode cX11_compare 8 = .ok (.aload_n 0, 1) := by decide +kernel
theorem dX11_compare_9 : decode cX11_compare 9 = .ok (.iconst 2, 1) := by decide +kernel
theorem dX11_compare_10 : decode cX11_compare 10 = .ok (.iconst 0, 1) := by decide +kernel
theorem dX11_compare_11 : decode cX11_compare 11 = .ok (.invokevirtual 83, 3) := by decide +kernel
theorem dX11_compare_14 : decode cX11_compare 14 = .ok (.aload_n 0, 1) := by decide +kernel
theorem dX11_compare_15 : decode cX11_compare 15 = .ok (.iconst 2, 1) := by decide +kernel
theorem dX11_compare_16 : decode cX11_compare 16 = .ok (.iload_n 2, 1) := by decide +kernel
theorem dX11_compare_17 : decode cX11_compare 17 = .ok (.i2l, 1) := by decide +kernel
theorem dX11_compare_18 : decode cX11_compare 18 = .ok (.invokevirtual 93, 3) := by decide +kernel
theorem dX11_compare_21 : decode cX11_compare 21 = .ok (.aload_n 0, 1) := by decide +kernel
theorem dX11_compare_22 : decode cX11_compare 22 = .ok (.iconst 3, 1) := by decide +kernel
theorem dX11_compare_23 : decode cX11_compare 23 = .ok (.iconst 1, 1) := by decide +kernel
theorem dX11_compare_24 : decode cX11_compare 24 = .ok (.invokevirtual 83, 3) := by decide +kernel
theorem dX11_compare_27 : decode cX11_compare 27 = .ok (.aload_n 0, 1) := by decide +kernel
theorem dX11_compare_28 : decode cX11_compare 28 = .ok (.iconst 3, 1) := by decide +kernel
theorem dX11_compare_29 : decode cX11_compare 29 = .ok (.iload_n 1, 1) := by decide +kernel
theorem dX11_compare_30 : decode cX11_compare 30 = .ok (.i2l, 1) := by decide +kernel
theorem dX11_compare_31 : decode cX11_compare 31 = .ok (.invokevirtual 93, 3) := by decide +kernel
theorem dX11_compare_34 : decode cX11_compare 34 = .ok (.aload_n 0, 1) := by decide +kernel
theorem dX11_compare_35 : decode cX11_compare 35 = .ok (.iconst 2, 1) := by decide +kernel
theorem dX11_compare_36 : decode cX11_compare 36 = .ok (.iconst 3, 1) := by decide +kernel
theorem dX11_compare_37 : decode cX11_compare 37 = .ok (.invokevirtual 106, 3) := by decide +kernel
theorem dX11_compare_40 : decode cX11_compare 40 = .ok (.ireturn, 1) := by decide +kernel
theorem dX11_count_0 : decode cX11_count 0 = .ok (.iload_n 1, 1) := by decide +kernel
theorem dX11_count_1 : decode cX11_count 1 = .ok (.tableswitch 90 0 4 #[35, 40, 45, 50, 55], 35) := by decide +kernel
theorem dX11_count_36 : decode cX11_count 36 = .ok (.aload_n 0, 1) := by decide +kernel
theorem dX11_count_37 : decode cX11_count 37 = .ok (.getfield 116, 3) := by decide +kernel
theorem dX11_count_40 : decode cX11_count 40 = .ok (.ireturn, 1) := by decide +kernel
theorem dX11_count_41 : decode cX11_count 41 = .ok (.aload_n 0, 1) := by decide +kernel
theorem dX11_count_42 : decode cX11_count 42 = .ok (.getfield 127, 3) := by decide +kernel
theorem dX11_count_45 : decode cX11_count 45 = .ok (.ireturn, 1) := by decide +kernel
theorem dX11_count_46 : decode cX11_count 46 = .ok (.aload_n 0, 1) := by decide +kernel
theorem dX11_count_47 : decode cX11_count 47 = .ok (.getfield 169, 3) := by decide +kernel
theorem dX11_count_50 : decode cX11_count 50 = .ok (.ireturn, 1) := by decide +kernel
theorem dX11_count_51 : decode cX11_count 51 = .ok (.aload_n 0, 1) := by decide +kernel
theorem dX11_count_52 : decode cX11_count 52 = .ok (.getfield 172, 3) := by decide +kernel
theorem dX11_count_55 : decode cX11_count 55 = .ok (.ireturn, 1) := by decide +kernel
theorem dX11_count_56 : decode cX11_count 56 = .ok (.iconst 0, 1) := by decide +kernel
theorem dX11_count_57 : decode cX11_count 57 = .ok (.istore_n 2, 1) := by decide +kernel
theorem dX11_count_58 : decode cX11_count 58 = .ok (.iconst 0, 1) := by decide +kernel
theorem dX11_count_59 : decode cX11_count 59 = .ok (.istore_n 3, 1) := by decide +kernel
theorem dX11_count_60 : decode cX11_count 60 = .ok (.iload_n 3, 1) := by decide +kernel
theorem dX11_count_61 : decode cX11_count 61 = .ok (.bipush 10, 2) := by decide +kernel
theorem dX11_count_63 : decode cX11_count 63 = .ok (.if_icmp .ge 26, 3) := by decide +kernel
theorem dX11_count_66 : decode cX11_count 66 = .ok (.iload_n 2, 1) := by decide +kernel
theorem dX11_count_67 : decode cX11_count 67 = .ok (.aload_n 0, 1) := by decide +kernel
theorem dX11_count_68 : decode cX11_count 68 = .ok (.getfield 14, 3) := by decide +kernel
theorem dX11_count_71 : decode cX11_count 71 = .ok (.iload_n 3, 1) := by decide +kernel
theorem dX11_count_72 : decode cX11_count 72 = .ok (.iaload, 1) := by decide +kernel
theorem dX11_count_73 : decode cX11_count 73 = .ok (.ifCond .ne 7, 3) := by decide +kernel
theorem dX11_count_76 : decode cX11_count 76 = .ok (.iconst 0, 1) := by decide +kernel
theorem dX11_count_77 : decode cX11_count 77 = .ok (.goto 4, 3) := by decide +kernel
theorem dX11_count_80 : decode cX11_count 80 = .ok (.iconst 1, 1) := by decide +kernel
theorem dX11_count_81 : decode cX11_count 81 = .ok (.iadd, 1) := by decide +kernel
theorem dX11_count_82 : decode cX11_count 82 = .ok (.istore_n 2, 1) := by decide +kernel
theorem dX11_count_83 : decode cX11_count 83 = .ok (.iinc 3 1, 3) := by decide +kernel
theorem dX11_count_86 : decode cX11_count 86 = .ok (.goto (-26), 3) := by decide +kernel
theorem dX11_count_89 : decode cX11_count 89 = .ok (.iload_n 2, 1) := by decide +kernel
theorem dX11_count_90 : decode cX11_count 90 = .ok (.ireturn, 1) := by decide +kernel
theorem dX11_count_91 : decode cX11_count 91 = .ok (.iconst (-1), 1) := by decide +kernel
theorem dX11_count_92 : decode cX11_count 92 = .ok (.ireturn, 1) := by decide +kernel
