set_option maxRecDepth 20000 in
theorem ggL_law_X10_init : GoodIn wsL_law wsX10_init := goodIn_r _ [9, 10, 11, 12, 13, 14, 15, 16, 17, 18, 19, 20, 21, 22, 23, 24, 25, 26, 27, 28, 29, 30, 31, 32, 33, 34, 35, 36, 37, 38, 39, 40, 41, 42, 43, 44, 45, 46, 47, 48, 49, 50, 51, 52, 53, 54, 55, 56, 57, 58, 59, 60, 61, 62, 63, 64, 65, 66, 67, 68, 69, 70, 71, 72, 73, 74, 75, 76, 77, 78, 79, 80, 81, 82, 83, 84, 85, 86, 87, 88, 89, 90, 91, 92, 93, 94, 95, 96, 97, 98, 99, 100, 101, 102, 103, 104, 105, 106, 107, 108, 109, 110, 111, 112, 113, 114, 115, 116, 117, 118, 119, 120, 121, 122, 123, 124, 125, 126, 127, 128, 129, 130, 131, 132, 133, 134, 135, 136, 137, 138, 139, 140, 141, 142, 143, 144, 145, 146, 147, 148, 149, 150, 151, 152, 153, 154, 155, 156, 157, 158, 159, 160, 935, 936, 937, 938, 939, 940, 941, 942, 943, 965, 966, 967, 968, 969, 970, 971, 972, 973, 974, 975, 976, 977, 978, 979, 980, 981, 982, 983, 984, 985, 986, 987, 988, 989, 990, 991, 992, 993, 994, 995, 996, 997, 998, 999, 1000, 1001, 1002, 1003, 1004, 1005, 1006, 1007, 1008, 1009, 1010, 1011, 1012, 1013] (by decide +kernel) (by decide +kernel)
set_option maxRecDepth 20000 in
theorem gL_law_X10_init : GoodIn wsL_law (wsX10_init) := ggL_law_X10_init
set_option maxRecDepth 20000 in
theorem ggL_law_X11_init : GoodIn wsL_law wsX11_init := goodIn_r _ [163, 164, 11, 12, 165, 157, 166, 61, 167, 168, 169, 170, 171, 172, 173, 174, 175, 176, 177, 178, 179, 180, 181, 182, 183, 184, 5, 185, 186, 187, 188, 189, 190, 191, 192, 193, 194, 195, 196, 197, 944, 945, 946, 947, 948, 949, 950, 951, 952, 953, 954, 955, 956, 957, 958, 959, 960, 961, 962, 963, 964] (by decide +kernel) (by decide +kernel)
set_option maxRecDepth 20000 in
theorem gL_law_X11_init : GoodIn wsL_law (wsX11_init) := ggL_law_X11_init
set_option maxRecDepth 20000 in
theorem ggL_law_X10_row : GoodIn wsL_law wsX10_row := goodIn_r _ [201, 202, 14, 203, 204, 2, 205, 206, 207, 208, 209, 210, 211, 212, 43, 213, 158, 159, 214, 215, 69, 216, 160, 217, 218, 219, 220, 935, 936, 937, 938, 939, 940, 941, 942, 943, 1003, 1004, 1005] (by decide +kernel) (by decide +kernel)
set_option maxRecDepth 20000 in
theorem gL_law_X10_row : GoodIn wsL_law (wsV RL 13 RX10 yX10_row wsX10_row) := goodIn_app (goodIn_of _ (by decide +kernel)) ggL_law_X10_row
set_option maxRecDepth 20000 in
theorem ggL_law_X11_row : GoodIn wsL_law wsX11_row := goodIn_r _ [224, 167, 168, 169, 225, 226, 5, 227, 944, 945, 946, 947, 948, 949, 950, 951, 952, 953, 954, 955, 956, 957, 958, 959, 960, 961, 962, 963, 964] (by decide +kernel) (by decide +kernel)
set_option maxRecDepth 20000 in
theorem gL_law_X11_row : GoodIn wsL_law (wsV RL 17 RX11 yX11_row wsX11_row) := goodIn_app (goodIn_of _ (by decide +kernel)) ggL_law_X11_row
set_option maxRecDepth 20000 in
theorem ggL_law_X10_tear : GoodIn wsL_law wsX10_tear := goodIn_r _ [231, 14, 203, 204, 2, 205, 206, 207, 208, 209, 232, 233, 234, 43, 235, 160, 236, 237, 238, 239, 935, 936, 937, 938, 939, 940, 941, 942, 943, 1003, 1004, 1005] (by decide +kernel) (by decide +kernel)
set_option maxRecDepth 20000 in
theorem gL_law_X10_tear : GoodIn wsL_law (wsV RL 18 RX10 yX10_tear wsX10_tear) := goodIn_app (goodIn_of _ (by decide +kernel)) ggL_law_X10_tear
set_option maxRecDepth 20000 in
theorem ggL_law_X11_tear : GoodIn wsL_law wsX11_tear := goodIn_r _ [243, 167, 225, 226, 5, 227, 944, 945, 946, 947, 948, 949, 950, 951, 952, 953, 954, 955, 956, 957, 958, 959, 960, 961, 962, 963, 964] (by decide +kernel) (by decide +kernel)
set_option maxRecDepth 20000 in
theorem gL_law_X11_tear : GoodIn wsL_law (wsV RL 22 RX11 yX11_tear wsX11_tear) := goodIn_app (goodIn_of _ (by decide +kernel)) ggL_law_X11_tear
set_option maxRecDepth 20000 in
theorem ggL_law_X10_write : GoodIn wsL_law wsX10_write := goodIn_r _ [247, 14, 203, 204, 2, 205, 206, 207, 208, 209, 232, 233, 234, 43, 235, 160, 248, 249, 250, 251, 158, 252, 253, 254, 255, 159, 935, 936, 937, 938, 939, 940, 941, 942, 943, 1003, 1004, 1005] (by decide +kernel) (by decide +kernel)
set_option maxRecDepth 20000 in
theorem gL_law_X10_write : GoodIn wsL_law (wsV RL 25 RX10 yX10_write wsX10_write) := goodIn_app (goodIn_of _ (by decide +kernel)) ggL_law_X10_write
set_option maxRecDepth 20000 in
theorem ggL_law_X11_write : GoodIn wsL_law wsX11_write := goodIn_r _ [259, 167, 168, 169, 225, 226, 5, 227, 944, 945, 946, 947, 948, 949, 950, 951, 952, 953, 954, 955, 956, 957, 958, 959, 960, 961, 962, 963, 964] (by decide +kernel) (by decide +kernel)
set_option maxRecDepth 20000 in
theorem gL_law_X11_write : GoodIn wsL_law (wsV RL 29 RX11 yX11_write wsX11_write) := goodIn_app (goodIn_of _ (by decide +kernel)) ggL_law_X11_write
set_option maxRecDepth 20000 in
theorem ggL_law_X10_book : GoodIn wsL_law wsX10_book := goodIn_r _ [263, 17, 14, 16, 203, 204, 2, 205, 206, 207, 208, 209, 232, 233, 234, 43, 235, 160, 264, 265, 266, 45, 267, 103, 104, 268, 269, 270, 271, 158, 272, 273, 274, 275, 101, 102, 935, 936, 937, 938, 939, 940, 941, 942, 943, 1003, 1004, 1005, 1006, 1007, 1008, 1009] (by decide +kernel) (by decide +kernel)
set_option maxRecDepth 20000 in
theorem gL_law_X10_book : GoodIn wsL_law (wsV RL 30 RX10 yX10_book wsX10_book) := goodIn_app (goodIn_of _ (by decide +kernel)) ggL_law_X10_book
set_option maxRecDepth 20000 in
theorem ggL_law_X11_book : GoodIn wsL_law wsX11_book := goodIn_r _ [279, 280, 167, 169, 281, 282, 283, 171, 172, 170, 173, 225, 226, 5, 227, 944, 945, 946, 947, 948, 949, 950, 951, 952, 953, 954, 955, 956, 957, 958, 959, 960, 961, 962, 963, 964] (by decide +kernel) (by decide +kernel)
set_option maxRecDepth 20000 in
theorem gL_law_X11_book : GoodIn wsL_law (wsV RL 34 RX11 yX11_book wsX11_book) := goodIn_app (goodIn_of _ (by decide +kernel)) ggL_law_X11_book
set_option maxRecDepth 20000 in
theorem ggL_law_X10_comer : GoodIn wsL_law wsX10_comer := goodIn_r _ [287, 25, 16, 288, 289, 290, 2, 291, 17, 207, 208, 209, 292, 293, 294, 24, 295, 79, 80, 296, 297, 298, 78, 299, 97, 300, 301, 302, 303, 96, 935, 936, 937, 938, 939, 940, 941, 942, 943, 970, 971, 972, 973, 974, 975, 976, 977, 978, 979, 1011, 1012, 1013] (by decide +kernel) (by decide +kernel)
set_option maxRecDepth 20000 in
theorem gL_law_X10_comer : GoodIn wsL_law (wsV RL 35 RX10 yX10_comer wsX10_comer) := goodIn_app (goodIn_of _ (by decide +kernel)) ggL_law_X10_comer
set_option maxRecDepth 20000 in
theorem ggL_law_X11_comer : GoodIn wsL_law wsX11_comer := goodIn_r _ [307, 308, 174, 175, 309, 310, 311, 5, 312, 280, 944, 945, 946, 947, 948, 949, 950, 951, 952, 953, 954, 955, 956, 957, 958, 959, 960, 961, 962, 963, 964] (by decide +kernel) (by decide +kernel)
set_option maxRecDepth 20000 in
theorem gL_law_X11_comer : GoodIn wsL_law (wsV RL 38 RX11 yX11_comer wsX11_comer) := goodIn_app (goodIn_of _ (by decide +kernel)) ggL_law_X11_comer
set_option maxRecDepth 20000 in
theorem ggL_law_X10_dismiss : GoodIn wsL_law wsX10_dismiss := goodIn_r _ [316, 25, 317, 318, 319, 24, 320, 79, 296, 297, 298, 78, 299, 97, 321, 322, 323, 324, 935, 936, 937, 938, 939, 940, 941, 942, 943, 970, 971, 972, 973, 974, 975, 976, 977, 978, 979, 1011, 1012, 1013] (by decide +kernel) (by decide +kernel)
set_option maxRecDepth 20000 in
theorem gL_law_X10_dismiss : GoodIn wsL_law (wsV RL 39 RX10 yX10_dismiss wsX10_dismiss) := goodIn_app (goodIn_of _ (by decide +kernel)) ggL_law_X10_dismiss
set_option maxRecDepth 20000 in
theorem ggL_law_X11_dismiss : GoodIn wsL_law wsX11_dismiss := goodIn_r _ [328, 308, 944, 945, 946, 947, 948, 949, 950, 951, 952, 953, 954, 955, 956, 957, 958, 959, 960, 961, 962, 963, 964] (by decide +kernel) (by decide +kernel)
set_option maxRecDepth 20000 in
theorem gL_law_X11_dismiss : GoodIn wsL_law (wsV RL 43 RX11 yX11_dismiss wsX11_dismiss) := goodIn_app (goodIn_of _ (by decide +kernel)) ggL_law_X11_dismiss
set_option maxRecDepth 20000 in
theorem ggL_law_X10_tell : GoodIn wsL_law wsX10_tell := goodIn_r _ [332, 25, 333, 334, 335, 336, 24, 337, 79, 296, 297, 298, 78, 299, 97, 207, 208, 2, 209, 338, 339, 340, 341, 342, 80, 935, 936, 937, 938, 939, 940, 941, 942, 943, 970, 971, 972, 973, 974, 975, 976, 977, 978, 979, 1011, 1012, 1013] (by decide +kernel) (by decide +kernel)
set_option maxRecDepth 20000 in
theorem gL_law_X10_tell : GoodIn wsL_law (wsV RL 44 RX10 yX10_tell wsX10_tell) := goodIn_app (goodIn_of _ (by decide +kernel)) ggL_law_X10_tell
