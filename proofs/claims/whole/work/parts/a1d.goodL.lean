set_option maxRecDepth 20000 in
theorem ggL_law_X11_box : GoodIn wsL_law wsX11_box := goodIn_r _ [789, 790, 179, 180, 309, 310, 311, 5, 312, 280, 944, 945, 946, 947, 948, 949, 950, 951, 952, 953, 954, 955, 956, 957, 958, 959, 960, 961, 962, 963, 964] (by decide +kernel) (by decide +kernel)
set_option maxRecDepth 20000 in
theorem gL_law_X11_box : GoodIn wsL_law (wsV RL 109 RX11 yX11_box wsX11_box) := goodIn_app (goodIn_of _ (by decide +kernel)) ggL_law_X11_box
set_option maxRecDepth 20000 in
theorem ggL_law_X10_empty : GoodIn wsL_law wsX10_empty := goodIn_r _ [794, 41, 795, 796, 797, 40, 798, 144, 767, 297, 298, 78, 299, 97, 799, 322, 323, 324, 935, 936, 937, 938, 939, 940, 941, 942, 943, 995, 996, 997, 998, 999, 1000, 1001, 1002, 1011, 1012, 1013] (by decide +kernel) (by decide +kernel)
set_option maxRecDepth 20000 in
theorem gL_law_X10_empty : GoodIn wsL_law (wsV RL 110 RX10 yX10_empty wsX10_empty) := goodIn_app (goodIn_of _ (by decide +kernel)) ggL_law_X10_empty
set_option maxRecDepth 20000 in
theorem ggL_law_X11_empty : GoodIn wsL_law wsX11_empty := goodIn_r _ [803, 790, 944, 945, 946, 947, 948, 949, 950, 951, 952, 953, 954, 955, 956, 957, 958, 959, 960, 961, 962, 963, 964] (by decide +kernel) (by decide +kernel)
set_option maxRecDepth 20000 in
theorem gL_law_X11_empty : GoodIn wsL_law (wsV RL 113 RX11 yX11_empty wsX11_empty) := goodIn_app (goodIn_of _ (by decide +kernel)) ggL_law_X11_empty
set_option maxRecDepth 20000 in
theorem ggL_law_X10_fair : GoodIn wsL_law wsX10_fair := goodIn_r _ [807, 41, 21, 808, 809, 810, 40, 811, 144, 767, 297, 298, 78, 299, 97, 207, 208, 2, 209, 812, 813, 814, 815, 816, 147, 148, 817, 818, 819, 20, 820, 55, 821, 822, 69, 823, 57, 63, 64, 65, 52, 66, 67, 68, 70, 62, 71, 824, 387, 388, 389, 53, 54, 390, 391, 392, 393, 394, 395, 396, 397, 398, 399, 400, 401, 402, 403, 404, 405, 825, 409, 410, 411, 412, 413, 414, 415, 416, 417, 418, 419, 420, 421, 422, 423, 118, 119, 120, 826, 505, 506, 507, 935, 936, 937, 938, 939, 940, 941, 942, 943, 995, 996, 997, 998, 999, 1000, 1001, 1002, 1011, 1012, 1013, 965, 966, 967, 968, 969, 1010] (by decide +kernel) (by decide +kernel)
set_option maxRecDepth 20000 in
theorem gL_law_X10_fair : GoodIn wsL_law (wsV RL 114 RX10 yX10_fair wsX10_fair) := goodIn_app (goodIn_of _ (by decide +kernel)) ggL_law_X10_fair
set_option maxRecDepth 20000 in
theorem ggL_law_X11_fair : GoodIn wsL_law wsX11_fair := goodIn_r _ [830, 790, 179, 180, 173, 432, 433, 434, 5, 435, 170, 171, 172, 182, 183, 184, 185, 166, 186, 187, 188, 189, 190, 191, 192, 193, 194, 195, 196, 197, 448, 449, 450, 451, 452, 282, 444, 445, 446, 447, 436, 437, 438, 439, 453, 454, 455, 456, 457, 458, 459, 460, 461, 462, 463, 464, 465, 466, 467, 468, 440, 441, 442, 443, 469, 470, 471, 472, 473, 944, 945, 946, 947, 948, 949, 950, 951, 952, 953, 954, 955, 956, 957, 958, 959, 960, 961, 962, 963, 964] (by decide +kernel) (by decide +kernel)
set_option maxRecDepth 20000 in
theorem gL_law_X11_fair : GoodIn wsL_law (wsV RL 117 RX11 yX11_fair wsX11_fair) := goodIn_app (goodIn_of _ (by decide +kernel)) ggL_law_X11_fair
set_option maxRecDepth 20000 in
theorem ggL_law_X10_search : GoodIn wsL_law wsX10_search := goodIn_r _ [834, 41, 21, 835, 836, 837, 40, 838, 145, 151, 144, 839, 215, 69, 216, 149, 799, 322, 323, 78, 324, 97, 840, 64, 65, 52, 66, 67, 68, 70, 62, 71, 767, 297, 298, 299, 773, 362, 363, 364, 96, 95, 208, 2, 209, 774, 379, 380, 45, 381, 104, 841, 118, 119, 120, 842, 843, 844, 845, 152, 846, 847, 848, 849, 146, 850, 529, 530, 777, 366, 367, 368, 103, 101, 102, 776, 371, 372, 373, 851, 553, 554, 555, 406, 556, 496, 497, 498, 852, 558, 559, 560, 561, 562, 563, 853, 375, 376, 377, 768, 301, 302, 303, 854, 383, 384, 385, 386, 387, 388, 20, 389, 53, 54, 57, 390, 391, 392, 393, 394, 395, 396, 397, 63, 398, 399, 400, 401, 402, 403, 404, 405, 407, 408, 409, 410, 411, 412, 413, 414, 415, 416, 417, 418, 419, 420, 421, 422, 423, 935, 936, 937, 938, 939, 940, 941, 942, 943, 995, 996, 997, 998, 999, 1000, 1001, 1002, 1011, 1012, 1013, 1010, 1006, 1007, 1008, 1009, 965, 966, 967, 968, 969] (by decide +kernel) (by decide +kernel)
set_option maxRecDepth 20000 in
theorem gL_law_X10_search : GoodIn wsL_law (wsV RL 118 RX10 yX10_search wsX10_search) := goodIn_app (goodIn_of _ (by decide +kernel)) ggL_law_X10_search
set_option maxRecDepth 20000 in
theorem ggL_law_X11_search : GoodIn wsL_law wsX11_search := goodIn_r _ [858, 859, 790, 179, 170, 171, 181, 173, 180, 528, 529, 69, 530, 172, 182, 183, 184, 5, 185, 166, 186, 187, 188, 189, 190, 191, 192, 193, 194, 195, 196, 197, 436, 437, 438, 439, 440, 441, 442, 443, 860, 861, 862, 863, 465, 466, 467, 468, 444, 445, 446, 447, 448, 449, 450, 451, 452, 282, 453, 454, 455, 456, 457, 458, 459, 460, 461, 462, 463, 464, 469, 470, 471, 472, 473, 944, 945, 946, 947, 948, 949, 950, 951, 952, 953, 954, 955, 956, 957, 958, 959, 960, 961, 962, 963, 964] (by decide +kernel) (by decide +kernel)
set_option maxRecDepth 20000 in
theorem gL_law_X11_search : GoodIn wsL_law (wsV RL 121 RX11 yX11_search wsX11_search) := goodIn_app (goodIn_of _ (by decide +kernel)) ggL_law_X11_search
set_option maxRecDepth 20000 in
theorem ggL_law_X10_look : GoodIn wsL_law wsX10_look := goodIn_r _ [867, 21, 868, 869, 870, 20, 871, 57, 872, 873, 874, 875, 54, 53, 876, 403, 404, 52, 405, 62, 935, 936, 937, 938, 939, 940, 941, 942, 943, 965, 966, 967, 968, 969, 1010] (by decide +kernel) (by decide +kernel)
set_option maxRecDepth 20000 in
theorem gL_law_X10_look : GoodIn wsL_law (wsV RL 122 RX10 yX10_look wsX10_look) := goodIn_app (goodIn_of _ (by decide +kernel)) ggL_law_X10_look
set_option maxRecDepth 20000 in
theorem ggL_law_X11_look : GoodIn wsL_law wsX11_look := goodIn_r _ [880, 881, 882, 883, 5, 884, 452, 444, 445, 446, 447, 166, 885, 886, 887, 888, 453, 454, 455, 456, 436, 437, 438, 439, 186, 187, 188, 189, 190, 191, 192, 193, 194, 195, 196, 197, 889, 890, 891, 892, 944, 945, 946, 947, 948, 949, 950, 951, 952, 953, 954, 955, 956, 957, 958, 959, 960, 961, 962, 963, 964] (by decide +kernel) (by decide +kernel)
set_option maxRecDepth 20000 in
theorem gL_law_X11_look : GoodIn wsL_law (wsV RL 125 RX11 yX11_look wsX11_look) := goodIn_app (goodIn_of _ (by decide +kernel)) ggL_law_X11_look
set_option maxRecDepth 20000 in
theorem ggL_law_X10_part : GoodIn wsL_law wsX10_part := goodIn_r _ [896, 21, 872, 873, 874, 20, 875, 54, 53, 897, 898, 899, 52, 900, 901, 62, 208, 2, 209, 935, 936, 937, 938, 939, 940, 941, 942, 943, 965, 966, 967, 968, 969, 1010] (by decide +kernel) (by decide +kernel)
set_option maxRecDepth 20000 in
theorem gL_law_X10_part : GoodIn wsL_law (wsV RL 126 RX10 yX10_part wsX10_part) := goodIn_app (goodIn_of _ (by decide +kernel)) ggL_law_X10_part
set_option maxRecDepth 20000 in
theorem ggL_law_X11_part : GoodIn wsL_law wsX11_part := goodIn_r _ [905, 166, 881, 882, 883, 5, 884, 452, 444, 445, 446, 447, 885, 886, 887, 888, 453, 454, 455, 456, 436, 437, 438, 439, 186, 187, 188, 189, 190, 191, 192, 193, 194, 195, 196, 197, 944, 945, 946, 947, 948, 949, 950, 951, 952, 953, 954, 955, 956, 957, 958, 959, 960, 961, 962, 963, 964] (by decide +kernel) (by decide +kernel)
set_option maxRecDepth 20000 in
theorem gL_law_X11_part : GoodIn wsL_law (wsV RL 130 RX11 yX11_part wsX11_part) := goodIn_app (goodIn_of _ (by decide +kernel)) ggL_law_X11_part
set_option maxRecDepth 20000 in
theorem ggL_law_X10_compare : GoodIn wsL_law wsX10_compare := goodIn_r _ [909, 21, 910, 911, 912, 20, 913, 57, 55, 53, 56, 54, 821, 822, 69, 823, 826, 505, 506, 507, 390, 391, 392, 52, 393, 62, 394, 395, 396, 397, 423, 118, 119, 120, 71, 914, 501, 502, 503, 504, 935, 936, 937, 938, 939, 940, 941, 942, 943, 965, 966, 967, 968, 969, 1010] (by decide +kernel) (by decide +kernel)
set_option maxRecDepth 20000 in
theorem gL_law_X10_compare : GoodIn wsL_law (wsV RL 131 RX10 yX10_compare wsX10_compare) := goodIn_app (goodIn_of _ (by decide +kernel)) ggL_law_X10_compare
set_option maxRecDepth 20000 in
theorem ggL_law_X11_compare : GoodIn wsL_law wsX11_compare := goodIn_r _ [918, 444, 445, 446, 5, 447, 166, 436, 437, 438, 439, 186, 187, 188, 189, 190, 191, 192, 193, 194, 195, 196, 197, 465, 466, 467, 468, 944, 945, 946, 947, 948, 949, 950, 951, 952, 953, 954, 955, 956, 957, 958, 959, 960, 961, 962, 963, 964] (by decide +kernel) (by decide +kernel)
set_option maxRecDepth 20000 in
theorem gL_law_X11_compare : GoodIn wsL_law (wsV RL 134 RX11 yX11_compare wsX11_compare) := goodIn_app (goodIn_of _ (by decide +kernel)) ggL_law_X11_compare
set_option maxRecDepth 20000 in
theorem ggL_law_X10_count : GoodIn wsL_law wsX10_count := goodIn_r _ [922, 17, 25, 37, 41, 334, 335, 336, 24, 337, 79, 296, 297, 298, 78, 299, 97, 923, 924, 925, 36, 926, 135, 808, 809, 810, 40, 811, 144, 767, 927, 928, 929, 2, 930, 14, 232, 233, 234, 43, 235, 160, 935, 936, 937, 938, 939, 940, 941, 942, 943, 970, 971, 972, 973, 974, 975, 976, 977, 978, 979, 1011, 1012, 1013, 989, 990, 991, 992, 993, 994, 995, 996, 997, 998, 999, 1000, 1001, 1002, 1003, 1004, 1005] (by decide +kernel) (by decide +kernel)
set_option maxRecDepth 20000 in
theorem gL_law_X10_count : GoodIn wsL_law (wsV RL 135 RX10 yX10_count wsX10_count) := goodIn_app (goodIn_of _ (by decide +kernel)) ggL_law_X10_count
set_option maxRecDepth 20000 in
theorem ggL_law_X11_count : GoodIn wsL_law wsX11_count := goodIn_r _ [934, 280, 308, 723, 790, 167, 944, 945, 946, 947, 948, 949, 950, 951, 952, 953, 954, 955, 956, 957, 958, 959, 960, 961, 962, 963, 964] (by decide +kernel) (by decide +kernel)
set_option maxRecDepth 20000 in
theorem gL_law_X11_count : GoodIn wsL_law (wsV RL 138 RX11 yX11_count wsX11_count) := goodIn_app (goodIn_of _ (by decide +kernel)) ggL_law_X11_count
