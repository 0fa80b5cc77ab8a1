set_option maxRecDepth 20000 in
theorem ggL_law_X10_pass : GoodIn wsL_law wsX10_pass := goodIn_r _ [630, 598, 29, 207, 208, 2, 209, 631, 632, 633, 28, 634, 112, 114, 113, 116, 64, 65, 52, 66, 67, 68, 69, 70, 62, 71, 603, 604, 605, 606, 110, 111, 607, 391, 392, 393, 394, 395, 396, 397, 608, 420, 421, 422, 609, 375, 376, 377, 117, 118, 119, 120, 635, 501, 502, 503, 504, 505, 506, 507, 935, 936, 937, 938, 939, 940, 941, 942, 943, 980, 981, 982, 983, 984, 1010] (by decide +kernel) (by decide +kernel)
set_option maxRecDepth 20000 in
theorem gL_law_X10_pass : GoodIn wsL_law (wsV RL 77 RX10 yX10_pass wsX10_pass) := goodIn_app (goodIn_of _ (by decide +kernel)) ggL_law_X10_pass
set_option maxRecDepth 20000 in
theorem ggL_law_X11_pass : GoodIn wsL_law wsX11_pass := goodIn_r _ [639, 616, 617, 618, 5, 619, 190, 166, 182, 183, 184, 185, 186, 187, 188, 189, 191, 192, 193, 194, 195, 196, 197, 444, 445, 446, 447, 620, 621, 622, 436, 437, 438, 439, 623, 624, 625, 626, 461, 462, 463, 464, 440, 441, 442, 443, 465, 466, 467, 468, 944, 945, 946, 947, 948, 949, 950, 951, 952, 953, 954, 955, 956, 957, 958, 959, 960, 961, 962, 963, 964] (by decide +kernel) (by decide +kernel)
set_option maxRecDepth 20000 in
theorem gL_law_X11_pass : GoodIn wsL_law (wsV RL 80 RX11 yX11_pass wsX11_pass) := goodIn_app (goodIn_of _ (by decide +kernel)) ggL_law_X11_pass
set_option maxRecDepth 20000 in
theorem ggL_law_X10_pay : GoodIn wsL_law wsX10_pay := goodIn_r _ [643, 644, 645, 33, 207, 208, 2, 209, 646, 647, 648, 32, 649, 650, 125, 935, 936, 937, 938, 939, 940, 941, 942, 943, 985, 986, 987, 988] (by decide +kernel) (by decide +kernel)
set_option maxRecDepth 20000 in
theorem gL_law_X10_pay : GoodIn wsL_law (wsV RL 81 RX10 yX10_pay wsX10_pay) := goodIn_app (goodIn_of _ (by decide +kernel)) ggL_law_X10_pay
set_option maxRecDepth 20000 in
theorem ggL_law_X11_pay : GoodIn wsL_law wsX11_pay := goodIn_r _ [654, 176, 944, 945, 946, 947, 948, 949, 950, 951, 952, 953, 954, 955, 956, 957, 958, 959, 960, 961, 962, 963, 964] (by decide +kernel) (by decide +kernel)
set_option maxRecDepth 20000 in
theorem gL_law_X11_pay : GoodIn wsL_law (wsV RL 84 RX11 yX11_pay wsX11_pay) := goodIn_app (goodIn_of _ (by decide +kernel)) ggL_law_X11_pay
set_option maxRecDepth 20000 in
theorem ggL_law_X10_ranks : GoodIn wsL_law wsX10_ranks := goodIn_r _ [658, 644, 33, 21, 207, 208, 2, 209, 659, 660, 661, 32, 662, 128, 663, 664, 665, 666, 667, 215, 69, 216, 127, 125, 668, 64, 65, 52, 66, 67, 68, 70, 62, 71, 669, 670, 671, 672, 129, 673, 501, 502, 503, 504, 505, 506, 507, 674, 375, 376, 377, 675, 391, 392, 393, 394, 395, 396, 397, 676, 677, 678, 679, 680, 118, 119, 120, 681, 387, 388, 20, 389, 53, 54, 57, 390, 63, 398, 399, 400, 401, 402, 403, 404, 405, 682, 409, 410, 411, 412, 413, 414, 415, 416, 417, 418, 419, 420, 421, 422, 423, 935, 936, 937, 938, 939, 940, 941, 942, 943, 985, 986, 987, 988, 1010, 965, 966, 967, 968, 969] (by decide +kernel) (by decide +kernel)
set_option maxRecDepth 20000 in
theorem gL_law_X10_ranks : GoodIn wsL_law (wsV RL 85 RX10 yX10_ranks wsX10_ranks) := goodIn_app (goodIn_of _ (by decide +kernel)) ggL_law_X10_ranks
set_option maxRecDepth 20000 in
theorem ggL_law_X11_ranks : GoodIn wsL_law wsX11_ranks := goodIn_r _ [686, 687, 688, 689, 5, 690, 182, 183, 184, 185, 166, 186, 187, 188, 189, 190, 191, 192, 193, 194, 195, 196, 197, 691, 692, 693, 694, 176, 695, 696, 697, 436, 437, 438, 439, 440, 441, 442, 443, 465, 466, 467, 468, 448, 449, 450, 451, 452, 282, 444, 445, 446, 447, 453, 454, 455, 456, 457, 458, 459, 460, 461, 462, 463, 464, 469, 470, 471, 472, 473, 944, 945, 946, 947, 948, 949, 950, 951, 952, 953, 954, 955, 956, 957, 958, 959, 960, 961, 962, 963, 964] (by decide +kernel) (by decide +kernel)
set_option maxRecDepth 20000 in
theorem gL_law_X11_ranks : GoodIn wsL_law (wsV RL 88 RX11 yX11_ranks wsX11_ranks) := goodIn_app (goodIn_of _ (by decide +kernel)) ggL_law_X11_ranks
set_option maxRecDepth 20000 in
theorem ggL_law_X10_yes : GoodIn wsL_law wsX10_yes := goodIn_r _ [701, 644, 33, 207, 208, 2, 209, 702, 703, 704, 32, 705, 650, 127, 128, 663, 664, 665, 666, 667, 215, 69, 216, 125, 668, 64, 65, 52, 66, 67, 68, 70, 62, 71, 669, 670, 671, 672, 129, 673, 501, 502, 503, 504, 505, 506, 507, 674, 375, 376, 377, 675, 391, 392, 393, 394, 395, 396, 397, 676, 677, 678, 679, 680, 118, 119, 120, 935, 936, 937, 938, 939, 940, 941, 942, 943, 985, 986, 987, 988, 1010] (by decide +kernel) (by decide +kernel)
set_option maxRecDepth 20000 in
theorem gL_law_X10_yes : GoodIn wsL_law (wsV RL 89 RX10 yX10_yes wsX10_yes) := goodIn_app (goodIn_of _ (by decide +kernel)) ggL_law_X10_yes
set_option maxRecDepth 20000 in
theorem ggL_law_X11_yes : GoodIn wsL_law wsX11_yes := goodIn_r _ [709, 687, 688, 689, 5, 690, 182, 183, 184, 185, 166, 186, 187, 188, 189, 190, 191, 192, 193, 194, 195, 196, 197, 691, 692, 693, 694, 176, 695, 696, 697, 436, 437, 438, 439, 440, 441, 442, 443, 465, 466, 467, 468, 944, 945, 946, 947, 948, 949, 950, 951, 952, 953, 954, 955, 956, 957, 958, 959, 960, 961, 962, 963, 964] (by decide +kernel) (by decide +kernel)
set_option maxRecDepth 20000 in
theorem gL_law_X11_yes : GoodIn wsL_law (wsV RL 92 RX11 yX11_yes wsX11_yes) := goodIn_app (goodIn_of _ (by decide +kernel)) ggL_law_X11_yes
set_option maxRecDepth 20000 in
theorem ggL_law_X10_happen : GoodIn wsL_law wsX10_happen := goodIn_r _ [713, 714, 37, 207, 208, 2, 209, 715, 716, 717, 36, 718, 135, 133, 134, 935, 936, 937, 938, 939, 940, 941, 942, 943, 989, 990, 991, 992, 993, 994] (by decide +kernel) (by decide +kernel)
set_option maxRecDepth 20000 in
theorem gL_law_X10_happen : GoodIn wsL_law (wsV RL 93 RX10 yX10_happen wsX10_happen) := goodIn_app (goodIn_of _ (by decide +kernel)) ggL_law_X10_happen
set_option maxRecDepth 20000 in
theorem ggL_law_X11_happen : GoodIn wsL_law wsX11_happen := goodIn_r _ [722, 723, 177, 178, 944, 945, 946, 947, 948, 949, 950, 951, 952, 953, 954, 955, 956, 957, 958, 959, 960, 961, 962, 963, 964] (by decide +kernel) (by decide +kernel)
set_option maxRecDepth 20000 in
theorem gL_law_X11_happen : GoodIn wsL_law (wsV RL 97 RX11 yX11_happen wsX11_happen) := goodIn_app (goodIn_of _ (by decide +kernel)) ggL_law_X11_happen
set_option maxRecDepth 20000 in
theorem ggL_law_X10_forget : GoodIn wsL_law wsX10_forget := goodIn_r _ [727, 37, 728, 729, 730, 36, 731, 135, 935, 936, 937, 938, 939, 940, 941, 942, 943, 989, 990, 991, 992, 993, 994] (by decide +kernel) (by decide +kernel)
set_option maxRecDepth 20000 in
theorem gL_law_X10_forget : GoodIn wsL_law (wsV RL 98 RX10 yX10_forget wsX10_forget) := goodIn_app (goodIn_of _ (by decide +kernel)) ggL_law_X10_forget
set_option maxRecDepth 20000 in
theorem ggL_law_X11_forget : GoodIn wsL_law wsX11_forget := goodIn_r _ [735, 723, 944, 945, 946, 947, 948, 949, 950, 951, 952, 953, 954, 955, 956, 957, 958, 959, 960, 961, 962, 963, 964] (by decide +kernel) (by decide +kernel)
set_option maxRecDepth 20000 in
theorem gL_law_X11_forget : GoodIn wsL_law (wsV RL 101 RX11 yX11_forget wsX11_forget) := goodIn_app (goodIn_of _ (by decide +kernel)) ggL_law_X11_forget
set_option maxRecDepth 20000 in
theorem ggL_law_X10_last : GoodIn wsL_law wsX10_last := goodIn_r _ [739, 37, 21, 740, 741, 742, 36, 743, 135, 137, 138, 139, 134, 744, 64, 65, 52, 66, 67, 68, 69, 70, 62, 71, 745, 746, 747, 748, 133, 749, 118, 119, 120, 750, 375, 376, 377, 751, 501, 502, 503, 504, 505, 506, 507, 752, 391, 392, 393, 394, 395, 396, 397, 753, 387, 388, 20, 389, 53, 54, 57, 390, 63, 398, 399, 400, 401, 402, 403, 404, 405, 754, 409, 410, 411, 412, 413, 414, 415, 416, 417, 418, 419, 420, 421, 422, 423, 935, 936, 937, 938, 939, 940, 941, 942, 943, 989, 990, 991, 992, 993, 994, 1010, 965, 966, 967, 968, 969] (by decide +kernel) (by decide +kernel)
set_option maxRecDepth 20000 in
theorem gL_law_X10_last : GoodIn wsL_law (wsV RL 102 RX10 yX10_last wsX10_last) := goodIn_app (goodIn_of _ (by decide +kernel)) ggL_law_X10_last
set_option maxRecDepth 20000 in
theorem ggL_law_X11_last : GoodIn wsL_law wsX11_last := goodIn_r _ [758, 723, 178, 177, 182, 183, 184, 5, 185, 166, 186, 187, 188, 189, 190, 191, 192, 193, 194, 195, 196, 197, 436, 437, 438, 439, 440, 441, 442, 443, 444, 445, 446, 447, 465, 466, 467, 468, 448, 449, 450, 451, 452, 282, 453, 454, 455, 456, 457, 458, 459, 460, 461, 462, 463, 464, 469, 470, 471, 472, 473, 944, 945, 946, 947, 948, 949, 950, 951, 952, 953, 954, 955, 956, 957, 958, 959, 960, 961, 962, 963, 964] (by decide +kernel) (by decide +kernel)
set_option maxRecDepth 20000 in
theorem gL_law_X11_last : GoodIn wsL_law (wsV RL 105 RX11 yX11_last wsX11_last) := goodIn_app (goodIn_of _ (by decide +kernel)) ggL_law_X11_last
set_option maxRecDepth 20000 in
theorem ggL_law_X10_box : GoodIn wsL_law wsX10_box := goodIn_r _ [762, 645, 41, 16, 288, 289, 290, 2, 291, 17, 207, 208, 209, 763, 764, 765, 40, 766, 144, 146, 767, 297, 298, 78, 299, 97, 768, 301, 302, 303, 96, 769, 770, 771, 772, 148, 147, 773, 362, 363, 364, 95, 774, 379, 380, 45, 381, 104, 775, 496, 497, 498, 103, 101, 776, 371, 372, 373, 102, 777, 366, 367, 368, 778, 779, 780, 781, 782, 783, 784, 785, 149, 935, 936, 937, 938, 939, 940, 941, 942, 943, 995, 996, 997, 998, 999, 1000, 1001, 1002, 1011, 1012, 1013, 1006, 1007, 1008, 1009] (by decide +kernel) (by decide +kernel)
set_option maxRecDepth 20000 in
theorem gL_law_X10_box : GoodIn wsL_law (wsV RL 106 RX10 yX10_box wsX10_box) := goodIn_app (goodIn_of _ (by decide +kernel)) ggL_law_X10_box
