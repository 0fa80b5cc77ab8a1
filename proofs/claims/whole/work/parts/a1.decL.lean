set_option maxRecDepth 20000 in
theorem ggL_law_X10_init : GoodIn wsL_law wsX10_init := goodIn_r _ [9, 10, 11, 12, 13, 14, 15, 16, 17, 18, 19, 20, 21, 22, 23, 24, 25, 26, 27, 28, 29, 30, 31, 32, 33, 34, 35, 36, 37, 38, 39, 40, 41, 42, 43, 44, 45, 46, 47, 48, 49, 50, 51, 52, 53, 54, 55, 56, 57, 58, 59, 60, 61, 62, 63, 64, 65, 66, 67, 68, 69, 70, 71, 72, 73, 74, 75, 76, 77, 78, 79, 80, 81, 82, 83, 84, 85, 86, 87, 88, 89, 90, 91, 92, 93, 94, 95, 96, 97, 98, 99, 100, 101, 102, 103, 104, 105, 106, 107, 108, 109, 110, 111, 112, 113, 114, 115, 116, 117, 118, 119, 120, 121, 122, 123, 124, 125, 126, 127, 128, 129, 130, 131, 132, 133, 134, 135, 136, 137, 138, 139, 140, 141, 142, 143, 144, 145, 146, 147, 148, 149, 150, 151, 152, 153, 154, 155, 156, 157, 158, 159, 160, 935, 936, 937, 938, 939, 940, 941, 942, 943, 965, 966, 967, 968, 969, 970, 971, 972, 973, 974, 975, 976, 977, 978, 979, 980, 981, 982, 983, 984, 985, 986, 987, 988, 989, 990, 991, 992, 993, 994, 995, 996, 997, 998, 999, 1000, 1001, 1002, 1003, 1004, 1005, 1006, 1007, 1008, 1009, 1010, 1011, 1012, 1013] (by decide +kernel) (by decide +kernel)
set_option maxRecDepth 20000 in
theorem gL_law_X10_init : GoodIn wsL_law (wsX10_init) := ggL_law_X10_init
set_option maxRecDepth 20000 in
theorem ggL_law_X11_init : GoodIn wsL_law wsX11_init := goodIn_r _ [163, 164, 11, 12, 165, 157, 166, 61, 167, 168, 169, 170, 171, 172, 173, 174, 175, 176, 177, 178, 179, 180, 181, 182, 183, 184, 5, 185, 186, 187, 188, 189, 190, 191, 192, 193, 194, 195, 196, 197, 944, 945, 946, 947, 948, 949, 950, 951, 952, 953, 954, 955, 956, 957, 958, 959, 960, 961, 962, 963, 964] (by decide +kernel) (by decide +kernel)
set_option maxRecDepth 20000 in
theorem gL_law_X11_init : GoodIn wsL_law (wsX11_init) := ggL_law_X11_init
set_option maxRecDepth 20000 in
theorem ggL_law_X10_row : GoodIn wsL_law wsX10_row := goodIn_r _ [201, 202, 14, 203, 204, 2, 205, 206, 207, 208, 209, 210, 211, 212, 43, 213, 158, 159, 214, 215, 69, 216, 160, 217, 218, 219, 220, 935, 936, 937, 938, 939, 940, 941, 942, 943, 1003, 1004, 1005] (by decide +kernel) (by decide +kernel)
set_option maxRecDepth 20000 in
theorem gL_law_X10_row : GoodIn wsL_law (wsV RL 13 RX10 yX10_row wsX10_row) := goodIn_app (goodIn_of _ (by decide +kernel)) ggL_law_X10_row
set_option maxRecDepth 20000 in
theorem ggL_law_X11_row : GoodIn wsL_law wsX11_row := goodIn_r _ [224, 167, 168, 169, 225, 226, 5, 227, 944, 945, 946, 947, 948, 949, 950, 951, 952, 953, 954, 955, 956, 957, 958, 959, 960, 961, 962, 963, 964] (by decide +kernel) (by decide +kernel)
set_option maxRecDepth 20000 in
theorem gL_law_X11_row : GoodIn wsL_law (wsV RL 17 RX11 yX11_row wsX11_row) := goodIn_app (goodIn_of _ (by decide +kernel)) ggL_law_X11_row
set_option maxRecDepth 20000 in
theorem ggL_law_X10_tear : GoodIn wsL_law wsX10_tear := goodIn_r _ [231, 14, 203, 204, 2, 205, 206, 207, 208, 209, 232, 233, 234, 43, 235, 160, 236, 237, 238, 239, 935, 936, 937, 938, 939, 940, 941, 942, 943, 1003, 1004, 1005] (by decide +kernel) (by decide +kernel)
set_option maxRecDepth 20000 in
theorem gL_law_X10_tear : GoodIn wsL_law (wsV RL 18 RX10 yX10_tear wsX10_tear) := goodIn_app (goodIn_of _ (by decide +kernel)) ggL_law_X10_tear
set_option maxRecDepth 20000 in
theorem ggL_law_X11_tear : GoodIn wsL_law wsX11_tear := goodIn_r _ [243, 167, 225, 226, 5, 227, 944, 945, 946, 947, 948, 949, 950, 951, 952, 953, 954, 955, 956, 957, 958, 959, 960, 961, 962, 963, 964] (by decide +kernel) (by decide +kernel)
set_option maxRecDepth 20000 in
theorem gL_law_X11_tear : GoodIn wsL_law (wsV RL 22 RX11 yX11_tear wsX11_tear) := goodIn_app (goodIn_of _ (by decide +kernel)) ggL_law_X11_tear
set_option maxRecDepth 20000 in
theorem ggL_law_X10_write : GoodIn wsL_law wsX10_write := goodIn_r _ [247, 14, 203, 204, 2, 205, 206, 207, 208, 209, 232, 233, 234, 43, 235, 160, 248, 249, 250, 251, 158, 252, 253, 254, 255, 159, 935, 936, 937, 938, 939, 940, 941, 942, 943, 1003, 1004, 1005] (by decide +kernel) (by decide +kernel)
set_option maxRecDepth 20000 in
theorem gL_law_X10_write : GoodIn wsL_law (wsV RL 25 RX10 yX10_write wsX10_write) := goodIn_app (goodIn_of _ (by decide +kernel)) ggL_law_X10_write
set_option maxRecDepth 20000 in
theorem ggL_law_X11_write : GoodIn wsL_law wsX11_write := goodIn_r _ [259, 167, 168, 169, 225, 226, 5, 227, 944, 945, 946, 947, 948, 949, 950, 951, 952, 953, 954, 955, 956, 957, 958, 959, 960, 961, 962, 963, 964] (by decide +kernel) (by decide +kernel)
set_option maxRecDepth 20000 in
theorem gL_law_X11_write : GoodIn wsL_law (wsV RL 29 RX11 yX11_write wsX11_write) := goodIn_app (goodIn_of _ (by decide +kernel)) ggL_law_X11_write
set_option maxRecDepth 20000 in
theorem ggL_law_X10_book : GoodIn wsL_law wsX10_book := goodIn_r _ [263, 17, 14, 16, 203, 204, 2, 205, 206, 207, 208, 209, 232, 233, 234, 43, 235, 160, 264, 265, 266, 45, 267, 103, 104, 268, 269, 270, 271, 158, 272, 273, 274, 275, 101, 102, 935, 936, 937, 938, 939, 940, 941, 942, 943, 1003, 1004, 1005, 1006, 1007, 1008, 1009] (by decide +kernel) (by decide +kernel)
set_option maxRecDepth 20000 in
theorem gL_law_X10_book : GoodIn wsL_law (wsV RL 30 RX10 yX10_book wsX10_book) := goodIn_app (goodIn_of _ (by decide +kernel)) ggL_law_X10_book
set_option maxRecDepth 20000 in
theorem ggL_law_X11_book : GoodIn wsL_law wsX11_book := goodIn_r _ [279, 280, 167, 169, 281, 282, 283, 171, 172, 170, 173, 225, 226, 5, 227, 944, 945, 946, 947, 948, 949, 950, 951, 952, 953, 954, 955, 956, 957, 958, 959, 960, 961, 962, 963, 964] (by decide +kernel) (by decide +kernel)
set_option maxRecDepth 20000 in
theorem gL_law_X11_book : GoodIn wsL_law (wsV RL 34 RX11 yX11_book wsX11_book) := goodIn_app (goodIn_of _ (by decide +kernel)) ggL_law_X11_book
set_option maxRecDepth 20000 in
theorem ggL_law_X10_comer : GoodIn wsL_law wsX10_comer := goodIn_r _ [287, 25, 16, 288, 289, 290, 2, 291, 17, 207, 208, 209, 292, 293, 294, 24, 295, 79, 80, 296, 297, 298, 78, 299, 97, 300, 301, 302, 303, 96, 935, 936, 937, 938, 939, 940, 941, 942, 943, 970, 971, 972, 973, 974, 975, 976, 977, 978, 979, 1011, 1012, 1013] (by decide +kernel) (by decide +kernel)
set_option maxRecDepth 20000 in
theorem gL_law_X10_comer : GoodIn wsL_law (wsV RL 35 RX10 yX10_comer wsX10_comer) := goodIn_app (goodIn_of _ (by decide +kernel)) ggL_law_X10_comer
set_option maxRecDepth 20000 in
theorem ggL_law_X11_comer : GoodIn wsL_law wsX11_comer := goodIn_r _ [307, 308, 174, 175, 309, 310, 311, 5, 312, 280, 944, 945, 946, 947, 948, 949, 950, 951, 952, 953, 954, 955, 956, 957, 958, 959, 960, 961, 962, 963, 964] (by decide +kernel) (by decide +kernel)
set_option maxRecDepth 20000 in
theorem gL_law_X11_comer : GoodIn wsL_law (wsV RL 38 RX11 yX11_comer wsX11_comer) := goodIn_app (goodIn_of _ (by decide +kernel)) ggL_law_X11_comer
set_option maxRecDepth 20000 in
theorem ggL_law_X10_dismiss : GoodIn wsL_law wsX10_dismiss := goodIn_r _ [316, 25, 317, 318, 319, 24, 320, 79, 296, 297, 298, 78, 299, 97, 321, 322, 323, 324, 935, 936, 937, 938, 939, 940, 941, 942, 943, 970, 971, 972, 973, 974, 975, 976, 977, 978, 979, 1011, 1012, 1013] (by decide +kernel) (by decide +kernel)
set_option maxRecDepth 20000 in
theorem gL_law_X10_dismiss : GoodIn wsL_law (wsV RL 39 RX10 yX10_dismiss wsX10_dismiss) := goodIn_app (goodIn_of _ (by decide +kernel)) ggL_law_X10_dismiss
set_option maxRecDepth 20000 in
theorem ggL_law_X11_dismiss : GoodIn wsL_law wsX11_dismiss := goodIn_r _ [328, 308, 944, 945, 946, 947, 948, 949, 950, 951, 952, 953, 954, 955, 956, 957, 958, 959, 960, 961, 962, 963, 964] (by decide +kernel) (by decide +kernel)
set_option maxRecDepth 20000 in
theorem gL_law_X11_dismiss : GoodIn wsL_law (wsV RL 43 RX11 yX11_dismiss wsX11_dismiss) := goodIn_app (goodIn_of _ (by decide +kernel)) ggL_law_X11_dismiss
set_option maxRecDepth 20000 in
theorem ggL_law_X10_tell : GoodIn wsL_law wsX10_tell := goodIn_r _ [332, 25, 333, 334, 335, 336, 24, 337, 79, 296, 297, 298, 78, 299, 97, 207, 208, 2, 209, 338, 339, 340, 341, 342, 80, 935, 936, 937, 938, 939, 940, 941, 942, 943, 970, 971, 972, 973, 974, 975, 976, 977, 978, 979, 1011, 1012, 1013] (by decide +kernel) (by decide +kernel)
set_option maxRecDepth 20000 in
theorem gL_law_X10_tell : GoodIn wsL_law (wsV RL 44 RX10 yX10_tell wsX10_tell) := goodIn_app (goodIn_of _ (by decide +kernel)) ggL_law_X10_tell
set_option maxRecDepth 20000 in
theorem ggL_law_X11_tell : GoodIn wsL_law wsX11_tell := goodIn_r _ [346, 308, 175, 944, 945, 946, 947, 948, 949, 950, 951, 952, 953, 954, 955, 956, 957, 958, 959, 960, 961, 962, 963, 964] (by decide +kernel) (by decide +kernel)
set_option maxRecDepth 20000 in
theorem gL_law_X11_tell : GoodIn wsL_law (wsV RL 48 RX11 yX11_tell wsX11_tell) := goodIn_app (goodIn_of _ (by decide +kernel)) ggL_law_X11_tell
set_option maxRecDepth 20000 in
theorem ggL_law_X10_told : GoodIn wsL_law wsX10_told := goodIn_r _ [350, 25, 21, 351, 352, 353, 24, 354, 80, 79, 85, 355, 356, 357, 358, 86, 359, 215, 69, 216, 360, 64, 65, 52, 66, 67, 68, 70, 62, 71, 296, 297, 298, 78, 299, 97, 361, 362, 363, 364, 96, 95, 208, 2, 209, 365, 366, 367, 45, 368, 103, 101, 102, 369, 118, 119, 120, 370, 371, 372, 373, 374, 375, 376, 377, 378, 379, 380, 381, 104, 382, 383, 384, 385, 386, 387, 388, 20, 389, 53, 54, 57, 390, 391, 392, 393, 394, 395, 396, 397, 63, 398, 399, 400, 401, 402, 403, 404, 405, 406, 407, 408, 409, 410, 411, 412, 413, 414, 415, 416, 417, 418, 419, 420, 421, 422, 423, 935, 936, 937, 938, 939, 940, 941, 942, 943, 970, 971, 972, 973, 974, 975, 976, 977, 978, 979, 1010, 1011, 1012, 1013, 1006, 1007, 1008, 1009, 965, 966, 967, 968, 969] (by decide +kernel) (by decide +kernel)
set_option maxRecDepth 20000 in
theorem gL_law_X10_told : GoodIn wsL_law (wsV RL 49 RX10 yX10_told wsX10_told) := goodIn_app (goodIn_of _ (by decide +kernel)) ggL_law_X10_told
set_option maxRecDepth 20000 in
theorem ggL_law_X11_told : GoodIn wsL_law wsX11_told := goodIn_r _ [427, 428, 429, 430, 5, 431, 308, 174, 175, 170, 171, 172, 173, 182, 183, 184, 185, 166, 186, 187, 188, 189, 190, 191, 192, 193, 194, 195, 196, 197, 432, 433, 434, 435, 436, 437, 438, 439, 440, 441, 442, 443, 444, 445, 446, 447, 448, 449, 450, 451, 452, 282, 453, 454, 455, 456, 457, 458, 459, 460, 461, 462, 463, 464, 465, 466, 467, 468, 469, 470, 471, 472, 473, 944, 945, 946, 947, 948, 949, 950, 951, 952, 953, 954, 955, 956, 957, 958, 959, 960, 961, 962, 963, 964] (by decide +kernel) (by decide +kernel)
set_option maxRecDepth 20000 in
theorem gL_law_X11_told : GoodIn wsL_law (wsV RL 52 RX11 yX11_told wsX11_told) := goodIn_app (goodIn_of _ (by decide +kernel)) ggL_law_X11_told
set_option maxRecDepth 20000 in
theorem ggL_law_X10_best : GoodIn wsL_law wsX10_best := goodIn_r _ [477, 25, 21, 478, 479, 480, 24, 481, 79, 84, 482, 483, 484, 485, 486, 86, 359, 215, 69, 216, 81, 360, 64, 65, 52, 66, 67, 68, 70, 62, 71, 296, 297, 298, 78, 299, 97, 361, 362, 363, 364, 96, 95, 208, 2, 209, 487, 488, 489, 490, 491, 492, 493, 494, 87, 495, 496, 497, 45, 498, 103, 101, 499, 391, 392, 393, 394, 395, 396, 397, 374, 375, 376, 377, 500, 501, 502, 503, 504, 505, 506, 507, 365, 366, 367, 368, 102, 369, 118, 119, 120, 378, 379, 380, 381, 104, 370, 371, 372, 373, 382, 383, 384, 385, 386, 387, 388, 20, 389, 53, 54, 57, 390, 63, 398, 399, 400, 401, 402, 403, 404, 405, 406, 407, 408, 409, 410, 411, 412, 413, 414, 415, 416, 417, 418, 419, 420, 421, 422, 423, 935, 936, 937, 938, 939, 940, 941, 942, 943, 970, 971, 972, 973, 974, 975, 976, 977, 978, 979, 1010, 1011, 1012, 1013, 1006, 1007, 1008, 1009, 965, 966, 967, 968, 969] (by decide +kernel) (by decide +kernel)
set_option maxRecDepth 20000 in
theorem gL_law_X10_best : GoodIn wsL_law (wsV RL 53 RX10 yX10_best wsX10_best) := goodIn_app (goodIn_of _ (by decide +kernel)) ggL_law_X10_best
set_option maxRecDepth 20000 in
theorem ggL_law_X11_best : GoodIn wsL_law wsX11_best := goodIn_r _ [511, 512, 513, 514, 5, 515, 308, 174, 170, 171, 172, 173, 182, 183, 184, 185, 166, 186, 187, 188, 189, 190, 191, 192, 193, 194, 195, 196, 197, 440, 441, 442, 443, 465, 466, 467, 468, 444, 445, 446, 447, 436, 437, 438, 439, 448, 449, 450, 451, 452, 282, 453, 454, 455, 456, 457, 458, 459, 460, 461, 462, 463, 464, 469, 470, 471, 472, 473, 944, 945, 946, 947, 948, 949, 950, 951, 952, 953, 954, 955, 956, 957, 958, 959, 960, 961, 962, 963, 964] (by decide +kernel) (by decide +kernel)
set_option maxRecDepth 20000 in
theorem gL_law_X11_best : GoodIn wsL_law (wsV RL 56 RX11 yX11_best wsX11_best) := goodIn_app (goodIn_of _ (by decide +kernel)) ggL_law_X11_best
set_option maxRecDepth 20000 in
theorem ggL_law_X10_bar : GoodIn wsL_law wsX10_bar := goodIn_r _ [519, 25, 334, 335, 336, 24, 337, 79, 296, 297, 298, 78, 299, 97, 207, 208, 2, 209, 520, 521, 522, 523, 342, 81, 483, 484, 485, 486, 84, 86, 359, 215, 69, 216, 360, 64, 65, 52, 66, 67, 68, 70, 62, 71, 361, 362, 363, 364, 96, 95, 487, 488, 489, 490, 491, 492, 493, 494, 87, 495, 496, 497, 45, 498, 103, 101, 499, 391, 392, 393, 394, 395, 396, 397, 374, 375, 376, 377, 500, 501, 502, 503, 504, 505, 506, 507, 365, 366, 367, 368, 102, 369, 118, 119, 120, 378, 379, 380, 381, 104, 370, 371, 372, 373, 935, 936, 937, 938, 939, 940, 941, 942, 943, 970, 971, 972, 973, 974, 975, 976, 977, 978, 979, 1011, 1012, 1013, 1010, 1006, 1007, 1008, 1009] (by decide +kernel) (by decide +kernel)
set_option maxRecDepth 20000 in
theorem gL_law_X10_bar : GoodIn wsL_law (wsV RL 57 RX10 yX10_bar wsX10_bar) := goodIn_app (goodIn_of _ (by decide +kernel)) ggL_law_X10_bar
set_option maxRecDepth 20000 in
theorem ggL_law_X11_bar : GoodIn wsL_law wsX11_bar := goodIn_r _ [527, 308, 174, 170, 171, 172, 528, 529, 69, 530, 512, 513, 514, 5, 515, 173, 182, 183, 184, 185, 166, 186, 187, 188, 189, 190, 191, 192, 193, 194, 195, 196, 197, 440, 441, 442, 443, 465, 466, 467, 468, 444, 445, 446, 447, 436, 437, 438, 439, 944, 945, 946, 947, 948, 949, 950, 951, 952, 953, 954, 955, 956, 957, 958, 959, 960, 961, 962, 963, 964] (by decide +kernel) (by decide +kernel)
set_option maxRecDepth 20000 in
theorem gL_law_X11_bar : GoodIn wsL_law (wsV RL 60 RX11 yX11_bar wsX11_bar) := goodIn_app (goodIn_of _ (by decide +kernel)) ggL_law_X11_bar
set_option maxRecDepth 20000 in
theorem ggL_law_X10_few : GoodIn wsL_law wsX10_few := goodIn_r _ [534, 535, 25, 21, 207, 208, 2, 209, 478, 479, 480, 24, 481, 79, 84, 482, 483, 484, 485, 486, 86, 359, 215, 69, 216, 81, 360, 64, 65, 52, 66, 67, 68, 70, 62, 71, 296, 297, 298, 78, 299, 97, 361, 362, 363, 364, 96, 95, 487, 488, 489, 490, 491, 492, 493, 494, 87, 495, 496, 497, 45, 498, 103, 101, 499, 391, 392, 393, 394, 395, 396, 397, 374, 375, 376, 377, 500, 501, 502, 503, 504, 505, 506, 507, 365, 366, 367, 368, 102, 369, 118, 119, 120, 378, 379, 380, 381, 104, 370, 371, 372, 373, 382, 383, 384, 385, 386, 387, 388, 20, 389, 53, 54, 57, 390, 63, 398, 399, 400, 401, 402, 403, 404, 405, 406, 407, 408, 409, 410, 411, 412, 413, 414, 415, 416, 417, 418, 419, 420, 421, 422, 423, 935, 936, 937, 938, 939, 940, 941, 942, 943, 970, 971, 972, 973, 974, 975, 976, 977, 978, 979, 1010, 1011, 1012, 1013, 1006, 1007, 1008, 1009, 965, 966, 967, 968, 969] (by decide +kernel) (by decide +kernel)
set_option maxRecDepth 20000 in
theorem gL_law_X10_few : GoodIn wsL_law (wsV RL 61 RX10 yX10_few wsX10_few) := goodIn_app (goodIn_of _ (by decide +kernel)) ggL_law_X10_few
set_option maxRecDepth 20000 in
theorem ggL_law_X11_few : GoodIn wsL_law wsX11_few := goodIn_r _ [539, 308, 174, 170, 171, 172, 173, 182, 183, 184, 5, 185, 166, 186, 187, 188, 189, 190, 191, 192, 193, 194, 195, 196, 197, 444, 445, 446, 447, 440, 441, 442, 443, 465, 466, 467, 468, 436, 437, 438, 439, 448, 449, 450, 451, 452, 282, 453, 454, 455, 456, 457, 458, 459, 460, 461, 462, 463, 464, 469, 470, 471, 472, 473, 944, 945, 946, 947, 948, 949, 950, 951, 952, 953, 954, 955, 956, 957, 958, 959, 960, 961, 962, 963, 964] (by decide +kernel) (by decide +kernel)
set_option maxRecDepth 20000 in
theorem gL_law_X11_few : GoodIn wsL_law (wsV RL 64 RX11 yX11_few wsX11_few) := goodIn_app (goodIn_of _ (by decide +kernel)) ggL_law_X11_few
set_option maxRecDepth 20000 in
theorem ggL_law_X10_foresight : GoodIn wsL_law wsX10_foresight := goodIn_r _ [543, 25, 21, 544, 545, 546, 24, 547, 79, 89, 548, 549, 550, 551, 88, 87, 360, 64, 65, 52, 66, 67, 68, 69, 70, 62, 71, 552, 553, 554, 78, 555, 97, 406, 362, 363, 364, 96, 95, 208, 2, 209, 556, 496, 497, 45, 498, 103, 101, 557, 558, 559, 560, 561, 562, 366, 367, 368, 102, 563, 118, 119, 120, 374, 375, 376, 377, 564, 565, 566, 567, 568, 192, 193, 194, 569, 196, 197, 499, 391, 392, 393, 394, 395, 396, 397, 382, 383, 384, 385, 386, 387, 388, 20, 389, 53, 54, 57, 390, 63, 398, 399, 400, 401, 402, 403, 404, 405, 407, 379, 380, 381, 104, 408, 409, 410, 411, 412, 413, 414, 415, 416, 417, 418, 419, 420, 421, 422, 423, 935, 936, 937, 938, 939, 940, 941, 942, 943, 970, 971, 972, 973, 974, 975, 976, 977, 978, 979, 1010, 1011, 1012, 1013, 1006, 1007, 1008, 1009, 965, 966, 967, 968, 969] (by decide +kernel) (by decide +kernel)
set_option maxRecDepth 20000 in
theorem gL_law_X10_foresight : GoodIn wsL_law (wsV RL 65 RX10 yX10_foresight wsX10_foresight) := goodIn_app (goodIn_of _ (by decide +kernel)) ggL_law_X10_foresight
set_option maxRecDepth 20000 in
theorem ggL_law_X11_foresight : GoodIn wsL_law wsX11_foresight := goodIn_r _ [573, 574, 575, 576, 5, 577, 308, 173, 174, 452, 182, 183, 184, 185, 166, 186, 187, 188, 189, 190, 191, 192, 193, 194, 195, 196, 197, 436, 437, 438, 439, 432, 433, 434, 435, 170, 171, 172, 440, 441, 442, 443, 444, 445, 446, 447, 448, 449, 450, 451, 282, 453, 454, 455, 456, 457, 458, 459, 460, 461, 462, 463, 464, 465, 466, 467, 468, 469, 470, 471, 472, 473, 944, 945, 946, 947, 948, 949, 950, 951, 952, 953, 954, 955, 956, 957, 958, 959, 960, 961, 962, 963, 964] (by decide +kernel) (by decide +kernel)
set_option maxRecDepth 20000 in
theorem gL_law_X11_foresight : GoodIn wsL_law (wsV RL 68 RX11 yX11_foresight wsX11_foresight) := goodIn_app (goodIn_of _ (by decide +kernel)) ggL_law_X11_foresight
set_option maxRecDepth 20000 in
theorem ggL_law_X10_half : GoodIn wsL_law wsX10_half := goodIn_r _ [581, 25, 582, 583, 584, 24, 585, 82, 85, 586, 79, 89, 548, 549, 550, 551, 88, 87, 360, 64, 65, 52, 66, 67, 68, 69, 70, 62, 71, 552, 553, 554, 78, 555, 97, 406, 362, 363, 364, 96, 95, 208, 2, 209, 556, 496, 497, 45, 498, 103, 101, 557, 558, 559, 560, 561, 562, 366, 367, 368, 102, 563, 118, 119, 120, 374, 375, 376, 377, 564, 565, 566, 567, 568, 192, 193, 194, 569, 196, 197, 499, 391, 392, 393, 394, 395, 396, 397, 587, 588, 219, 589, 355, 356, 357, 358, 86, 359, 215, 216, 296, 297, 298, 299, 361, 365, 369, 370, 371, 372, 373, 378, 379, 380, 381, 104, 500, 501, 502, 503, 504, 505, 506, 507, 935, 936, 937, 938, 939, 940, 941, 942, 943, 970, 971, 972, 973, 974, 975, 976, 977, 978, 979, 1010, 1011, 1012, 1013, 1006, 1007, 1008, 1009] (by decide +kernel) (by decide +kernel)
set_option maxRecDepth 20000 in
theorem gL_law_X10_half : GoodIn wsL_law (wsV RL 69 RX10 yX10_half wsX10_half) := goodIn_app (goodIn_of _ (by decide +kernel)) ggL_law_X10_half
set_option maxRecDepth 20000 in
theorem ggL_law_X11_half : GoodIn wsL_law wsX11_half := goodIn_r _ [593, 282, 574, 575, 576, 5, 577, 308, 173, 174, 452, 182, 183, 184, 185, 166, 186, 187, 188, 189, 190, 191, 192, 193, 194, 195, 196, 197, 436, 437, 438, 439, 432, 433, 434, 435, 170, 171, 172, 440, 441, 442, 443, 444, 445, 446, 447, 428, 429, 430, 431, 175, 465, 466, 467, 468, 944, 945, 946, 947, 948, 949, 950, 951, 952, 953, 954, 955, 956, 957, 958, 959, 960, 961, 962, 963, 964] (by decide +kernel) (by decide +kernel)
set_option maxRecDepth 20000 in
theorem gL_law_X11_half : GoodIn wsL_law (wsV RL 72 RX11 yX11_half wsX11_half) := goodIn_app (goodIn_of _ (by decide +kernel)) ggL_law_X11_half
set_option maxRecDepth 20000 in
theorem ggL_law_X10_letting : GoodIn wsL_law wsX10_letting := goodIn_r _ [597, 598, 29, 21, 207, 208, 2, 209, 599, 600, 601, 28, 602, 112, 113, 115, 116, 64, 65, 52, 66, 67, 68, 69, 70, 62, 71, 603, 604, 605, 606, 110, 111, 607, 391, 392, 393, 394, 395, 396, 397, 608, 420, 421, 422, 609, 375, 376, 377, 117, 118, 119, 120, 610, 387, 388, 20, 389, 53, 54, 57, 390, 63, 398, 399, 400, 401, 402, 403, 404, 405, 611, 409, 410, 411, 412, 413, 414, 415, 416, 417, 418, 419, 423, 935, 936, 937, 938, 939, 940, 941, 942, 943, 980, 981, 982, 983, 984, 1010, 965, 966, 967, 968, 969] (by decide +kernel) (by decide +kernel)
set_option maxRecDepth 20000 in
theorem gL_law_X10_letting : GoodIn wsL_law (wsV RL 73 RX10 yX10_letting wsX10_letting) := goodIn_app (goodIn_of _ (by decide +kernel)) ggL_law_X10_letting
set_option maxRecDepth 20000 in
theorem ggL_law_X11_letting : GoodIn wsL_law wsX11_letting := goodIn_r _ [615, 616, 617, 618, 5, 619, 190, 166, 182, 183, 184, 185, 186, 187, 188, 189, 191, 192, 193, 194, 195, 196, 197, 444, 445, 446, 447, 620, 621, 622, 436, 437, 438, 439, 623, 624, 625, 626, 461, 462, 463, 464, 440, 441, 442, 443, 448, 449, 450, 451, 452, 282, 453, 454, 455, 456, 457, 458, 459, 460, 465, 466, 467, 468, 469, 470, 471, 472, 473, 944, 945, 946, 947, 948, 949, 950, 951, 952, 953, 954, 955, 956, 957, 958, 959, 960, 961, 962, 963, 964] (by decide +kernel) (by decide +kernel)
set_option maxRecDepth 20000 in
theorem gL_law_X11_letting : GoodIn wsL_law (wsV RL 76 RX11 yX11_letting wsX11_letting) := goodIn_app (goodIn_of _ (by decide +kernel)) ggL_law_X11_letting
set_option maxRecDepth 20000 in
theorem ggL_law_X10_pass : GoodIn wsL_law wsX10_pass := goodIn_r _ [630, 598, 29, 207, 208, 2, 209, 631, 632, 633, 28, 634, 112, 114, 113, 116, 64, 65, 52, 66, 67, 68, 69, 70, 62, 71, 603, 604, 605, 606, 110, 111, 607, 391, 392, 393, 394, 395, 396, 397, 608, 420, 421, 422, 609, 375, 376, 377, 117, 118, 119, 120, 635, 501, 502, 503, 504, 505, 506, 507, 935, 936, 937, 938, 939, 940, 941, 942, 943, 980, 981, 982, 983, 984, 1010] (by decide +kernel) (by decide +kernel)
set_option maxRecDepth 20000 in
theorem gL_law_X10_pass : GoodIn wsL_law (wsV RL 77 RX10 yX10_pass wsX10_pass) := goodIn_app (goodIn_of _ (by decide +kernel)) ggL_law_X10_pass
set_option maxRecDepth 20000 in
theorem ggL_law_X11_pass : GoodIn wsL_law wsX11_pass := goodIn_r _ [639, 616, 617, 618, 5, 619, 190, 166, 182, 183, 184, 185, 186, 187, 188, 189, 191, 192, 193, 194, 195, 196, 197, 444, 445, 446, 447, 620, 621, 622, 436, 437, 438, 439, 623, 624, 625, 626, 461, 462, 463, 464, 440, 441, 442, 443, 465, 466, 467, 468, 944, 945, 946, 947, 948, 949, 950, 951, 952, 953, 954, 955, 956, 957, 958, 959, 960, 961, 962, 963, 964] (by decide +kernel) (by decide +kernel)
set_option maxRecDepth 20000 in
theorem gL_law_X11_pass : GoodIn wsL_law (wsV RL 80 RX11 yX11_pass wsX11_pass) := goodIn_app (goodIn_of _ (by decide +kernel)) ggL_law_X11_pass
set_option maxRecDepth 20000 in
theorem ggL_law_X10_pay : GoodIn wsL_law wsX10_pay := goodIn_r _ [643, 644, 645, 33, 207, 208, 2, 209, 646, 647, 648, 32, 649, 650, 125, 935, 936, 937, 938, 939, 940, 941, 942, 943, 985, 986, 987, 988] (by decide +kernel) (by decide +kernel)
set_option maxRecDepth 20000 in
theorem gL_law_X10_pay : GoodIn wsL_law (wsV RL 81 RX10 yX10_pay wsX10_pay) := goodIn_app (goodIn_of _ (by decide +kernel)) ggL_law_X10_pay
set_option maxRecDepth 20000 in
theorem ggL_law_X11_pay : GoodIn wsL_law wsX11_pay := goodIn_r _ [654, 176, 944, 945, 946, 947, 948, 949, 950, 951, 952, 953, 954, 955, 956, 957, 958, 959, 960, 961, 962, 963, 964] (by decide +kernel) (by decide +kernel)
set_option maxRecDepth 20000 in
theorem gL_law_X11_pay : GoodIn wsL_law (wsV RL 84 RX11 yX11_pay wsX11_pay) := goodIn_app (goodIn_of _ (by decide +kernel)) ggL_law_X11_pay
set_option maxRecDepth 20000 in
theorem ggL_law_X10_ranks : GoodIn wsL_law wsX10_ranks := goodIn_r _ [658, 644, 33, 21, 207, 208, 2, 209, 659, 660, 661, 32, 662, 128, 663, 664, 665, 666, 667, 215, 69, 216, 127, 125, 668, 64, 65, 52, 66, 67, 68, 70, 62, 71, 669, 670, 671, 672, 129, 673, 501, 502, 503, 504, 505, 506, 507, 674, 375, 376, 377, 675, 391, 392, 393, 394, 395, 396, 397, 676, 677, 678, 679, 680, 118, 119, 120, 681, 387, 388, 20, 389, 53, 54, 57, 390, 63, 398, 399, 400, 401, 402, 403, 404, 405, 682, 409, 410, 411, 412, 413, 414, 415, 416, 417, 418, 419, 420, 421, 422, 423, 935, 936, 937, 938, 939, 940, 941, 942, 943, 985, 986, 987, 988, 1010, 965, 966, 967, 968, 969] (by decide +kernel) (by decide +kernel)
set_option maxRecDepth 20000 in
theorem gL_law_X10_ranks : GoodIn wsL_law (wsV RL 85 RX10 yX10_ranks wsX10_ranks) := goodIn_app (goodIn_of _ (by decide +kernel)) ggL_law_X10_ranks
set_option maxRecDepth 20000 in
theorem ggL_law_X11_ranks : GoodIn wsL_law wsX11_ranks := goodIn_r _ [686, 687, 688, 689, 5, 690, 182, 183, 184, 185, 166, 186, 187, 188, 189, 190, 191, 192, 193, 194, 195, 196, 197, 691, 692, 693, 694, 176, 695, 696, 697, 436, 437, 438, 439, 440, 441, 442, 443, 465, 466, 467, 468, 448, 449, 450, 451, 452, 282, 444, 445, 446, 447, 453, 454, 455, 456, 457, 458, 459, 460, 461, 462, 463, 464, 469, 470, 471, 472, 473, 944, 945, 946, 947, 948, 949, 950, 951, 952, 953, 954, 955, 956, 957, 958, 959, 960, 961, 962, 963, 964] (by decide +kernel) (by decide +kernel)
set_option maxRecDepth 20000 in
theorem gL_law_X11_ranks : GoodIn wsL_law (wsV RL 88 RX11 yX11_ranks wsX11_ranks) := goodIn_app (goodIn_of _ (by decide +kernel)) ggL_law_X11_ranks
set_option maxRecDepth 20000 in
theorem ggL_law_X10_yes : GoodIn wsL_law wsX10_yes := goodIn_r _ [701, 644, 33, 207, 208, 2, 209, 702, 703, 704, 32, 705, 650, 127, 128, 663, 664, 665, 666, 667, 215, 69, 216, 125, 668, 64, 65, 52, 66, 67, 68, 70, 62, 71, 669, 670, 671, 672, 129, 673, 501, 502, 503, 504, 505, 506, 507, 674, 375, 376, 377, 675, 391, 392, 393, 394, 395, 396, 397, 676, 677, 678, 679, 680, 118, 119, 120, 935, 936, 937, 938, 939, 940, 941, 942, 943, 985, 986, 987, 988, 1010] (by decide +kernel) (by decide +kernel)
set_option maxRecDepth 20000 in
theorem gL_law_X10_yes : GoodIn wsL_law (wsV RL 89 RX10 yX10_yes wsX10_yes) := goodIn_app (goodIn_of _ (by decide +kernel)) ggL_law_X10_yes
set_option maxRecDepth 20000 in
theorem ggL_law_X11_yes : GoodIn wsL_law wsX11_yes := goodIn_r _ [709, 687, 688, 689, 5, 690, 182, 183, 184, 185, 166, 186, 187, 188, 189, 190, 191, 192, 193, 194, 195, 196, 197, 691, 692, 693, 694, 176, 695, 696, 697, 436, 437, 438, 439, 440, 441, 442, 443, 465, 466, 467, 468, 944, 945, 946, 947, 948, 949, 950, 951, 952, 953, 954, 955, 956, 957, 958, 959, 960, 961, 962, 963, 964] (by decide +kernel) (by decide +kernel)
set_option maxRecDepth 20000 in
theorem gL_law_X11_yes : GoodIn wsL_law (wsV RL 92 RX11 yX11_yes wsX11_yes) := goodIn_app (goodIn_of _ (by decide +kernel)) ggL_law_X11_yes
set_option maxRecDepth 20000 in
theorem ggL_law_X10_happen : GoodIn wsL_law wsX10_happen := goodIn_r _ [713, 714, 37, 207, 208, 2, 209, 715, 716, 717, 36, 718, 135, 133, 134, 935, 936, 937, 938, 939, 940, 941, 942, 943, 989, 990, 991, 992, 993, 994] (by decide +kernel) (by decide +kernel)
set_option maxRecDepth 20000 in
theorem gL_law_X10_happen : GoodIn wsL_law (wsV RL 93 RX10 yX10_happen wsX10_happen) := goodIn_app (goodIn_of _ (by decide +kernel)) ggL_law_X10_happen
set_option maxRecDepth 20000 in
theorem ggL_law_X11_happen : GoodIn wsL_law wsX11_happen := goodIn_r _ [722, 723, 177, 178, 944, 945, 946, 947, 948, 949, 950, 951, 952, 953, 954, 955, 956, 957, 958, 959, 960, 961, 962, 963, 964] (by decide +kernel) (by decide +kernel)
set_option maxRecDepth 20000 in
theorem gL_law_X11_happen : GoodIn wsL_law (wsV RL 97 RX11 yX11_happen wsX11_happen) := goodIn_app (goodIn_of _ (by decide +kernel)) ggL_law_X11_happen
set_option maxRecDepth 20000 in
theorem ggL_law_X10_forget : GoodIn wsL_law wsX10_forget := goodIn_r _ [727, 37, 728, 729, 730, 36, 731, 135, 935, 936, 937, 938, 939, 940, 941, 942, 943, 989, 990, 991, 992, 993, 994] (by decide +kernel) (by decide +kernel)
set_option maxRecDepth 20000 in
theorem gL_law_X10_forget : GoodIn wsL_law (wsV RL 98 RX10 yX10_forget wsX10_forget) := goodIn_app (goodIn_of _ (by decide +kernel)) ggL_law_X10_forget
set_option maxRecDepth 20000 in
theorem ggL_law_X11_forget : GoodIn wsL_law wsX11_forget := goodIn_r _ [735, 723, 944, 945, 946, 947, 948, 949, 950, 951, 952, 953, 954, 955, 956, 957, 958, 959, 960, 961, 962, 963, 964] (by decide +kernel) (by decide +kernel)
set_option maxRecDepth 20000 in
theorem gL_law_X11_forget : GoodIn wsL_law (wsV RL 101 RX11 yX11_forget wsX11_forget) := goodIn_app (goodIn_of _ (by decide +kernel)) ggL_law_X11_forget
set_option maxRecDepth 20000 in
theorem ggL_law_X10_last : GoodIn wsL_law wsX10_last := goodIn_r _ [739, 37, 21, 740, 741, 742, 36, 743, 135, 137, 138, 139, 134, 744, 64, 65, 52, 66, 67, 68, 69, 70, 62, 71, 745, 746, 747, 748, 133, 749, 118, 119, 120, 750, 375, 376, 377, 751, 501, 502, 503, 504, 505, 506, 507, 752, 391, 392, 393, 394, 395, 396, 397, 753, 387, 388, 20, 389, 53, 54, 57, 390, 63, 398, 399, 400, 401, 402, 403, 404, 405, 754, 409, 410, 411, 412, 413, 414, 415, 416, 417, 418, 419, 420, 421, 422, 423, 935, 936, 937, 938, 939, 940, 941, 942, 943, 989, 990, 991, 992, 993, 994, 1010, 965, 966, 967, 968, 969] (by decide +kernel) (by decide +kernel)
set_option maxRecDepth 20000 in
theorem gL_law_X10_last : GoodIn wsL_law (wsV RL 102 RX10 yX10_last wsX10_last) := goodIn_app (goodIn_of _ (by decide +kernel)) ggL_law_X10_last
set_option maxRecDepth 20000 in
theorem ggL_law_X11_last : GoodIn wsL_law wsX11_last := goodIn_r _ [758, 723, 178, 177, 182, 183, 184, 5, 185, 166, 186, 187, 188, 189, 190, 191, 192, 193, 194, 195, 196, 197, 436, 437, 438, 439, 440, 441, 442, 443, 444, 445, 446, 447, 465, 466, 467, 468, 448, 449, 450, 451, 452, 282, 453, 454, 455, 456, 457, 458, 459, 460, 461, 462, 463, 464, 469, 470, 471, 472, 473, 944, 945, 946, 947, 948, 949, 950, 951, 952, 953, 954, 955, 956, 957, 958, 959, 960, 961, 962, 963, 964] (by decide +kernel) (by decide +kernel)
set_option maxRecDepth 20000 in
theorem gL_law_X11_last : GoodIn wsL_law (wsV RL 105 RX11 yX11_last wsX11_last) := goodIn_app (goodIn_of _ (by decide +kernel)) ggL_law_X11_last
set_option maxRecDepth 20000 in
theorem ggL_law_X10_box : GoodIn wsL_law wsX10_box := goodIn_r _ [762, 645, 41, 16, 288, 289, 290, 2, 291, 17, 207, 208, 209, 763, 764, 765, 40, 766, 144, 146, 767, 297, 298, 78, 299, 97, 768, 301, 302, 303, 96, 769, 770, 771, 772, 148, 147, 773, 362, 363, 364, 95, 774, 379, 380, 45, 381, 104, 775, 496, 497, 498, 103, 101, 776, 371, 372, 373, 102, 777, 366, 367, 368, 778, 779, 780, 781, 782, 783, 784, 785, 149, 935, 936, 937, 938, 939, 940, 941, 942, 943, 995, 996, 997, 998, 999, 1000, 1001, 1002, 1011, 1012, 1013, 1006, 1007, 1008, 1009] (by decide +kernel) (by decide +kernel)
set_option maxRecDepth 20000 in
theorem gL_law_X10_box : GoodIn wsL_law (wsV RL 106 RX10 yX10_box wsX10_box) := goodIn_app (goodIn_of _ (by decide +kernel)) ggL_law_X10_box
set_option maxRecDepth 20000 in
theorem ggL_law_X11_box : GoodIn wsL_law wsX11_box := goodIn_r _ [789, 790, 179, 180, 309, 310, 311, 5, 312, 280, 944, 945, 946, 947, 948, 949, 950, 951, 952, 953, 954, 955, 956, 957, 958, 959, 960, 961, 962, 963, 964] (by decide +kernel) (by decide +kernel)
set_option maxRecDepth 20000 in
theorem gL_law_X11_box : GoodIn wsL_law (wsV RL 109 RX11 yX11_box wsX11_box) := goodIn_app (goodIn_of _ (by decide +kernel)) ggL_law_X11_box
set_option maxRecDepth 20000 in
theorem ggL_law_X10_empty : GoodIn wsL_law wsX10_empty := goodIn_r _ [794, 41, 795, 796, 797, 40, 798, 144, 767, 297, 298, 78, 299, 97, 799, 322, 323, 324, 935, 936, 937, 938, 939, 940, 941, 942, 943, 995, 996, 997, 998, 999, 1000, 1001, 1002, 1011, 1012, 1013] (by decide +kernel) (by decide +kernel)
set_option maxRecDepth 20000 in
theorem gL_law_X10_empty : GoodIn wsL_law (wsV RL 110 RX10 yX10_empty wsX10_empty) := goodIn_app (goodIn_of _ (by decide +kernel)) ggL_law_X10_empty
set_option maxRecDepth 20000 in
theorem ggL_law_X11_empty : GoodIn wsL_law wsX11_empty := goodIn_r _ [803, 790, 944, 945, 946, 947, 948, 949, 950, 951, 952, 953, 954, 955, 956, 957, 958, 959, 960, 961, 962, 963, 964] (by decide +kernel) (by decide +kernel)
set_option maxRecDepth 20000 in
theorem gL_law_X11_empty : GoodIn wsL_law (wsV RL 113 RX11 yX11_empty wsX11_empty) := goodIn_app (goodIn_of _ (by decide +kernel)) ggL_law_X11_empty
set_option maxRecDepth 20000 in
theorem ggL_law_X10_fair : GoodIn wsL_law wsX10_fair := goodIn_r _ [807, 41, 21, 808, 809, 810, 40, 811, 144, 767, 297, 298, 78, 299, 97, 207, 208, 2, 209, 812, 813, 814, 815, 816, 147, 148, 817, 818, 819, 20, 820, 55, 821, 822, 69, 823, 57, 63, 64, 65, 52, 66, 67, 68, 70, 62, 71, 824, 387, 388, 389, 53, 54, 390, 391, 392, 393, 394, 395, 396, 397, 398, 399, 400, 401, 402, 403, 404, 405, 825, 409, 410, 411, 412, 413, 414, 415, 416, 417, 418, 419, 420, 421, 422, 423, 118, 119, 120, 826, 505, 506, 507, 935, 936, 937, 938, 939, 940, 941, 942, 943, 995, 996, 997, 998, 999, 1000, 1001, 1002, 1011, 1012, 1013, 965, 966, 967, 968, 969, 1010] (by decide +kernel) (by decide +kernel)
set_option maxRecDepth 20000 in
theorem gL_law_X10_fair : GoodIn wsL_law (wsV RL 114 RX10 yX10_fair wsX10_fair) := goodIn_app (goodIn_of _ (by decide +kernel)) ggL_law_X10_fair
set_option maxRecDepth 20000 in
theorem ggL_law_X11_fair : GoodIn wsL_law wsX11_fair := goodIn_r _ [830, 790, 179, 180, 173, 432, 433, 434, 5, 435, 170, 171, 172, 182, 183, 184, 185, 166, 186, 187, 188, 189, 190, 191, 192, 193, 194, 195, 196, 197, 448, 449, 450, 451, 452, 282, 444, 445, 446, 447, 436, 437, 438, 439, 453, 454, 455, 456, 457, 458, 459, 460, 461, 462, 463, 464, 465, 466, 467, 468, 440, 441, 442, 443, 469, 470, 471, 472, 473, 944, 945, 946, 947, 948, 949, 950, 951, 952, 953, 954, 955, 956, 957, 958, 959, 960, 961, 962, 963, 964] (by decide +kernel) (by decide +kernel)
set_option maxRecDepth 20000 in
theorem gL_law_X11_fair : GoodIn wsL_law (wsV RL 117 RX11 yX11_fair wsX11_fair) := goodIn_app (goodIn_of _ (by decide +kernel)) ggL_law_X11_fair
set_option maxRecDepth 20000 in
theorem ggL_law_X10_search : GoodIn wsL_law wsX10_search := goodIn_r _ [834, 41, 21, 835, 836, 837, 40, 838, 145, 151, 144, 839, 215, 69, 216, 149, 799, 322, 323, 78, 324, 97, 840, 64, 65, 52, 66, 67, 68, 70, 62, 71, 767, 297, 298, 299, 773, 362, 363, 364, 96, 95, 208, 2, 209, 774, 379, 380, 45, 381, 104, 841, 118, 119, 120, 842, 843, 844, 845, 152, 846, 847, 848, 849, 146, 850, 529, 530, 777, 366, 367, 368, 103, 101, 102, 776, 371, 372, 373, 851, 553, 554, 555, 406, 556, 496, 497, 498, 852, 558, 559, 560, 561, 562, 563, 853, 375, 376, 377, 768, 301, 302, 303, 854, 383, 384, 385, 386, 387, 388, 20, 389, 53, 54, 57, 390, 391, 392, 393, 394, 395, 396, 397, 63, 398, 399, 400, 401, 402, 403, 404, 405, 407, 408, 409, 410, 411, 412, 413, 414, 415, 416, 417, 418, 419, 420, 421, 422, 423, 935, 936, 937, 938, 939, 940, 941, 942, 943, 995, 996, 997, 998, 999, 1000, 1001, 1002, 1011, 1012, 1013, 1010, 1006, 1007, 1008, 1009, 965, 966, 967, 968, 969] (by decide +kernel) (by decide +kernel)
set_option maxRecDepth 20000 in
theorem gL_law_X10_search : GoodIn wsL_law (wsV RL 118 RX10 yX10_search wsX10_search) := goodIn_app (goodIn_of _ (by decide +kernel)) ggL_law_X10_search
set_option maxRecDepth 20000 in
theorem ggL_law_X11_search : GoodIn wsL_law wsX11_search := goodIn_r _ [858, 859, 790, 179, 170, 171, 181, 173, 180, 528, 529, 69, 530, 172, 182, 183, 184, 5, 185, 166, 186, 187, 188, 189, 190, 191, 192, 193, 194, 195, 196, 197, 436, 437, 438, 439, 440, 441, 442, 443, 860, 861, 862, 863, 465, 466, 467, 468, 444, 445, 446, 447, 448, 449, 450, 451, 452, 282, 453, 454, 455, 456, 457, 458, 459, 460, 461, 462, 463, 464, 469, 470, 471, 472, 473, 944, 945, 946, 947, 948, 949, 950, 951, 952, 953, 954, 955, 956, 957, 958, 959, 960, 961, 962, 963, 964] (by decide +kernel) (by decide +kernel)
set_option maxRecDepth 20000 in
theorem gL_law_X11_search : GoodIn wsL_law (wsV RL 121 RX11 yX11_search wsX11_search) := goodIn_app (goodIn_of _ (by decide +kernel)) ggL_law_X11_search
set_option maxRecDepth 20000 in
theorem ggL_law_X10_look : GoodIn wsL_law wsX10_look := goodIn_r _ [867, 21, 868, 869, 870, 20, 871, 57, 872, 873, 874, 875, 54, 53, 876, 403, 404, 52, 405, 62, 935, 936, 937, 938, 939, 940, 941, 942, 943, 965, 966, 967, 968, 969, 1010] (by decide +kernel) (by decide +kernel)
set_option maxRecDepth 20000 in
theorem gL_law_X10_look : GoodIn wsL_law (wsV RL 122 RX10 yX10_look wsX10_look) := goodIn_app (goodIn_of _ (by decide +kernel)) ggL_law_X10_look
set_option maxRecDepth 20000 in
theorem ggL_law_X11_look : GoodIn wsL_law wsX11_look := goodIn_r _ [880, 881, 882, 883, 5, 884, 452, 444, 445, 446, 447, 166, 885, 886, 887, 888, 453, 454, 455, 456, 436, 437, 438, 439, 186, 187, 188, 189, 190, 191, 192, 193, 194, 195, 196, 197, 889, 890, 891, 892, 944, 945, 946, 947, 948, 949, 950, 951, 952, 953, 954, 955, 956, 957, 958, 959, 960, 961, 962, 963, 964] (by decide +kernel) (by decide +kernel)
set_option maxRecDepth 20000 in
theorem gL_law_X11_look : GoodIn wsL_law (wsV RL 125 RX11 yX11_look wsX11_look) := goodIn_app (goodIn_of _ (by decide +kernel)) ggL_law_X11_look
set_option maxRecDepth 20000 in
theorem ggL_law_X10_part : GoodIn wsL_law wsX10_part := goodIn_r _ [896, 21, 872, 873, 874, 20, 875, 54, 53, 897, 898, 899, 52, 900, 901, 62, 208, 2, 209, 935, 936, 937, 938, 939, 940, 941, 942, 943, 965, 966, 967, 968, 969, 1010] (by decide +kernel) (by decide +kernel)
set_option maxRecDepth 20000 in
theorem gL_law_X10_part : GoodIn wsL_law (wsV RL 126 RX10 yX10_part wsX10_part) := goodIn_app (goodIn_of _ (by decide +kernel)) ggL_law_X10_part
set_option maxRecDepth 20000 in
theorem ggL_law_X11_part : GoodIn wsL_law wsX11_part := goodIn_r _ [905, 166, 881, 882, 883, 5, 884, 452, 444, 445, 446, 447, 885, 886, 887, 888, 453, 454, 455, 456, 436, 437, 438, 439, 186, 187, 188, 189, 190, 191, 192, 193, 194, 195, 196, 197, 944, 945, 946, 947, 948, 949, 950, 951, 952, 953, 954, 955, 956, 957, 958, 959, 960, 961, 962, 963, 964] (by decide +kernel) (by decide +kernel)
set_option maxRecDepth 20000 in
theorem gL_law_X11_part : GoodIn wsL_law (wsV RL 130 RX11 yX11_part wsX11_part) := goodIn_app (goodIn_of _ (by decide +kernel)) ggL_law_X11_part
set_option maxRecDepth 20000 in
theorem ggL_law_X10_compare : GoodIn wsL_law wsX10_compare := goodIn_r _ [909, 21, 910, 911, 912, 20, 913, 57, 55, 53, 56, 54, 821, 822, 69, 823, 826, 505, 506, 507, 390, 391, 392, 52, 393, 62, 394, 395, 396, 397, 423, 118, 119, 120, 71, 914, 501, 502, 503, 504, 935, 936, 937, 938, 939, 940, 941, 942, 943, 965, 966, 967, 968, 969, 1010] (by decide +kernel) (by decide +kernel)
set_option maxRecDepth 20000 in
theorem gL_law_X10_compare : GoodIn wsL_law (wsV RL 131 RX10 yX10_compare wsX10_compare) := goodIn_app (goodIn_of _ (by decide +kernel)) ggL_law_X10_compare
set_option maxRecDepth 20000 in
theorem ggL_law_X11_compare : GoodIn wsL_law wsX11_compare := goodIn_r _ [918, 444, 445, 446, 5, 447, 166, 436, 437, 438, 439, 186, 187, 188, 189, 190, 191, 192, 193, 194, 195, 196, 197, 465, 466, 467, 468, 944, 945, 946, 947, 948, 949, 950, 951, 952, 953, 954, 955, 956, 957, 958, 959, 960, 961, 962, 963, 964] (by decide +kernel) (by decide +kernel)
set_option maxRecDepth 20000 in
theorem gL_law_X11_compare : GoodIn wsL_law (wsV RL 134 RX11 yX11_compare wsX11_compare) := goodIn_app (goodIn_of _ (by decide +kernel)) ggL_law_X11_compare
set_option maxRecDepth 20000 in
theorem ggL_law_X10_count : GoodIn wsL_law wsX10_count := goodIn_r _ [922, 17, 25, 37, 41, 334, 335, 336, 24, 337, 79, 296, 297, 298, 78, 299, 97, 923, 924, 925, 36, 926, 135, 808, 809, 810, 40, 811, 144, 767, 927, 928, 929, 2, 930, 14, 232, 233, 234, 43, 235, 160, 935, 936, 937, 938, 939, 940, 941, 942, 943, 970, 971, 972, 973, 974, 975, 976, 977, 978, 979, 1011, 1012, 1013, 989, 990, 991, 992, 993, 994, 995, 996, 997, 998, 999, 1000, 1001, 1002, 1003, 1004, 1005] (by decide +kernel) (by decide +kernel)
set_option maxRecDepth 20000 in
theorem gL_law_X10_count : GoodIn wsL_law (wsV RL 135 RX10 yX10_count wsX10_count) := goodIn_app (goodIn_of _ (by decide +kernel)) ggL_law_X10_count
set_option maxRecDepth 20000 in
theorem ggL_law_X11_count : GoodIn wsL_law wsX11_count := goodIn_r _ [934, 280, 308, 723, 790, 167, 944, 945, 946, 947, 948, 949, 950, 951, 952, 953, 954, 955, 956, 957, 958, 959, 960, 961, 962, 963, 964] (by decide +kernel) (by decide +kernel)
set_option maxRecDepth 20000 in
theorem gL_law_X11_count : GoodIn wsL_law (wsV RL 138 RX11 yX11_count wsX11_count) := goodIn_app (goodIn_of _ (by decide +kernel)) ggL_law_X11_count
theorem dL_law_0 : decode cL_law 0 = .ok (.new 7, 3) := by decide +kernel
theorem dL_law_3 : decode cL_law 3 = .ok (.dup, 1) := by decide +kernel
theorem dL_law_4 : decode cL_law 4 = .ok (.invokespecial 9, 3) := by decide +kernel
theorem dL_law_7 : decode cL_law 7 = .ok (.astore_n 1, 1) := by decide +kernel
theorem dL_law_8 : decode cL_law 8 = .ok (.new 10, 3) := by decide +kernel
theorem dL_law_11 : decode cL_law 11 = .ok (.dup, 1) := by decide +kernel
theorem dL_law_12 : decode cL_law 12 = .ok (.invokespecial 12, 3) := by decide +kernel
theorem dL_law_15 : decode cL_law 15 = .ok (.astore_n 2, 1) := by decide +kernel
theorem dL_law_16 : decode cL_law 16 = .ok (.iconst 0, 1) := by decide +kernel
theorem dL_law_17 : decode cL_law 17 = .ok (.istore_n 3, 1) := by decide +kernel
theorem dL_law_18 : decode cL_law 18 = .ok (.iload_n 3, 1) := by decide +kernel
theorem dL_law_19 : decode cL_law 19 = .ok (.aload_n 0, 1) := by decide +kernel
theorem dL_law_20 : decode cL_law 20 = .ok (.arraylength, 1) := by decide +kernel
theorem dL_law_21 : decode cL_law 21 = .ok (.iconst 5, 1) := by decide +kernel
theorem dL_law_22 : decode cL_law 22 = .ok (.isub, 1) := by decide +kernel
theorem dL_law_23 : decode cL_law 23 = .ok (.if_icmp .gt 892, 3) := by decide +kernel
theorem dL_law_26 : decode cL_law 26 = .ok (.aload_n 0, 1) := by decide +kernel
theorem dL_law_27 : decode cL_law 27 = .ok (.iload_n 3, 1) := by decide +kernel
theorem dL_law_28 : decode cL_law 28 = .ok (.iaload, 1) := by decide +kernel
theorem dL_law_29 : decode cL_law 29 = .ok (.bipush 31, 2) := by decide +kernel
theorem dL_law_31 : decode cL_law 31 = .ok (.iand, 1) := by decide +kernel
theorem dL_law_32 : decode cL_law 32 = .ok (.tableswitch 877 0 28 #[132, 175, 198, 271, 294, 317, 330, 363, 374, 385, 408, 431, 442, 455, 488, 511, 544, 567, 610, 643, 656, 669, 702, 715, 738, 749, 772, 821, 854], 132) := by decide +kernel
theorem dL_law_164 : decode cL_law 164 = .ok (.aload_n 1, 1) := by decide +kernel
theorem dL_law_165 : decode cL_law 165 = .ok (.aload_n 0, 1) := by decide +kernel
theorem dL_law_166 : decode cL_law 166 = .ok (.iload_n 3, 1) := by decide +kernel
theorem dL_law_167 : decode cL_law 167 = .ok (.iconst 1, 1) := by decide +kernel
theorem dL_law_168 : decode cL_law 168 = .ok (.iadd, 1) := by decide +kernel
theorem dL_law_169 : decode cL_law 169 = .ok (.iaload, 1) := by decide +kernel
theorem dL_law_170 : decode cL_law 170 = .ok (.aload_n 0, 1) := by decide +kernel
theorem dL_law_171 : decode cL_law 171 = .ok (.iload_n 3, 1) := by decide +kernel
theorem dL_law_172 : decode cL_law 172 = .ok (.iconst 2, 1) := by decide +kernel
theorem dL_law_173 : decode cL_law 173 = .ok (.iadd, 1) := by decide +kernel
theorem dL_law_174 : decode cL_law 174 = .ok (.iaload, 1) := by decide +kernel
theorem dL_law_175 : decode cL_law 175 = .ok (.aload_n 0, 1) := by decide +kernel
theorem dL_law_176 : decode cL_law 176 = .ok (.iload_n 3, 1) := by decide +kernel
theorem dL_law_177 : decode cL_law 177 = .ok (.iconst 3, 1) := by decide +kernel
theorem dL_law_178 : decode cL_law 178 = .ok (.iadd, 1) := by decide +kernel
theorem dL_law_179 : decode cL_law 179 = .ok (.iaload, 1) := by decide +kernel
theorem dL_law_180 : decode cL_law 180 = .ok (.invokevirtual 13, 3) := by decide +kernel
theorem dL_law_183 : decode cL_law 183 = .ok (.aload_n 2, 1) := by decide +kernel
theorem dL_law_184 : decode cL_law 184 = .ok (.aload_n 0, 1) := by decide +kernel
theorem dL_law_185 : decode cL_law 185 = .ok (.iload_n 3, 1) := by decide +kernel
theorem dL_law_186 : decode cL_law 186 = .ok (.iconst 1, 1) := by decide +kernel
theorem dL_law_187 : decode cL_law 187 = .ok (.iadd, 1) := by decide +kernel
theorem dL_law_188 : decode cL_law 188 = .ok (.iaload, 1) := by decide +kernel
theorem dL_law_189 : decode cL_law 189 = .ok (.aload_n 0, 1) := by decide +kernel
theorem dL_law_190 : decode cL_law 190 = .ok (.iload_n 3, 1) := by decide +kernel
theorem dL_law_191 : decode cL_law 191 = .ok (.iconst 2, 1) := by decide +kernel
theorem dL_law_192 : decode cL_law 192 = .ok (.iadd, 1) := by decide +kernel
theorem dL_law_193 : decode cL_law 193 = .ok (.iaload, 1) := by decide +kernel
theorem dL_law_194 : decode cL_law 194 = .ok (.aload_n 0, 1) := by decide +kernel
theorem dL_law_195 : decode cL_law 195 = .ok (.iload_n 3, 1) := by decide +kernel
theorem dL_law_196 : decode cL_law 196 = .ok (.iconst 3, 1) := by decide +kernel
theorem dL_law_197 : decode cL_law 197 = .ok (.iadd, 1) := by decide +kernel
theorem dL_law_198 : decode cL_law 198 = .ok (.iaload, 1) := by decide +kernel
theorem dL_law_199 : decode cL_law 199 = .ok (.invokevirtual 17, 3) := by decide +kernel
theorem dL_law_202 : decode cL_law 202 = .ok (.if_icmp .eq 707, 3) := by decide +kernel
theorem dL_law_205 : decode cL_law 205 = .ok (.iconst 0, 1) := by decide +kernel
theorem dL_law_206 : decode cL_law 206 = .ok (.ireturn, 1) := by decide +kernel
theorem dL_law_207 : decode cL_law 207 = .ok (.aload_n 1, 1) := by decide +kernel
theorem dL_law_208 : decode cL_law 208 = .ok (.aload_n 0, 1) := by decide +kernel
theorem dL_law_209 : decode cL_law 209 = .ok (.iload_n 3, 1) := by decide +kernel
theorem dL_law_210 : decode cL_law 210 = .ok (.iconst 1, 1) := by decide +kernel
theorem dL_law_211 : decode cL_law 211 = .ok (.iadd, 1) := by decide +kernel
theorem dL_law_212 : decode cL_law 212 = .ok (.iaload, 1) := by decide +kernel
theorem dL_law_213 : decode cL_law 213 = .ok (.invokevirtual 18, 3) := by decide +kernel
theorem dL_law_216 : decode cL_law 216 = .ok (.aload_n 2, 1) := by decide +kernel
theorem dL_law_217 : decode cL_law 217 = .ok (.aload_n 0, 1) := by decide +kernel
theorem dL_law_218 : decode cL_law 218 = .ok (.iload_n 3, 1) := by decide +kernel
theorem dL_law_219 : decode cL_law 219 = .ok (.iconst 1, 1) := by decide +kernel
theorem dL_law_220 : decode cL_law 220 = .ok (.iadd, 1) := by decide +kernel
theorem dL_law_221 : decode cL_law 221 = .ok (.iaload, 1) := by decide +kernel
theorem dL_law_222 : decode cL_law 222 = .ok (.invokevirtual 22, 3) := by decide +kernel
theorem dL_law_225 : decode cL_law 225 = .ok (.if_icmp .eq 684, 3) := by decide +kernel
theorem dL_law_228 : decode cL_law 228 = .ok (.iconst 0, 1) := by decide +kernel
theorem dL_law_229 : decode cL_law 229 = .ok (.ireturn, 1) := by decide +kernel
theorem dL_law_230 : decode cL_law 230 = .ok (.aload_n 1, 1) := by decide +kernel
theorem dL_law_231 : decode cL_law 231 = .ok (.aload_n 0, 1) := by decide +kernel
theorem dL_law_232 : decode cL_law 232 = .ok (.iload_n 3, 1) := by decide +kernel
theorem dL_law_233 : decode cL_law 233 = .ok (.iconst 1, 1) := by decide +kernel
theorem dL_law_234 : decode cL_law 234 = .ok (.iadd, 1) := by decide +kernel
theorem dL_law_235 : decode cL_law 235 = .ok (.iaload, 1) := by decide +kernel
theorem dL_law_236 : decode cL_law 236 = .ok (.aload_n 0, 1) := by decide +kernel
theorem dL_law_237 : decode cL_law 237 = .ok (.iload_n 3, 1) := by decide +kernel
theorem dL_law_238 : decode cL_law 238 = .ok (.iconst 2, 1) := by decide +kernel
theorem dL_law_239 : decode cL_law 239 = .ok (.iadd, 1) := by decide +kernel
theorem dL_law_240 : decode cL_law 240 = .ok (.iaload, 1) := by decide +kernel
theorem dL_law_241 : decode cL_law 241 = .ok (.aload_n 0, 1) := by decide +kernel
theorem dL_law_242 : decode cL_law 242 = .ok (.iload_n 3, 1) := by decide +kernel
theorem dL_law_243 : decode cL_law 243 = .ok (.iconst 3, 1) := by decide +kernel
theorem dL_law_244 : decode cL_law 244 = .ok (.iadd, 1) := by decide +kernel
theorem dL_law_245 : decode cL_law 245 = .ok (.iaload, 1) := by decide +kernel
theorem dL_law_246 : decode cL_law 246 = .ok (.i2l, 1) := by decide +kernel
theorem dL_law_247 : decode cL_law 247 = .ok (.bipush 32, 2) := by decide +kernel
theorem dL_law_249 : decode cL_law 249 = .ok (.lshl, 1) := by decide +kernel
theorem dL_law_250 : decode cL_law 250 = .ok (.aload_n 0, 1) := by decide +kernel
theorem dL_law_251 : decode cL_law 251 = .ok (.iload_n 3, 1) := by decide +kernel
theorem dL_law_252 : decode cL_law 252 = .ok (.iconst 4, 1) := by decide +kernel
theorem dL_law_253 : decode cL_law 253 = .ok (.iadd, 1) := by decide +kernel
theorem dL_law_254 : decode cL_law 254 = .ok (.iaload, 1) := by decide +kernel
theorem dL_law_255 : decode cL_law 255 = .ok (.i2l, 1) := by decide +kernel
theorem dL_law_256 : decode cL_law 256 = .ok (.ldc2_w 23, 3) := by decide +kernel
theorem dL_law_259 : decode cL_law 259 = .ok (.land, 1) := by decide +kernel
theorem dL_law_260 : decode cL_law 260 = .ok (.lor, 1) := by decide +kernel
theorem dL_law_261 : decode cL_law 261 = .ok (.invokevirtual 25, 3) := by decide +kernel
theorem dL_law_264 : decode cL_law 264 = .ok (.aload_n 2, 1) := by decide +kernel
theorem dL_law_265 : decode cL_law 265 = .ok (.aload_n 0, 1) := by decide +kernel
theorem dL_law_266 : decode cL_law 266 = .ok (.iload_n 3, 1) := by decide +kernel
theorem dL_law_267 : decode cL_law 267 = .ok (.iconst 1, 1) := by decide +kernel
theorem dL_law_268 : decode cL_law 268 = .ok (.iadd, 1) := by decide +kernel
theorem dL_law_269 : decode cL_law 269 = .ok (.iaload, 1) := by decide +kernel
theorem dL_law_270 : decode cL_law 270 = .ok (.aload_n 0, 1) := by decide +kernel
theorem dL_law_271 : decode cL_law 271 = .ok (.iload_n 3, 1) := by decide +kernel
theorem dL_law_272 : decode cL_law 272 = .ok (.iconst 2, 1) := by decide +kernel
theorem dL_law_273 : decode cL_law 273 = .ok (.iadd, 1) := by decide +kernel
theorem dL_law_274 : decode cL_law 274 = .ok (.iaload, 1) := by decide +kernel
theorem dL_law_275 : decode cL_law 275 = .ok (.aload_n 0, 1) := by decide +kernel
theorem dL_law_276 : decode cL_law 276 = .ok (.iload_n 3, 1) := by decide +kernel
theorem dL_law_277 : decode cL_law 277 = .ok (.iconst 3, 1) := by decide +kernel
theorem dL_law_278 : decode cL_law 278 = .ok (.iadd, 1) := by decide +kernel
theorem dL_law_279 : decode cL_law 279 = .ok (.iaload, 1) := by decide +kernel
theorem dL_law_280 : decode cL_law 280 = .ok (.i2l, 1) := by decide +kernel
theorem dL_law_281 : decode cL_law 281 = .ok (.bipush 32, 2) := by decide +kernel
theorem dL_law_283 : decode cL_law 283 = .ok (.lshl, 1) := by decide +kernel
theorem dL_law_284 : decode cL_law 284 = .ok (.aload_n 0, 1) := by decide +kernel
theorem dL_law_285 : decode cL_law 285 = .ok (.iload_n 3, 1) := by decide +kernel
theorem dL_law_286 : decode cL_law 286 = .ok (.iconst 4, 1) := by decide +kernel
theorem dL_law_287 : decode cL_law 287 = .ok (.iadd, 1) := by decide +kernel
theorem dL_law_288 : decode cL_law 288 = .ok (.iaload, 1) := by decide +kernel
theorem dL_law_289 : decode cL_law 289 = .ok (.i2l, 1) := by decide +kernel
theorem dL_law_290 : decode cL_law 290 = .ok (.ldc2_w 23, 3) := by decide +kernel
theorem dL_law_293 : decode cL_law 293 = .ok (.land, 1) := by decide +kernel
theorem dL_law_294 : decode cL_law 294 = .ok (.lor, 1) := by decide +kernel
theorem dL_law_295 : decode cL_law 295 = .ok (.invokevirtual 29, 3) := by decide +kernel
theorem dL_law_298 : decode cL_law 298 = .ok (.if_icmp .eq 611, 3) := by decide +kernel
theorem dL_law_301 : decode cL_law 301 = .ok (.iconst 0, 1) := by decide +kernel
theorem dL_law_302 : decode cL_law 302 = .ok (.ireturn, 1) := by decide +kernel
theorem dL_law_303 : decode cL_law 303 = .ok (.aload_n 1, 1) := by decide +kernel
theorem dL_law_304 : decode cL_law 304 = .ok (.aload_n 0, 1) := by decide +kernel
theorem dL_law_305 : decode cL_law 305 = .ok (.iload_n 3, 1) := by decide +kernel
theorem dL_law_306 : decode cL_law 306 = .ok (.iconst 1, 1) := by decide +kernel
theorem dL_law_307 : decode cL_law 307 = .ok (.iadd, 1) := by decide +kernel
theorem dL_law_308 : decode cL_law 308 = .ok (.iaload, 1) := by decide +kernel
theorem dL_law_309 : decode cL_law 309 = .ok (.invokevirtual 30, 3) := by decide +kernel
theorem dL_law_312 : decode cL_law 312 = .ok (.aload_n 2, 1) := by decide +kernel
theorem dL_law_313 : decode cL_law 313 = .ok (.aload_n 0, 1) := by decide +kernel
theorem dL_law_314 : decode cL_law 314 = .ok (.iload_n 3, 1) := by decide +kernel
theorem dL_law_315 : decode cL_law 315 = .ok (.iconst 1, 1) := by decide +kernel
theorem dL_law_316 : decode cL_law 316 = .ok (.iadd, 1) := by decide +kernel
theorem dL_law_317 : decode cL_law 317 = .ok (.iaload, 1) := by decide +kernel
theorem dL_law_318 : decode cL_law 318 = .ok (.invokevirtual 34, 3) := by decide +kernel
theorem dL_law_321 : decode cL_law 321 = .ok (.if_icmp .eq 588, 3) := by decide +kernel
theorem dL_law_324 : decode cL_law 324 = .ok (.iconst 0, 1) := by decide +kernel
theorem dL_law_325 : decode cL_law 325 = .ok (.ireturn, 1) := by decide +kernel
theorem dL_law_326 : decode cL_law 326 = .ok (.aload_n 1, 1) := by decide +kernel
theorem dL_law_327 : decode cL_law 327 = .ok (.aload_n 0, 1) := by decide +kernel
theorem dL_law_328 : decode cL_law 328 = .ok (.iload_n 3, 1) := by decide +kernel
theorem dL_law_329 : decode cL_law 329 = .ok (.iconst 1, 1) := by decide +kernel
theorem dL_law_330 : decode cL_law 330 = .ok (.iadd, 1) := by decide +kernel
theorem dL_law_331 : decode cL_law 331 = .ok (.iaload, 1) := by decide +kernel
theorem dL_law_332 : decode cL_law 332 = .ok (.invokevirtual 35, 3) := by decide +kernel
theorem dL_law_335 : decode cL_law 335 = .ok (.aload_n 2, 1) := by decide +kernel
theorem dL_law_336 : decode cL_law 336 = .ok (.aload_n 0, 1) := by decide +kernel
theorem dL_law_337 : decode cL_law 337 = .ok (.iload_n 3, 1) := by decide +kernel
theorem dL_law_338 : decode cL_law 338 = .ok (.iconst 1, 1) := by decide +kernel
theorem dL_law_339 : decode cL_law 339 = .ok (.iadd, 1) := by decide +kernel
theorem dL_law_340 : decode cL_law 340 = .ok (.iaload, 1) := by decide +kernel
theorem dL_law_341 : decode cL_law 341 = .ok (.invokevirtual 38, 3) := by decide +kernel
theorem dL_law_344 : decode cL_law 344 = .ok (.if_icmp .eq 565, 3) := by decide +kernel
theorem dL_law_347 : decode cL_law 347 = .ok (.iconst 0, 1) := by decide +kernel
theorem dL_law_348 : decode cL_law 348 = .ok (.ireturn, 1) := by decide +kernel
theorem dL_law_349 : decode cL_law 349 = .ok (.aload_n 1, 1) := by decide +kernel
theorem dL_law_350 : decode cL_law 350 = .ok (.invokevirtual 39, 3) := by decide +kernel
theorem dL_law_353 : decode cL_law 353 = .ok (.aload_n 2, 1) := by decide +kernel
theorem dL_law_354 : decode cL_law 354 = .ok (.invokevirtual 43, 3) := by decide +kernel
theorem dL_law_357 : decode cL_law 357 = .ok (.if_icmp .eq 552, 3) := by decide +kernel
theorem dL_law_360 : decode cL_law 360 = .ok (.iconst 0, 1) := by decide +kernel
theorem dL_law_361 : decode cL_law 361 = .ok (.ireturn, 1) := by decide +kernel
theorem dL_law_362 : decode cL_law 362 = .ok (.aload_n 1, 1) := by decide +kernel
theorem dL_law_363 : decode cL_law 363 = .ok (.aload_n 0, 1) := by decide +kernel
theorem dL_law_364 : decode cL_law 364 = .ok (.iload_n 3, 1) := by decide +kernel
theorem dL_law_365 : decode cL_law 365 = .ok (.iconst 1, 1) := by decide +kernel
theorem dL_law_366 : decode cL_law 366 = .ok (.iadd, 1) := by decide +kernel
theorem dL_law_367 : decode cL_law 367 = .ok (.iaload, 1) := by decide +kernel
theorem dL_law_368 : decode cL_law 368 = .ok (.aload_n 0, 1) := by decide +kernel
theorem dL_law_369 : decode cL_law 369 = .ok (.iload_n 3, 1) := by decide +kernel
theorem dL_law_370 : decode cL_law 370 = .ok (.iconst 2, 1) := by decide +kernel
theorem dL_law_371 : decode cL_law 371 = .ok (.iadd, 1) := by decide +kernel
theorem dL_law_372 : decode cL_law 372 = .ok (.iaload, 1) := by decide +kernel
theorem dL_law_373 : decode cL_law 373 = .ok (.invokevirtual 44, 3) := by decide +kernel
theorem dL_law_376 : decode cL_law 376 = .ok (.aload_n 2, 1) := by decide +kernel
theorem dL_law_377 : decode cL_law 377 = .ok (.aload_n 0, 1) := by decide +kernel
theorem dL_law_378 : decode cL_law 378 = .ok (.iload_n 3, 1) := by decide +kernel
theorem dL_law_379 : decode cL_law 379 = .ok (.iconst 1, 1) := by decide +kernel
theorem dL_law_380 : decode cL_law 380 = .ok (.iadd, 1) := by decide +kernel
theorem dL_law_381 : decode cL_law 381 = .ok (.iaload, 1) := by decide +kernel
theorem dL_law_382 : decode cL_law 382 = .ok (.aload_n 0, 1) := by decide +kernel
theorem dL_law_383 : decode cL_law 383 = .ok (.iload_n 3, 1) := by decide +kernel
theorem dL_law_384 : decode cL_law 384 = .ok (.iconst 2, 1) := by decide +kernel
theorem dL_law_385 : decode cL_law 385 = .ok (.iadd, 1) := by decide +kernel
theorem dL_law_386 : decode cL_law 386 = .ok (.iaload, 1) := by decide +kernel
theorem dL_law_387 : decode cL_law 387 = .ok (.invokevirtual 48, 3) := by decide +kernel
theorem dL_law_390 : decode cL_law 390 = .ok (.if_icmp .eq 519, 3) := by decide +kernel
theorem dL_law_393 : decode cL_law 393 = .ok (.iconst 0, 1) := by decide +kernel
theorem dL_law_394 : decode cL_law 394 = .ok (.ireturn, 1) := by decide +kernel
theorem dL_law_395 : decode cL_law 395 = .ok (.aload_n 1, 1) := by decide +kernel
theorem dL_law_396 : decode cL_law 396 = .ok (.invokevirtual 49, 3) := by decide +kernel
theorem dL_law_399 : decode cL_law 399 = .ok (.aload_n 2, 1) := by decide +kernel
theorem dL_law_400 : decode cL_law 400 = .ok (.invokevirtual 52, 3) := by decide +kernel
theorem dL_law_403 : decode cL_law 403 = .ok (.goto 506, 3) := by decide +kernel
theorem dL_law_406 : decode cL_law 406 = .ok (.aload_n 1, 1) := by decide +kernel
theorem dL_law_407 : decode cL_law 407 = .ok (.invokevirtual 53, 3) := by decide +kernel
theorem dL_law_410 : decode cL_law 410 = .ok (.aload_n 2, 1) := by decide +kernel
theorem dL_law_411 : decode cL_law 411 = .ok (.invokevirtual 56, 3) := by decide +kernel
theorem dL_law_414 : decode cL_law 414 = .ok (.goto 495, 3) := by decide +kernel
theorem dL_law_417 : decode cL_law 417 = .ok (.aload_n 1, 1) := by decide +kernel
theorem dL_law_418 : decode cL_law 418 = .ok (.aload_n 0, 1) := by decide +kernel
theorem dL_law_419 : decode cL_law 419 = .ok (.iload_n 3, 1) := by decide +kernel
theorem dL_law_420 : decode cL_law 420 = .ok (.iconst 1, 1) := by decide +kernel
theorem dL_law_421 : decode cL_law 421 = .ok (.iadd, 1) := by decide +kernel
theorem dL_law_422 : decode cL_law 422 = .ok (.iaload, 1) := by decide +kernel
theorem dL_law_423 : decode cL_law 423 = .ok (.invokevirtual 57, 3) := by decide +kernel
theorem dL_law_426 : decode cL_law 426 = .ok (.aload_n 2, 1) := by decide +kernel
theorem dL_law_427 : decode cL_law 427 = .ok (.aload_n 0, 1) := by decide +kernel
theorem dL_law_428 : decode cL_law 428 = .ok (.iload_n 3, 1) := by decide +kernel
theorem dL_law_429 : decode cL_law 429 = .ok (.iconst 1, 1) := by decide +kernel
theorem dL_law_430 : decode cL_law 430 = .ok (.iadd, 1) := by decide +kernel
theorem dL_law_431 : decode cL_law 431 = .ok (.iaload, 1) := by decide +kernel
theorem dL_law_432 : decode cL_law 432 = .ok (.invokevirtual 60, 3) := by decide +kernel
theorem dL_law_435 : decode cL_law 435 = .ok (.if_icmp .eq 474, 3) := by decide +kernel
theorem dL_law_438 : decode cL_law 438 = .ok (.iconst 0, 1) := by decide +kernel
theorem dL_law_439 : decode cL_law 439 = .ok (.ireturn, 1) := by decide +kernel
theorem dL_law_440 : decode cL_law 440 = .ok (.aload_n 1, 1) := by decide +kernel
theorem dL_law_441 : decode cL_law 441 = .ok (.aload_n 0, 1) := by decide +kernel
theorem dL_law_442 : decode cL_law 442 = .ok (.iload_n 3, 1) := by decide +kernel
theorem dL_law_443 : decode cL_law 443 = .ok (.iconst 1, 1) := by decide +kernel
theorem dL_law_444 : decode cL_law 444 = .ok (.iadd, 1) := by decide +kernel
theorem dL_law_445 : decode cL_law 445 = .ok (.iaload, 1) := by decide +kernel
theorem dL_law_446 : decode cL_law 446 = .ok (.invokevirtual 61, 3) := by decide +kernel
theorem dL_law_449 : decode cL_law 449 = .ok (.aload_n 2, 1) := by decide +kernel
theorem dL_law_450 : decode cL_law 450 = .ok (.aload_n 0, 1) := by decide +kernel
theorem dL_law_451 : decode cL_law 451 = .ok (.iload_n 3, 1) := by decide +kernel
theorem dL_law_452 : decode cL_law 452 = .ok (.iconst 1, 1) := by decide +kernel
theorem dL_law_453 : decode cL_law 453 = .ok (.iadd, 1) := by decide +kernel
theorem dL_law_454 : decode cL_law 454 = .ok (.iaload, 1) := by decide +kernel
theorem dL_law_455 : decode cL_law 455 = .ok (.invokevirtual 64, 3) := by decide +kernel
theorem dL_law_458 : decode cL_law 458 = .ok (.if_icmp .eq 451, 3) := by decide +kernel
theorem dL_law_461 : decode cL_law 461 = .ok (.iconst 0, 1) := by decide +kernel
theorem dL_law_462 : decode cL_law 462 = .ok (.ireturn, 1) := by decide +kernel
theorem dL_law_463 : decode cL_law 463 = .ok (.aload_n 1, 1) := by decide +kernel
theorem dL_law_464 : decode cL_law 464 = .ok (.invokevirtual 65, 3) := by decide +kernel
theorem dL_law_467 : decode cL_law 467 = .ok (.aload_n 2, 1) := by decide +kernel
theorem dL_law_468 : decode cL_law 468 = .ok (.invokevirtual 68, 3) := by decide +kernel
theorem dL_law_471 : decode cL_law 471 = .ok (.goto 438, 3) := by decide +kernel
theorem dL_law_474 : decode cL_law 474 = .ok (.aload_n 1, 1) := by decide +kernel
theorem dL_law_475 : decode cL_law 475 = .ok (.invokevirtual 69, 3) := by decide +kernel
theorem dL_law_478 : decode cL_law 478 = .ok (.aload_n 2, 1) := by decide +kernel
theorem dL_law_479 : decode cL_law 479 = .ok (.invokevirtual 72, 3) := by decide +kernel
theorem dL_law_482 : decode cL_law 482 = .ok (.if_icmp .eq 427, 3) := by decide +kernel
theorem dL_law_485 : decode cL_law 485 = .ok (.iconst 0, 1) := by decide +kernel
theorem dL_law_486 : decode cL_law 486 = .ok (.ireturn, 1) := by decide +kernel
theorem dL_law_487 : decode cL_law 487 = .ok (.aload_n 1, 1) := by decide +kernel
theorem dL_law_488 : decode cL_law 488 = .ok (.aload_n 0, 1) := by decide +kernel
theorem dL_law_489 : decode cL_law 489 = .ok (.iload_n 3, 1) := by decide +kernel
theorem dL_law_490 : decode cL_law 490 = .ok (.iconst 1, 1) := by decide +kernel
theorem dL_law_491 : decode cL_law 491 = .ok (.iadd, 1) := by decide +kernel
theorem dL_law_492 : decode cL_law 492 = .ok (.iaload, 1) := by decide +kernel
theorem dL_law_493 : decode cL_law 493 = .ok (.aload_n 0, 1) := by decide +kernel
theorem dL_law_494 : decode cL_law 494 = .ok (.iload_n 3, 1) := by decide +kernel
theorem dL_law_495 : decode cL_law 495 = .ok (.iconst 2, 1) := by decide +kernel
theorem dL_law_496 : decode cL_law 496 = .ok (.iadd, 1) := by decide +kernel
theorem dL_law_497 : decode cL_law 497 = .ok (.iaload, 1) := by decide +kernel
theorem dL_law_498 : decode cL_law 498 = .ok (.invokevirtual 73, 3) := by decide +kernel
theorem dL_law_501 : decode cL_law 501 = .ok (.aload_n 2, 1) := by decide +kernel
theorem dL_law_502 : decode cL_law 502 = .ok (.aload_n 0, 1) := by decide +kernel
theorem dL_law_503 : decode cL_law 503 = .ok (.iload_n 3, 1) := by decide +kernel
theorem dL_law_504 : decode cL_law 504 = .ok (.iconst 1, 1) := by decide +kernel
theorem dL_law_505 : decode cL_law 505 = .ok (.iadd, 1) := by decide +kernel
theorem dL_law_506 : decode cL_law 506 = .ok (.iaload, 1) := by decide +kernel
theorem dL_law_507 : decode cL_law 507 = .ok (.aload_n 0, 1) := by decide +kernel
theorem dL_law_508 : decode cL_law 508 = .ok (.iload_n 3, 1) := by decide +kernel
theorem dL_law_509 : decode cL_law 509 = .ok (.iconst 2, 1) := by decide +kernel
theorem dL_law_510 : decode cL_law 510 = .ok (.iadd, 1) := by decide +kernel
theorem dL_law_511 : decode cL_law 511 = .ok (.iaload, 1) := by decide +kernel
theorem dL_law_512 : decode cL_law 512 = .ok (.invokevirtual 76, 3) := by decide +kernel
theorem dL_law_515 : decode cL_law 515 = .ok (.if_icmp .eq 394, 3) := by decide +kernel
theorem dL_law_518 : decode cL_law 518 = .ok (.iconst 0, 1) := by decide +kernel
theorem dL_law_519 : decode cL_law 519 = .ok (.ireturn, 1) := by decide +kernel
theorem dL_law_520 : decode cL_law 520 = .ok (.aload_n 1, 1) := by decide +kernel
theorem dL_law_521 : decode cL_law 521 = .ok (.aload_n 0, 1) := by decide +kernel
theorem dL_law_522 : decode cL_law 522 = .ok (.iload_n 3, 1) := by decide +kernel
theorem dL_law_523 : decode cL_law 523 = .ok (.iconst 1, 1) := by decide +kernel
theorem dL_law_524 : decode cL_law 524 = .ok (.iadd, 1) := by decide +kernel
theorem dL_law_525 : decode cL_law 525 = .ok (.iaload, 1) := by decide +kernel
theorem dL_law_526 : decode cL_law 526 = .ok (.invokevirtual 77, 3) := by decide +kernel
theorem dL_law_529 : decode cL_law 529 = .ok (.aload_n 2, 1) := by decide +kernel
theorem dL_law_530 : decode cL_law 530 = .ok (.aload_n 0, 1) := by decide +kernel
theorem dL_law_531 : decode cL_law 531 = .ok (.iload_n 3, 1) := by decide +kernel
theorem dL_law_532 : decode cL_law 532 = .ok (.iconst 1, 1) := by decide +kernel
theorem dL_law_533 : decode cL_law 533 = .ok (.iadd, 1) := by decide +kernel
theorem dL_law_534 : decode cL_law 534 = .ok (.iaload, 1) := by decide +kernel
theorem dL_law_535 : decode cL_law 535 = .ok (.invokevirtual 80, 3) := by decide +kernel
theorem dL_law_538 : decode cL_law 538 = .ok (.if_icmp .eq 371, 3) := by decide +kernel
theorem dL_law_541 : decode cL_law 541 = .ok (.iconst 0, 1) := by decide +kernel
theorem dL_law_542 : decode cL_law 542 = .ok (.ireturn, 1) := by decide +kernel
theorem dL_law_543 : decode cL_law 543 = .ok (.aload_n 1, 1) := by decide +kernel
theorem dL_law_544 : decode cL_law 544 = .ok (.aload_n 0, 1) := by decide +kernel
theorem dL_law_545 : decode cL_law 545 = .ok (.iload_n 3, 1) := by decide +kernel
theorem dL_law_546 : decode cL_law 546 = .ok (.iconst 1, 1) := by decide +kernel
theorem dL_law_547 : decode cL_law 547 = .ok (.iadd, 1) := by decide +kernel
theorem dL_law_548 : decode cL_law 548 = .ok (.iaload, 1) := by decide +kernel
theorem dL_law_549 : decode cL_law 549 = .ok (.aload_n 0, 1) := by decide +kernel
theorem dL_law_550 : decode cL_law 550 = .ok (.iload_n 3, 1) := by decide +kernel
theorem dL_law_551 : decode cL_law 551 = .ok (.iconst 2, 1) := by decide +kernel
theorem dL_law_552 : decode cL_law 552 = .ok (.iadd, 1) := by decide +kernel
theorem dL_law_553 : decode cL_law 553 = .ok (.iaload, 1) := by decide +kernel
theorem dL_law_554 : decode cL_law 554 = .ok (.invokevirtual 81, 3) := by decide +kernel
theorem dL_law_557 : decode cL_law 557 = .ok (.aload_n 2, 1) := by decide +kernel
theorem dL_law_558 : decode cL_law 558 = .ok (.aload_n 0, 1) := by decide +kernel
theorem dL_law_559 : decode cL_law 559 = .ok (.iload_n 3, 1) := by decide +kernel
theorem dL_law_560 : decode cL_law 560 = .ok (.iconst 1, 1) := by decide +kernel
theorem dL_law_561 : decode cL_law 561 = .ok (.iadd, 1) := by decide +kernel
theorem dL_law_562 : decode cL_law 562 = .ok (.iaload, 1) := by decide +kernel
theorem dL_law_563 : decode cL_law 563 = .ok (.aload_n 0, 1) := by decide +kernel
theorem dL_law_564 : decode cL_law 564 = .ok (.iload_n 3, 1) := by decide +kernel
theorem dL_law_565 : decode cL_law 565 = .ok (.iconst 2, 1) := by decide +kernel
theorem dL_law_566 : decode cL_law 566 = .ok (.iadd, 1) := by decide +kernel
theorem dL_law_567 : decode cL_law 567 = .ok (.iaload, 1) := by decide +kernel
theorem dL_law_568 : decode cL_law 568 = .ok (.invokevirtual 84, 3) := by decide +kernel
theorem dL_law_571 : decode cL_law 571 = .ok (.if_icmp .eq 338, 3) := by decide +kernel
theorem dL_law_574 : decode cL_law 574 = .ok (.iconst 0, 1) := by decide +kernel
theorem dL_law_575 : decode cL_law 575 = .ok (.ireturn, 1) := by decide +kernel
theorem dL_law_576 : decode cL_law 576 = .ok (.aload_n 1, 1) := by decide +kernel
theorem dL_law_577 : decode cL_law 577 = .ok (.aload_n 0, 1) := by decide +kernel
theorem dL_law_578 : decode cL_law 578 = .ok (.iload_n 3, 1) := by decide +kernel
theorem dL_law_579 : decode cL_law 579 = .ok (.iconst 1, 1) := by decide +kernel
theorem dL_law_580 : decode cL_law 580 = .ok (.iadd, 1) := by decide +kernel
theorem dL_law_581 : decode cL_law 581 = .ok (.iaload, 1) := by decide +kernel
theorem dL_law_582 : decode cL_law 582 = .ok (.invokevirtual 85, 3) := by decide +kernel
theorem dL_law_585 : decode cL_law 585 = .ok (.aload_n 2, 1) := by decide +kernel
theorem dL_law_586 : decode cL_law 586 = .ok (.aload_n 0, 1) := by decide +kernel
theorem dL_law_587 : decode cL_law 587 = .ok (.iload_n 3, 1) := by decide +kernel
theorem dL_law_588 : decode cL_law 588 = .ok (.iconst 1, 1) := by decide +kernel
theorem dL_law_589 : decode cL_law 589 = .ok (.iadd, 1) := by decide +kernel
theorem dL_law_590 : decode cL_law 590 = .ok (.iaload, 1) := by decide +kernel
theorem dL_law_591 : decode cL_law 591 = .ok (.invokevirtual 88, 3) := by decide +kernel
theorem dL_law_594 : decode cL_law 594 = .ok (.if_icmp .eq 315, 3) := by decide +kernel
theorem dL_law_597 : decode cL_law 597 = .ok (.iconst 0, 1) := by decide +kernel
theorem dL_law_598 : decode cL_law 598 = .ok (.ireturn, 1) := by decide +kernel
theorem dL_law_599 : decode cL_law 599 = .ok (.aload_n 1, 1) := by decide +kernel
theorem dL_law_600 : decode cL_law 600 = .ok (.aload_n 0, 1) := by decide +kernel
theorem dL_law_601 : decode cL_law 601 = .ok (.iload_n 3, 1) := by decide +kernel
theorem dL_law_602 : decode cL_law 602 = .ok (.iconst 1, 1) := by decide +kernel
theorem dL_law_603 : decode cL_law 603 = .ok (.iadd, 1) := by decide +kernel
theorem dL_law_604 : decode cL_law 604 = .ok (.iaload, 1) := by decide +kernel
theorem dL_law_605 : decode cL_law 605 = .ok (.aload_n 0, 1) := by decide +kernel
theorem dL_law_606 : decode cL_law 606 = .ok (.iload_n 3, 1) := by decide +kernel
theorem dL_law_607 : decode cL_law 607 = .ok (.iconst 2, 1) := by decide +kernel
theorem dL_law_608 : decode cL_law 608 = .ok (.iadd, 1) := by decide +kernel
theorem dL_law_609 : decode cL_law 609 = .ok (.iaload, 1) := by decide +kernel
theorem dL_law_610 : decode cL_law 610 = .ok (.aload_n 0, 1) := by decide +kernel
theorem dL_law_611 : decode cL_law 611 = .ok (.iload_n 3, 1) := by decide +kernel
theorem dL_law_612 : decode cL_law 612 = .ok (.iconst 3, 1) := by decide +kernel
theorem dL_law_613 : decode cL_law 613 = .ok (.iadd, 1) := by decide +kernel
theorem dL_law_614 : decode cL_law 614 = .ok (.iaload, 1) := by decide +kernel
theorem dL_law_615 : decode cL_law 615 = .ok (.invokevirtual 89, 3) := by decide +kernel
theorem dL_law_618 : decode cL_law 618 = .ok (.aload_n 2, 1) := by decide +kernel
theorem dL_law_619 : decode cL_law 619 = .ok (.aload_n 0, 1) := by decide +kernel
theorem dL_law_620 : decode cL_law 620 = .ok (.iload_n 3, 1) := by decide +kernel
theorem dL_law_621 : decode cL_law 621 = .ok (.iconst 1, 1) := by decide +kernel
theorem dL_law_622 : decode cL_law 622 = .ok (.iadd, 1) := by decide +kernel
theorem dL_law_623 : decode cL_law 623 = .ok (.iaload, 1) := by decide +kernel
theorem dL_law_624 : decode cL_law 624 = .ok (.aload_n 0, 1) := by decide +kernel
theorem dL_law_625 : decode cL_law 625 = .ok (.iload_n 3, 1) := by decide +kernel
theorem dL_law_626 : decode cL_law 626 = .ok (.iconst 2, 1) := by decide +kernel
theorem dL_law_627 : decode cL_law 627 = .ok (.iadd, 1) := by decide +kernel
theorem dL_law_628 : decode cL_law 628 = .ok (.iaload, 1) := by decide +kernel
theorem dL_law_629 : decode cL_law 629 = .ok (.aload_n 0, 1) := by decide +kernel
theorem dL_law_630 : decode cL_law 630 = .ok (.iload_n 3, 1) := by decide +kernel
theorem dL_law_631 : decode cL_law 631 = .ok (.iconst 3, 1) := by decide +kernel
theorem dL_law_632 : decode cL_law 632 = .ok (.iadd, 1) := by decide +kernel
theorem dL_law_633 : decode cL_law 633 = .ok (.iaload, 1) := by decide +kernel
theorem dL_law_634 : decode cL_law 634 = .ok (.invokevirtual 92, 3) := by decide +kernel
theorem dL_law_637 : decode cL_law 637 = .ok (.if_icmp .eq 272, 3) := by decide +kernel
theorem dL_law_640 : decode cL_law 640 = .ok (.iconst 0, 1) := by decide +kernel
theorem dL_law_641 : decode cL_law 641 = .ok (.ireturn, 1) := by decide +kernel
theorem dL_law_642 : decode cL_law 642 = .ok (.aload_n 1, 1) := by decide +kernel
theorem dL_law_643 : decode cL_law 643 = .ok (.aload_n 0, 1) := by decide +kernel
theorem dL_law_644 : decode cL_law 644 = .ok (.iload_n 3, 1) := by decide +kernel
theorem dL_law_645 : decode cL_law 645 = .ok (.iconst 1, 1) := by decide +kernel
theorem dL_law_646 : decode cL_law 646 = .ok (.iadd, 1) := by decide +kernel
theorem dL_law_647 : decode cL_law 647 = .ok (.iaload, 1) := by decide +kernel
theorem dL_law_648 : decode cL_law 648 = .ok (.aload_n 0, 1) := by decide +kernel
theorem dL_law_649 : decode cL_law 649 = .ok (.iload_n 3, 1) := by decide +kernel
theorem dL_law_650 : decode cL_law 650 = .ok (.iconst 2, 1) := by decide +kernel
theorem dL_law_651 : decode cL_law 651 = .ok (.iadd, 1) := by decide +kernel
theorem dL_law_652 : decode cL_law 652 = .ok (.iaload, 1) := by decide +kernel
theorem dL_law_653 : decode cL_law 653 = .ok (.invokevirtual 93, 3) := by decide +kernel
theorem dL_law_656 : decode cL_law 656 = .ok (.aload_n 2, 1) := by decide +kernel
theorem dL_law_657 : decode cL_law 657 = .ok (.aload_n 0, 1) := by decide +kernel
theorem dL_law_658 : decode cL_law 658 = .ok (.iload_n 3, 1) := by decide +kernel
theorem dL_law_659 : decode cL_law 659 = .ok (.iconst 1, 1) := by decide +kernel
theorem dL_law_660 : decode cL_law 660 = .ok (.iadd, 1) := by decide +kernel
theorem dL_law_661 : decode cL_law 661 = .ok (.iaload, 1) := by decide +kernel
theorem dL_law_662 : decode cL_law 662 = .ok (.aload_n 0, 1) := by decide +kernel
theorem dL_law_663 : decode cL_law 663 = .ok (.iload_n 3, 1) := by decide +kernel
theorem dL_law_664 : decode cL_law 664 = .ok (.iconst 2, 1) := by decide +kernel
theorem dL_law_665 : decode cL_law 665 = .ok (.iadd, 1) := by decide +kernel
theorem dL_law_666 : decode cL_law 666 = .ok (.iaload, 1) := by decide +kernel
theorem dL_law_667 : decode cL_law 667 = .ok (.invokevirtual 97, 3) := by decide +kernel
theorem dL_law_670 : decode cL_law 670 = .ok (.if_icmp .eq 239, 3) := by decide +kernel
theorem dL_law_673 : decode cL_law 673 = .ok (.iconst 0, 1) := by decide +kernel
theorem dL_law_674 : decode cL_law 674 = .ok (.ireturn, 1) := by decide +kernel
theorem dL_law_675 : decode cL_law 675 = .ok (.aload_n 1, 1) := by decide +kernel
theorem dL_law_676 : decode cL_law 676 = .ok (.invokevirtual 98, 3) := by decide +kernel
theorem dL_law_679 : decode cL_law 679 = .ok (.aload_n 2, 1) := by decide +kernel
theorem dL_law_680 : decode cL_law 680 = .ok (.invokevirtual 101, 3) := by decide +kernel
theorem dL_law_683 : decode cL_law 683 = .ok (.if_icmp .eq 226, 3) := by decide +kernel
theorem dL_law_686 : decode cL_law 686 = .ok (.iconst 0, 1) := by decide +kernel
theorem dL_law_687 : decode cL_law 687 = .ok (.ireturn, 1) := by decide +kernel
theorem dL_law_688 : decode cL_law 688 = .ok (.aload_n 1, 1) := by decide +kernel
theorem dL_law_689 : decode cL_law 689 = .ok (.invokevirtual 102, 3) := by decide +kernel
theorem dL_law_692 : decode cL_law 692 = .ok (.aload_n 2, 1) := by decide +kernel
theorem dL_law_693 : decode cL_law 693 = .ok (.invokevirtual 105, 3) := by decide +kernel
theorem dL_law_696 : decode cL_law 696 = .ok (.if_icmp .eq 213, 3) := by decide +kernel
theorem dL_law_699 : decode cL_law 699 = .ok (.iconst 0, 1) := by decide +kernel
theorem dL_law_700 : decode cL_law 700 = .ok (.ireturn, 1) := by decide +kernel
theorem dL_law_701 : decode cL_law 701 = .ok (.aload_n 1, 1) := by decide +kernel
theorem dL_law_702 : decode cL_law 702 = .ok (.aload_n 0, 1) := by decide +kernel
theorem dL_law_703 : decode cL_law 703 = .ok (.iload_n 3, 1) := by decide +kernel
theorem dL_law_704 : decode cL_law 704 = .ok (.iconst 1, 1) := by decide +kernel
theorem dL_law_705 : decode cL_law 705 = .ok (.iadd, 1) := by decide +kernel
theorem dL_law_706 : decode cL_law 706 = .ok (.iaload, 1) := by decide +kernel
theorem dL_law_707 : decode cL_law 707 = .ok (.aload_n 0, 1) := by decide +kernel
theorem dL_law_708 : decode cL_law 708 = .ok (.iload_n 3, 1) := by decide +kernel
theorem dL_law_709 : decode cL_law 709 = .ok (.iconst 2, 1) := by decide +kernel
theorem dL_law_710 : decode cL_law 710 = .ok (.iadd, 1) := by decide +kernel
theorem dL_law_711 : decode cL_law 711 = .ok (.iaload, 1) := by decide +kernel
theorem dL_law_712 : decode cL_law 712 = .ok (.invokevirtual 106, 3) := by decide +kernel
theorem dL_law_715 : decode cL_law 715 = .ok (.aload_n 2, 1) := by decide +kernel
theorem dL_law_716 : decode cL_law 716 = .ok (.aload_n 0, 1) := by decide +kernel
theorem dL_law_717 : decode cL_law 717 = .ok (.iload_n 3, 1) := by decide +kernel
theorem dL_law_718 : decode cL_law 718 = .ok (.iconst 1, 1) := by decide +kernel
theorem dL_law_719 : decode cL_law 719 = .ok (.iadd, 1) := by decide +kernel
theorem dL_law_720 : decode cL_law 720 = .ok (.iaload, 1) := by decide +kernel
theorem dL_law_721 : decode cL_law 721 = .ok (.aload_n 0, 1) := by decide +kernel
theorem dL_law_722 : decode cL_law 722 = .ok (.iload_n 3, 1) := by decide +kernel
theorem dL_law_723 : decode cL_law 723 = .ok (.iconst 2, 1) := by decide +kernel
theorem dL_law_724 : decode cL_law 724 = .ok (.iadd, 1) := by decide +kernel
theorem dL_law_725 : decode cL_law 725 = .ok (.iaload, 1) := by decide +kernel
theorem dL_law_726 : decode cL_law 726 = .ok (.invokevirtual 109, 3) := by decide +kernel
theorem dL_law_729 : decode cL_law 729 = .ok (.if_icmp .eq 180, 3) := by decide +kernel
theorem dL_law_732 : decode cL_law 732 = .ok (.iconst 0, 1) := by decide +kernel
theorem dL_law_733 : decode cL_law 733 = .ok (.ireturn, 1) := by decide +kernel
theorem dL_law_734 : decode cL_law 734 = .ok (.aload_n 1, 1) := by decide +kernel
theorem dL_law_735 : decode cL_law 735 = .ok (.invokevirtual 110, 3) := by decide +kernel
theorem dL_law_738 : decode cL_law 738 = .ok (.aload_n 2, 1) := by decide +kernel
theorem dL_law_739 : decode cL_law 739 = .ok (.invokevirtual 113, 3) := by decide +kernel
theorem dL_law_742 : decode cL_law 742 = .ok (.if_icmp .eq 167, 3) := by decide +kernel
theorem dL_law_745 : decode cL_law 745 = .ok (.iconst 0, 1) := by decide +kernel
theorem dL_law_746 : decode cL_law 746 = .ok (.ireturn, 1) := by decide +kernel
theorem dL_law_747 : decode cL_law 747 = .ok (.aload_n 1, 1) := by decide +kernel
theorem dL_law_748 : decode cL_law 748 = .ok (.aload_n 0, 1) := by decide +kernel
theorem dL_law_749 : decode cL_law 749 = .ok (.iload_n 3, 1) := by decide +kernel
theorem dL_law_750 : decode cL_law 750 = .ok (.iconst 1, 1) := by decide +kernel
theorem dL_law_751 : decode cL_law 751 = .ok (.iadd, 1) := by decide +kernel
theorem dL_law_752 : decode cL_law 752 = .ok (.iaload, 1) := by decide +kernel
theorem dL_law_753 : decode cL_law 753 = .ok (.invokevirtual 114, 3) := by decide +kernel
theorem dL_law_756 : decode cL_law 756 = .ok (.aload_n 2, 1) := by decide +kernel
theorem dL_law_757 : decode cL_law 757 = .ok (.aload_n 0, 1) := by decide +kernel
theorem dL_law_758 : decode cL_law 758 = .ok (.iload_n 3, 1) := by decide +kernel
theorem dL_law_759 : decode cL_law 759 = .ok (.iconst 1, 1) := by decide +kernel
theorem dL_law_760 : decode cL_law 760 = .ok (.iadd, 1) := by decide +kernel
theorem dL_law_761 : decode cL_law 761 = .ok (.iaload, 1) := by decide +kernel
theorem dL_law_762 : decode cL_law 762 = .ok (.invokevirtual 117, 3) := by decide +kernel
theorem dL_law_765 : decode cL_law 765 = .ok (.if_icmp .eq 144, 3) := by decide +kernel
theorem dL_law_768 : decode cL_law 768 = .ok (.iconst 0, 1) := by decide +kernel
theorem dL_law_769 : decode cL_law 769 = .ok (.ireturn, 1) := by decide +kernel
theorem dL_law_770 : decode cL_law 770 = .ok (.aload_n 1, 1) := by decide +kernel
theorem dL_law_771 : decode cL_law 771 = .ok (.invokevirtual 118, 3) := by decide +kernel
theorem dL_law_774 : decode cL_law 774 = .ok (.aload_n 2, 1) := by decide +kernel
theorem dL_law_775 : decode cL_law 775 = .ok (.invokevirtual 121, 3) := by decide +kernel
theorem dL_law_778 : decode cL_law 778 = .ok (.goto 131, 3) := by decide +kernel
theorem dL_law_781 : decode cL_law 781 = .ok (.aload_n 1, 1) := by decide +kernel
theorem dL_law_782 : decode cL_law 782 = .ok (.aload_n 0, 1) := by decide +kernel
theorem dL_law_783 : decode cL_law 783 = .ok (.iload_n 3, 1) := by decide +kernel
theorem dL_law_784 : decode cL_law 784 = .ok (.iconst 1, 1) := by decide +kernel
theorem dL_law_785 : decode cL_law 785 = .ok (.iadd, 1) := by decide +kernel
theorem dL_law_786 : decode cL_law 786 = .ok (.iaload, 1) := by decide +kernel
theorem dL_law_787 : decode cL_law 787 = .ok (.invokevirtual 122, 3) := by decide +kernel
theorem dL_law_790 : decode cL_law 790 = .ok (.aload_n 2, 1) := by decide +kernel
theorem dL_law_791 : decode cL_law 791 = .ok (.aload_n 0, 1) := by decide +kernel
theorem dL_law_792 : decode cL_law 792 = .ok (.iload_n 3, 1) := by decide +kernel
theorem dL_law_793 : decode cL_law 793 = .ok (.iconst 1, 1) := by decide +kernel
theorem dL_law_794 : decode cL_law 794 = .ok (.iadd, 1) := by decide +kernel
theorem dL_law_795 : decode cL_law 795 = .ok (.iaload, 1) := by decide +kernel
theorem dL_law_796 : decode cL_law 796 = .ok (.invokevirtual 125, 3) := by decide +kernel
theorem dL_law_799 : decode cL_law 799 = .ok (.if_icmp .eq 110, 3) := by decide +kernel
theorem dL_law_802 : decode cL_law 802 = .ok (.iconst 0, 1) := by decide +kernel
theorem dL_law_803 : decode cL_law 803 = .ok (.ireturn, 1) := by decide +kernel
theorem dL_law_804 : decode cL_law 804 = .ok (.aload_n 1, 1) := by decide +kernel
theorem dL_law_805 : decode cL_law 805 = .ok (.aload_n 0, 1) := by decide +kernel
theorem dL_law_806 : decode cL_law 806 = .ok (.iload_n 3, 1) := by decide +kernel
theorem dL_law_807 : decode cL_law 807 = .ok (.iconst 1, 1) := by decide +kernel
theorem dL_law_808 : decode cL_law 808 = .ok (.iadd, 1) := by decide +kernel
theorem dL_law_809 : decode cL_law 809 = .ok (.iaload, 1) := by decide +kernel
theorem dL_law_810 : decode cL_law 810 = .ok (.ifCond .eq 7, 3) := by decide +kernel
theorem dL_law_813 : decode cL_law 813 = .ok (.iconst 1, 1) := by decide +kernel
theorem dL_law_814 : decode cL_law 814 = .ok (.goto 4, 3) := by decide +kernel
theorem dL_law_817 : decode cL_law 817 = .ok (.iconst 0, 1) := by decide +kernel
theorem dL_law_818 : decode cL_law 818 = .ok (.aload_n 0, 1) := by decide +kernel
theorem dL_law_819 : decode cL_law 819 = .ok (.iload_n 3, 1) := by decide +kernel
theorem dL_law_820 : decode cL_law 820 = .ok (.iconst 2, 1) := by decide +kernel
theorem dL_law_821 : decode cL_law 821 = .ok (.iadd, 1) := by decide +kernel
theorem dL_law_822 : decode cL_law 822 = .ok (.iaload, 1) := by decide +kernel
theorem dL_law_823 : decode cL_law 823 = .ok (.invokevirtual 126, 3) := by decide +kernel
theorem dL_law_826 : decode cL_law 826 = .ok (.aload_n 2, 1) := by decide +kernel
theorem dL_law_827 : decode cL_law 827 = .ok (.aload_n 0, 1) := by decide +kernel
theorem dL_law_828 : decode cL_law 828 = .ok (.iload_n 3, 1) := by decide +kernel
theorem dL_law_829 : decode cL_law 829 = .ok (.iconst 1, 1) := by decide +kernel
theorem dL_law_830 : decode cL_law 830 = .ok (.iadd, 1) := by decide +kernel
theorem dL_law_831 : decode cL_law 831 = .ok (.iaload, 1) := by decide +kernel
theorem dL_law_832 : decode cL_law 832 = .ok (.ifCond .eq 7, 3) := by decide +kernel
theorem dL_law_835 : decode cL_law 835 = .ok (.iconst 1, 1) := by decide +kernel
theorem dL_law_836 : decode cL_law 836 = .ok (.goto 4, 3) := by decide +kernel
theorem dL_law_839 : decode cL_law 839 = .ok (.iconst 0, 1) := by decide +kernel
theorem dL_law_840 : decode cL_law 840 = .ok (.aload_n 0, 1) := by decide +kernel
theorem dL_law_841 : decode cL_law 841 = .ok (.iload_n 3, 1) := by decide +kernel
theorem dL_law_842 : decode cL_law 842 = .ok (.iconst 2, 1) := by decide +kernel
theorem dL_law_843 : decode cL_law 843 = .ok (.iadd, 1) := by decide +kernel
theorem dL_law_844 : decode cL_law 844 = .ok (.iaload, 1) := by decide +kernel
theorem dL_law_845 : decode cL_law 845 = .ok (.invokevirtual 130, 3) := by decide +kernel
theorem dL_law_848 : decode cL_law 848 = .ok (.if_icmp .eq 61, 3) := by decide +kernel
theorem dL_law_851 : decode cL_law 851 = .ok (.iconst 0, 1) := by decide +kernel
theorem dL_law_852 : decode cL_law 852 = .ok (.ireturn, 1) := by decide +kernel
theorem dL_law_853 : decode cL_law 853 = .ok (.aload_n 1, 1) := by decide +kernel
theorem dL_law_854 : decode cL_law 854 = .ok (.aload_n 0, 1) := by decide +kernel
theorem dL_law_855 : decode cL_law 855 = .ok (.iload_n 3, 1) := by decide +kernel
theorem dL_law_856 : decode cL_law 856 = .ok (.iconst 1, 1) := by decide +kernel
theorem dL_law_857 : decode cL_law 857 = .ok (.iadd, 1) := by decide +kernel
theorem dL_law_858 : decode cL_law 858 = .ok (.iaload, 1) := by decide +kernel
theorem dL_law_859 : decode cL_law 859 = .ok (.aload_n 0, 1) := by decide +kernel
theorem dL_law_860 : decode cL_law 860 = .ok (.iload_n 3, 1) := by decide +kernel
theorem dL_law_861 : decode cL_law 861 = .ok (.iconst 2, 1) := by decide +kernel
theorem dL_law_862 : decode cL_law 862 = .ok (.iadd, 1) := by decide +kernel
theorem dL_law_863 : decode cL_law 863 = .ok (.iaload, 1) := by decide +kernel
theorem dL_law_864 : decode cL_law 864 = .ok (.invokevirtual 131, 3) := by decide +kernel
theorem dL_law_867 : decode cL_law 867 = .ok (.aload_n 2, 1) := by decide +kernel
theorem dL_law_868 : decode cL_law 868 = .ok (.aload_n 0, 1) := by decide +kernel
theorem dL_law_869 : decode cL_law 869 = .ok (.iload_n 3, 1) := by decide +kernel
theorem dL_law_870 : decode cL_law 870 = .ok (.iconst 1, 1) := by decide +kernel
theorem dL_law_871 : decode cL_law 871 = .ok (.iadd, 1) := by decide +kernel
theorem dL_law_872 : decode cL_law 872 = .ok (.iaload, 1) := by decide +kernel
theorem dL_law_873 : decode cL_law 873 = .ok (.aload_n 0, 1) := by decide +kernel
theorem dL_law_874 : decode cL_law 874 = .ok (.iload_n 3, 1) := by decide +kernel
theorem dL_law_875 : decode cL_law 875 = .ok (.iconst 2, 1) := by decide +kernel
theorem dL_law_876 : decode cL_law 876 = .ok (.iadd, 1) := by decide +kernel
theorem dL_law_877 : decode cL_law 877 = .ok (.iaload, 1) := by decide +kernel
theorem dL_law_878 : decode cL_law 878 = .ok (.invokevirtual 134, 3) := by decide +kernel
theorem dL_law_881 : decode cL_law 881 = .ok (.if_icmp .eq 28, 3) := by decide +kernel
theorem dL_law_884 : decode cL_law 884 = .ok (.iconst 0, 1) := by decide +kernel
theorem dL_law_885 : decode cL_law 885 = .ok (.ireturn, 1) := by decide +kernel
theorem dL_law_886 : decode cL_law 886 = .ok (.aload_n 1, 1) := by decide +kernel
theorem dL_law_887 : decode cL_law 887 = .ok (.aload_n 0, 1) := by decide +kernel
theorem dL_law_888 : decode cL_law 888 = .ok (.iload_n 3, 1) := by decide +kernel
theorem dL_law_889 : decode cL_law 889 = .ok (.iconst 1, 1) := by decide +kernel
theorem dL_law_890 : decode cL_law 890 = .ok (.iadd, 1) := by decide +kernel
theorem dL_law_891 : decode cL_law 891 = .ok (.iaload, 1) := by decide +kernel
theorem dL_law_892 : decode cL_law 892 = .ok (.invokevirtual 135, 3) := by decide +kernel
theorem dL_law_895 : decode cL_law 895 = .ok (.aload_n 2, 1) := by decide +kernel
theorem dL_law_896 : decode cL_law 896 = .ok (.aload_n 0, 1) := by decide +kernel
theorem dL_law_897 : decode cL_law 897 = .ok (.iload_n 3, 1) := by decide +kernel
theorem dL_law_898 : decode cL_law 898 = .ok (.iconst 1, 1) := by decide +kernel
theorem dL_law_899 : decode cL_law 899 = .ok (.iadd, 1) := by decide +kernel
theorem dL_law_900 : decode cL_law 900 = .ok (.iaload, 1) := by decide +kernel
theorem dL_law_901 : decode cL_law 901 = .ok (.invokevirtual 138, 3) := by decide +kernel
theorem dL_law_904 : decode cL_law 904 = .ok (.if_icmp .eq 5, 3) := by decide +kernel
theorem dL_law_907 : decode cL_law 907 = .ok (.iconst 0, 1) := by decide +kernel
theorem dL_law_908 : decode cL_law 908 = .ok (.ireturn, 1) := by decide +kernel
theorem dL_law_909 : decode cL_law 909 = .ok (.iinc 3 5, 3) := by decide +kernel
theorem dL_law_912 : decode cL_law 912 = .ok (.goto (-894), 3) := by decide +kernel
theorem dL_law_915 : decode cL_law 915 = .ok (.iconst 1, 1) := by decide +kernel
theorem dL_law_916 : decode cL_law 916 = .ok (.ireturn, 1) := by decide +kernel
