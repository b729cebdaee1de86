set_option maxRecDepth 20000 in
theorem ggL_law_X5_init : GoodIn wsL_law wsX5_init := goodIn_r _ [9, 10, 11, 12, 13, 14, 15, 16, 17, 18, 19, 20, 21, 22, 23, 24, 25, 26, 27, 28, 29, 30, 31, 32, 33, 34, 35, 36, 37, 38, 39, 40, 41, 42, 43, 44, 45, 46, 47, 48, 49, 50, 51, 52, 53, 54, 55, 56, 57, 58, 59, 60, 61, 62, 63, 64, 65, 66, 67, 68, 69, 70, 71, 72, 73, 74, 75, 960, 961, 962, 963, 964, 965, 966, 967, 968, 969, 970, 936, 937, 938, 939, 940, 941, 942, 943, 971, 972, 973, 974, 975, 976, 977, 978, 979, 980] (by decide +kernel) (by decide +kernel)
set_option maxRecDepth 20000 in
theorem gL_law_X5_init : GoodIn wsL_law (wsX5_init) := ggL_law_X5_init
set_option maxRecDepth 20000 in
theorem ggL_law_X6_init : GoodIn wsL_law wsX6_init := goodIn_r _ [78, 79, 11, 12, 32, 80, 81, 82, 83, 84, 85, 86, 87, 74, 88, 89, 90, 91, 5, 92, 944, 945, 946, 947, 948, 949, 950, 951, 952, 953, 954, 955, 956, 957, 958, 959] (by decide +kernel) (by decide +kernel)
set_option maxRecDepth 20000 in
theorem gL_law_X6_init : GoodIn wsL_law (wsX6_init) := ggL_law_X6_init
set_option maxRecDepth 20000 in
theorem ggL_law_X5_man : GoodIn wsL_law wsX5_man := goodIn_r _ [96, 16, 97, 98, 99, 2, 100, 101, 102, 103, 104, 105, 106, 15, 107, 39, 108, 109, 110, 111, 33, 112, 113, 114, 115, 40, 116, 117, 118, 119, 41, 120, 121, 122, 123, 124, 125, 126, 42, 127, 128, 129, 130, 43, 936, 937, 938, 939, 940, 941, 942, 943, 960, 961, 962, 963, 964, 965, 966, 967, 968, 969, 970] (by decide +kernel) (by decide +kernel)
set_option maxRecDepth 20000 in
theorem gL_law_X5_man : GoodIn wsL_law (wsV RL 13 RX5 yX5_man wsX5_man) := goodIn_app (goodIn_of _ (by decide +kernel)) ggL_law_X5_man
set_option maxRecDepth 20000 in
theorem ggL_law_X6_man : GoodIn wsL_law wsX6_man := goodIn_r _ [134, 135, 136, 137, 5, 138, 139, 140, 141, 142, 143, 144, 145, 146, 147, 148, 149, 150, 151, 152, 153, 80, 154, 155, 156, 157, 84, 944, 945, 946, 947, 948, 949, 950, 951, 952, 953, 954, 955, 956, 957, 958, 959] (by decide +kernel) (by decide +kernel)
set_option maxRecDepth 20000 in
theorem gL_law_X6_man : GoodIn wsL_law (wsV RL 17 RX6 yX6_man wsX6_man) := goodIn_app (goodIn_of _ (by decide +kernel)) ggL_law_X6_man
set_option maxRecDepth 20000 in
theorem ggL_law_X5_now : GoodIn wsL_law wsX5_now := goodIn_r _ [161, 16, 162, 163, 164, 165, 166, 167, 168, 97, 169, 170, 171, 15, 172, 38, 108, 109, 110, 2, 111, 33, 101, 102, 103, 936, 937, 938, 939, 940, 941, 942, 943, 960, 961, 962, 963, 964, 965, 966, 967, 968, 969, 970] (by decide +kernel) (by decide +kernel)
set_option maxRecDepth 20000 in
theorem gL_law_X5_now : GoodIn wsL_law (wsV RL 18 RX5 yX5_now wsX5_now) := goodIn_app (goodIn_of _ (by decide +kernel)) ggL_law_X5_now
set_option maxRecDepth 20000 in
theorem ggL_law_X6_now : GoodIn wsL_law wsX6_now := goodIn_r _ [176, 146, 135, 80, 147, 148, 5, 149, 154, 155, 156, 157, 84, 177, 178, 179, 180, 944, 945, 946, 947, 948, 949, 950, 951, 952, 953, 954, 955, 956, 957, 958, 959] (by decide +kernel) (by decide +kernel)
set_option maxRecDepth 20000 in
theorem gL_law_X6_now : GoodIn wsL_law (wsV RL 22 RX6 yX6_now wsX6_now) := goodIn_app (goodIn_of _ (by decide +kernel)) ggL_law_X6_now
set_option maxRecDepth 20000 in
theorem ggL_law_X5_of : GoodIn wsL_law wsX5_of := goodIn_r _ [184, 97, 16, 185, 186, 187, 188, 98, 99, 2, 100, 101, 102, 103, 108, 109, 110, 111, 33, 189, 190, 191, 15, 192, 45, 46, 38, 193, 194, 195, 196, 936, 937, 938, 939, 940, 941, 942, 943, 960, 961, 962, 963, 964, 965, 966, 967, 968, 969, 970] (by decide +kernel) (by decide +kernel)
set_option maxRecDepth 20000 in
theorem gL_law_X5_of : GoodIn wsL_law (wsV RL 23 RX5 yX5_of wsX5_of) := goodIn_app (goodIn_of _ (by decide +kernel)) ggL_law_X5_of
set_option maxRecDepth 20000 in
theorem ggL_law_X6_of : GoodIn wsL_law wsX6_of := goodIn_r _ [200, 201, 135, 143, 144, 5, 145, 146, 147, 148, 149, 154, 155, 156, 157, 84, 202, 203, 204, 205, 80, 90, 91, 92, 206, 207, 208, 209, 210, 211, 212, 213, 214, 215, 944, 945, 946, 947, 948, 949, 950, 951, 952, 953, 954, 955, 956, 957, 958, 959] (by decide +kernel) (by decide +kernel)
set_option maxRecDepth 20000 in
theorem gL_law_X6_of : GoodIn wsL_law (wsV RL 26 RX6 yX6_of wsX6_of) := goodIn_app (goodIn_of _ (by decide +kernel)) ggL_law_X6_of
set_option maxRecDepth 20000 in
theorem ggL_law_X5_minds : GoodIn wsL_law wsX5_minds := goodIn_r _ [219, 97, 16, 98, 99, 2, 100, 101, 102, 103, 120, 121, 122, 108, 109, 110, 111, 33, 220, 221, 222, 15, 223, 45, 46, 38, 193, 194, 195, 196, 224, 225, 226, 936, 937, 938, 939, 940, 941, 942, 943, 960, 961, 962, 963, 964, 965, 966, 967, 968, 969, 970] (by decide +kernel) (by decide +kernel)
set_option maxRecDepth 20000 in
theorem gL_law_X5_minds : GoodIn wsL_law (wsV RL 27 RX5 yX5_minds wsX5_minds) := goodIn_app (goodIn_of _ (by decide +kernel)) ggL_law_X5_minds
set_option maxRecDepth 20000 in
theorem ggL_law_X6_minds : GoodIn wsL_law wsX6_minds := goodIn_r _ [230, 135, 143, 144, 5, 145, 146, 147, 148, 149, 231, 232, 233, 141, 234, 235, 236, 237, 206, 207, 208, 209, 80, 202, 203, 204, 205, 90, 91, 92, 210, 211, 212, 213, 214, 215, 154, 155, 156, 157, 84, 944, 945, 946, 947, 948, 949, 950, 951, 952, 953, 954, 955, 956, 957, 958, 959] (by decide +kernel) (by decide +kernel)
set_option maxRecDepth 20000 in
theorem gL_law_X6_minds : GoodIn wsL_law (wsV RL 30 RX6 yX6_minds wsX6_minds) := goodIn_app (goodIn_of _ (by decide +kernel)) ggL_law_X6_minds
set_option maxRecDepth 20000 in
theorem ggL_law_X5_buys : GoodIn wsL_law wsX5_buys := goodIn_r _ [241, 97, 16, 98, 99, 2, 100, 101, 102, 103, 120, 121, 122, 108, 109, 110, 111, 33, 242, 243, 244, 15, 245, 45, 47, 41, 246, 247, 248, 249, 250, 251, 195, 252, 936, 937, 938, 939, 940, 941, 942, 943, 960, 961, 962, 963, 964, 965, 966, 967, 968, 969, 970] (by decide +kernel) (by decide +kernel)
set_option maxRecDepth 20000 in
theorem gL_law_X5_buys : GoodIn wsL_law (wsV RL 31 RX5 yX5_buys wsX5_buys) := goodIn_app (goodIn_of _ (by decide +kernel)) ggL_law_X5_buys
set_option maxRecDepth 20000 in
theorem ggL_law_X6_buys : GoodIn wsL_law wsX6_buys := goodIn_r _ [256, 135, 143, 144, 5, 145, 146, 147, 148, 149, 231, 232, 233, 141, 257, 258, 259, 260, 80, 261, 262, 263, 264, 202, 203, 204, 205, 90, 91, 92, 210, 211, 212, 154, 155, 156, 157, 84, 944, 945, 946, 947, 948, 949, 950, 951, 952, 953, 954, 955, 956, 957, 958, 959] (by decide +kernel) (by decide +kernel)
set_option maxRecDepth 20000 in
theorem gL_law_X6_buys : GoodIn wsL_law (wsV RL 34 RX6 yX6_buys wsX6_buys) := goodIn_app (goodIn_of _ (by decide +kernel)) ggL_law_X6_buys
set_option maxRecDepth 20000 in
theorem ggL_law_X5_set : GoodIn wsL_law wsX5_set := goodIn_r _ [268, 97, 16, 186, 187, 188, 98, 99, 2, 100, 101, 102, 103, 108, 109, 110, 111, 33, 269, 270, 271, 936, 937, 938, 939, 940, 941, 942, 943, 960, 961, 962, 963, 964, 965, 966, 967, 968, 969, 970] (by decide +kernel) (by decide +kernel)
set_option maxRecDepth 20000 in
theorem gL_law_X5_set : GoodIn wsL_law (wsV RL 35 RX5 yX5_set wsX5_set) := goodIn_app (goodIn_of _ (by decide +kernel)) ggL_law_X5_set
set_option maxRecDepth 20000 in
theorem ggL_law_X6_set : GoodIn wsL_law wsX6_set := goodIn_r _ [275, 276, 277, 139, 278, 135, 147, 148, 5, 149, 143, 144, 145, 146, 90, 91, 92, 150, 151, 152, 153, 80, 154, 155, 156, 157, 84, 944, 945, 946, 947, 948, 949, 950, 951, 952, 953, 954, 955, 956, 957, 958, 959] (by decide +kernel) (by decide +kernel)
set_option maxRecDepth 20000 in
theorem gL_law_X6_set : GoodIn wsL_law (wsV RL 39 RX6 yX6_set wsX6_set) := goodIn_app (goodIn_of _ (by decide +kernel)) ggL_law_X6_set
set_option maxRecDepth 20000 in
theorem ggL_law_X5_turn : GoodIn wsL_law wsX5_turn := goodIn_r _ [282, 97, 16, 185, 98, 99, 2, 100, 101, 102, 103, 283, 284, 195, 285, 108, 109, 110, 111, 33, 269, 270, 271, 936, 937, 938, 939, 940, 941, 942, 943, 960, 961, 962, 963, 964, 965, 966, 967, 968, 969, 970] (by decide +kernel) (by decide +kernel)
set_option maxRecDepth 20000 in
theorem gL_law_X5_turn : GoodIn wsL_law (wsV RL 40 RX5 yX5_turn wsX5_turn) := goodIn_app (goodIn_of _ (by decide +kernel)) ggL_law_X5_turn
set_option maxRecDepth 20000 in
theorem ggL_law_X6_turn : GoodIn wsL_law wsX6_turn := goodIn_r _ [289, 135, 143, 144, 5, 145, 146, 147, 148, 149, 290, 291, 292, 293, 90, 91, 92, 150, 151, 152, 153, 80, 154, 155, 156, 157, 84, 944, 945, 946, 947, 948, 949, 950, 951, 952, 953, 954, 955, 956, 957, 958, 959] (by decide +kernel) (by decide +kernel)
set_option maxRecDepth 20000 in
theorem gL_law_X6_turn : GoodIn wsL_law (wsV RL 43 RX6 yX6_turn wsX6_turn) := goodIn_app (goodIn_of _ (by decide +kernel)) ggL_law_X6_turn
set_option maxRecDepth 20000 in
theorem ggL_law_X5_as : GoodIn wsL_law wsX5_as := goodIn_r _ [297, 97, 16, 185, 298, 186, 98, 99, 2, 100, 101, 102, 103, 283, 284, 195, 285, 108, 109, 110, 111, 33, 299, 300, 301, 302, 303, 304, 936, 937, 938, 939, 940, 941, 942, 943, 960, 961, 962, 963, 964, 965, 966, 967, 968, 969, 970] (by decide +kernel) (by decide +kernel)
set_option maxRecDepth 20000 in
theorem gL_law_X5_as : GoodIn wsL_law (wsV RL 44 RX5 yX5_as wsX5_as) := goodIn_app (goodIn_of _ (by decide +kernel)) ggL_law_X5_as
set_option maxRecDepth 20000 in
theorem ggL_law_X6_as : GoodIn wsL_law wsX6_as := goodIn_r _ [308, 135, 309, 143, 144, 5, 145, 146, 147, 148, 149, 290, 291, 292, 293, 154, 155, 156, 157, 84, 202, 203, 204, 205, 80, 90, 91, 92, 310, 311, 312, 944, 945, 946, 947, 948, 949, 950, 951, 952, 953, 954, 955, 956, 957, 958, 959] (by decide +kernel) (by decide +kernel)
set_option maxRecDepth 20000 in
theorem gL_law_X6_as : GoodIn wsL_law (wsV RL 47 RX6 yX6_as wsX6_as) := goodIn_app (goodIn_of _ (by decide +kernel)) ggL_law_X6_as
set_option maxRecDepth 20000 in
theorem ggL_law_X5_move : GoodIn wsL_law wsX5_move := goodIn_r _ [316, 97, 16, 98, 99, 2, 100, 101, 102, 103, 108, 109, 110, 111, 33, 317, 318, 319, 15, 320, 45, 46, 47, 48, 270, 271, 936, 937, 938, 939, 940, 941, 942, 943, 960, 961, 962, 963, 964, 965, 966, 967, 968, 969, 970] (by decide +kernel) (by decide +kernel)
set_option maxRecDepth 20000 in
theorem gL_law_X5_move : GoodIn wsL_law (wsV RL 48 RX5 yX5_move wsX5_move) := goodIn_app (goodIn_of _ (by decide +kernel)) ggL_law_X5_move
set_option maxRecDepth 20000 in
theorem ggL_law_X6_move : GoodIn wsL_law wsX6_move := goodIn_r _ [324, 135, 143, 144, 5, 145, 146, 147, 148, 149, 154, 155, 156, 157, 84, 325, 326, 327, 328, 80, 90, 91, 92, 202, 203, 204, 205, 150, 151, 152, 153, 944, 945, 946, 947, 948, 949, 950, 951, 952, 953, 954, 955, 956, 957, 958, 959] (by decide +kernel) (by decide +kernel)
set_option maxRecDepth 20000 in
theorem gL_law_X6_move : GoodIn wsL_law (wsV RL 51 RX6 yX6_move wsX6_move) := goodIn_app (goodIn_of _ (by decide +kernel)) ggL_law_X6_move
