set_option maxRecDepth 20000 in
theorem ggL_law_X5_write : GoodIn wsL_law wsX5_write := goodIn_r _ [817, 97, 29, 818, 792, 819, 793, 794, 2, 795, 101, 102, 103, 108, 109, 110, 111, 33, 820, 821, 822, 31, 823, 72, 824, 825, 826, 827, 75, 936, 937, 938, 939, 940, 941, 942, 943, 978, 979, 980] (by decide +kernel) (by decide +kernel)
set_option maxRecDepth 20000 in
theorem gL_law_X5_write : GoodIn wsL_law (wsV RL 135 RX5 yX5_write wsX5_write) := goodIn_app (goodIn_of _ (by decide +kernel)) ggL_law_X5_write
set_option maxRecDepth 20000 in
theorem ggL_law_X6_write : GoodIn wsL_law wsX6_write := goodIn_r _ [831, 87, 135, 88, 86, 832, 833, 834, 5, 835, 836, 811, 812, 813, 276, 147, 148, 149, 154, 155, 156, 157, 84, 837, 838, 839, 944, 945, 946, 947, 948, 949, 950, 951, 952, 953, 954, 955, 956, 957, 958, 959] (by decide +kernel) (by decide +kernel)
set_option maxRecDepth 20000 in
theorem gL_law_X6_write : GoodIn wsL_law (wsV RL 139 RX6 yX6_write wsX6_write) := goodIn_app (goodIn_of _ (by decide +kernel)) ggL_law_X6_write
set_option maxRecDepth 20000 in
theorem ggL_law_X5_copy : GoodIn wsL_law wsX5_copy := goodIn_r _ [843, 97, 29, 818, 844, 298, 819, 845, 401, 402, 403, 793, 794, 2, 795, 101, 102, 103, 108, 109, 110, 111, 33, 820, 821, 822, 31, 823, 72, 846, 847, 848, 849, 73, 936, 937, 938, 939, 940, 941, 942, 943, 978, 979, 980] (by decide +kernel) (by decide +kernel)
set_option maxRecDepth 20000 in
theorem gL_law_X5_copy : GoodIn wsL_law (wsV RL 140 RX5 yX5_copy wsX5_copy) := goodIn_app (goodIn_of _ (by decide +kernel)) ggL_law_X5_copy
set_option maxRecDepth 20000 in
theorem ggL_law_X6_copy : GoodIn wsL_law wsX6_copy := goodIn_r _ [853, 135, 86, 836, 309, 87, 89, 88, 811, 812, 5, 813, 276, 147, 148, 149, 154, 155, 156, 157, 84, 944, 945, 946, 947, 948, 949, 950, 951, 952, 953, 954, 955, 956, 957, 958, 959] (by decide +kernel) (by decide +kernel)
set_option maxRecDepth 20000 in
theorem gL_law_X6_copy : GoodIn wsL_law (wsV RL 144 RX6 yX6_copy wsX6_copy) := goodIn_app (goodIn_of _ (by decide +kernel)) ggL_law_X6_copy
set_option maxRecDepth 20000 in
theorem ggL_law_X5_lays : GoodIn wsL_law wsX5_lays := goodIn_r _ [857, 97, 29, 818, 792, 819, 858, 16, 186, 793, 794, 2, 795, 101, 102, 103, 108, 109, 110, 111, 33, 820, 821, 822, 31, 823, 72, 936, 937, 938, 939, 940, 941, 942, 943, 978, 979, 980, 960, 961, 962, 963, 964, 965, 966, 967, 968, 969, 970] (by decide +kernel) (by decide +kernel)
set_option maxRecDepth 20000 in
theorem gL_law_X5_lays : GoodIn wsL_law (wsV RL 145 RX5 yX5_lays wsX5_lays) := goodIn_app (goodIn_of _ (by decide +kernel)) ggL_law_X5_lays
set_option maxRecDepth 20000 in
theorem ggL_law_X6_lays : GoodIn wsL_law wsX6_lays := goodIn_r _ [862, 87, 88, 277, 80, 832, 833, 834, 5, 835, 135, 86, 836, 811, 812, 813, 276, 147, 148, 149, 154, 155, 156, 157, 84, 90, 91, 92, 202, 203, 204, 205, 944, 945, 946, 947, 948, 949, 950, 951, 952, 953, 954, 955, 956, 957, 958, 959] (by decide +kernel) (by decide +kernel)
set_option maxRecDepth 20000 in
theorem gL_law_X6_lays : GoodIn wsL_law (wsV RL 148 RX6 yX6_lays wsX6_lays) := goodIn_app (goodIn_of _ (by decide +kernel)) ggL_law_X6_lays
set_option maxRecDepth 20000 in
theorem ggL_law_X5_book : GoodIn wsL_law wsX5_book := goodIn_r _ [866, 97, 29, 818, 17, 16, 792, 166, 793, 794, 2, 795, 101, 102, 103, 108, 109, 110, 111, 33, 820, 821, 822, 31, 823, 72, 396, 397, 398, 15, 399, 38, 39, 40, 41, 42, 43, 44, 45, 400, 401, 402, 403, 46, 47, 48, 824, 825, 826, 827, 75, 464, 340, 341, 342, 343, 170, 171, 172, 344, 345, 346, 347, 246, 247, 248, 249, 348, 349, 221, 222, 223, 193, 194, 195, 196, 224, 225, 226, 350, 351, 352, 353, 354, 355, 356, 243, 244, 245, 250, 251, 252, 357, 358, 359, 360, 361, 190, 191, 192, 362, 363, 364, 365, 936, 937, 938, 939, 940, 941, 942, 943, 978, 979, 980, 960, 961, 962, 963, 964, 965, 966, 967, 968, 969, 970] (by decide +kernel) (by decide +kernel)
set_option maxRecDepth 20000 in
theorem gL_law_X5_book : GoodIn wsL_law (wsV RL 149 RX5 yX5_book wsX5_book) := goodIn_app (goodIn_of _ (by decide +kernel)) ggL_law_X5_book
set_option maxRecDepth 20000 in
theorem ggL_law_X6_book : GoodIn wsL_law wsX6_book := goodIn_r _ [870, 87, 88, 86, 80, 832, 833, 834, 5, 835, 135, 836, 811, 812, 813, 276, 147, 148, 149, 154, 155, 156, 157, 84, 416, 417, 418, 419, 83, 837, 838, 839, 377, 378, 379, 380, 177, 178, 179, 180, 381, 382, 383, 384, 371, 202, 203, 204, 205, 90, 91, 92, 234, 235, 236, 237, 206, 207, 208, 209, 210, 211, 212, 213, 214, 215, 257, 258, 259, 260, 261, 262, 263, 264, 420, 421, 422, 423, 944, 945, 946, 947, 948, 949, 950, 951, 952, 953, 954, 955, 956, 957, 958, 959] (by decide +kernel) (by decide +kernel)
set_option maxRecDepth 20000 in
theorem gL_law_X6_book : GoodIn wsL_law (wsV RL 152 RX6 yX6_book wsX6_book) := goodIn_app (goodIn_of _ (by decide +kernel)) ggL_law_X6_book
set_option maxRecDepth 20000 in
theorem ggL_law_X5_read : GoodIn wsL_law wsX5_read := goodIn_r _ [874, 97, 29, 818, 17, 16, 185, 186, 793, 794, 2, 795, 101, 102, 103, 108, 109, 110, 111, 33, 820, 821, 822, 31, 823, 72, 98, 99, 100, 396, 397, 398, 15, 399, 38, 39, 40, 41, 42, 43, 44, 45, 400, 401, 402, 403, 46, 47, 48, 875, 876, 877, 878, 792, 819, 166, 464, 340, 341, 342, 343, 170, 171, 172, 344, 345, 346, 347, 246, 247, 248, 249, 348, 349, 221, 222, 223, 193, 194, 195, 196, 224, 225, 226, 350, 351, 352, 353, 354, 355, 356, 243, 244, 245, 250, 251, 252, 357, 358, 359, 360, 361, 190, 191, 192, 362, 363, 364, 365, 936, 937, 938, 939, 940, 941, 942, 943, 960, 961, 962, 963, 964, 965, 966, 967, 968, 969, 970, 978, 979, 980] (by decide +kernel) (by decide +kernel)
set_option maxRecDepth 20000 in
theorem gL_law_X5_read : GoodIn wsL_law (wsV RL 153 RX5 yX5_read wsX5_read) := goodIn_app (goodIn_of _ (by decide +kernel)) ggL_law_X5_read
set_option maxRecDepth 20000 in
theorem ggL_law_X6_read : GoodIn wsL_law wsX6_read := goodIn_r _ [882, 135, 80, 832, 833, 834, 5, 835, 86, 836, 811, 812, 813, 276, 147, 148, 149, 154, 155, 156, 157, 84, 143, 144, 145, 146, 416, 417, 418, 419, 83, 90, 91, 92, 883, 884, 885, 886, 87, 88, 377, 378, 379, 380, 177, 178, 179, 180, 381, 382, 383, 384, 371, 202, 203, 204, 205, 234, 235, 236, 237, 206, 207, 208, 209, 210, 211, 212, 213, 214, 215, 257, 258, 259, 260, 261, 262, 263, 264, 420, 421, 422, 423, 944, 945, 946, 947, 948, 949, 950, 951, 952, 953, 954, 955, 956, 957, 958, 959] (by decide +kernel) (by decide +kernel)
set_option maxRecDepth 20000 in
theorem gL_law_X6_read : GoodIn wsL_law (wsV RL 156 RX6 yX6_read wsX6_read) := goodIn_app (goodIn_of _ (by decide +kernel)) ggL_law_X6_read
set_option maxRecDepth 20000 in
theorem ggL_law_X5_image : GoodIn wsL_law wsX5_image := goodIn_r _ [890, 18, 16, 19, 396, 397, 398, 15, 399, 38, 39, 40, 41, 42, 43, 44, 45, 400, 401, 402, 403, 46, 47, 48, 936, 937, 938, 939, 940, 941, 942, 943, 960, 961, 962, 963, 964, 965, 966, 967, 968, 969, 970] (by decide +kernel) (by decide +kernel)
set_option maxRecDepth 20000 in
theorem gL_law_X5_image : GoodIn wsL_law (wsV RL 157 RX5 yX5_image wsX5_image) := goodIn_app (goodIn_of _ (by decide +kernel)) ggL_law_X5_image
set_option maxRecDepth 20000 in
theorem ggL_law_X6_image : GoodIn wsL_law wsX6_image := goodIn_r _ [894, 81, 80, 895, 944, 945, 946, 947, 948, 949, 950, 951, 952, 953, 954, 955, 956, 957, 958, 959] (by decide +kernel) (by decide +kernel)
set_option maxRecDepth 20000 in
theorem gL_law_X6_image : GoodIn wsL_law (wsV RL 160 RX6 yX6_image wsX6_image) := goodIn_app (goodIn_of _ (by decide +kernel)) ggL_law_X6_image
set_option maxRecDepth 20000 in
theorem ggL_law_X5_undo : GoodIn wsL_law wsX5_undo := goodIn_r _ [899, 19, 463, 16, 18, 162, 108, 109, 110, 2, 111, 97, 33, 101, 102, 103, 396, 397, 398, 15, 399, 38, 39, 40, 41, 42, 43, 44, 45, 400, 401, 402, 403, 46, 47, 48, 936, 937, 938, 939, 940, 941, 942, 943, 960, 961, 962, 963, 964, 965, 966, 967, 968, 969, 970] (by decide +kernel) (by decide +kernel)
set_option maxRecDepth 20000 in
theorem gL_law_X5_undo : GoodIn wsL_law (wsV RL 161 RX5 yX5_undo wsX5_undo) := goodIn_app (goodIn_of _ (by decide +kernel)) ggL_law_X5_undo
set_option maxRecDepth 20000 in
theorem ggL_law_X6_undo : GoodIn wsL_law wsX6_undo := goodIn_r _ [903, 895, 473, 80, 81, 154, 155, 156, 5, 157, 84, 135, 944, 945, 946, 947, 948, 949, 950, 951, 952, 953, 954, 955, 956, 957, 958, 959] (by decide +kernel) (by decide +kernel)
set_option maxRecDepth 20000 in
theorem gL_law_X6_undo : GoodIn wsL_law (wsV RL 164 RX6 yX6_undo wsX6_undo) := goodIn_app (goodIn_of _ (by decide +kernel)) ggL_law_X6_undo
set_option maxRecDepth 20000 in
theorem ggL_law_X5_tear : GoodIn wsL_law wsX5_tear := goodIn_r _ [907, 19, 936, 937, 938, 939, 940, 941, 942, 943] (by decide +kernel) (by decide +kernel)
set_option maxRecDepth 20000 in
theorem gL_law_X5_tear : GoodIn wsL_law (wsV RL 165 RX5 yX5_tear wsX5_tear) := goodIn_app (goodIn_of _ (by decide +kernel)) ggL_law_X5_tear
set_option maxRecDepth 20000 in
theorem ggL_law_X6_tear : GoodIn wsL_law wsX6_tear := goodIn_r _ [911, 895, 944, 945, 946, 947, 948, 949, 950, 951, 952, 953, 954, 955, 956, 957, 958, 959] (by decide +kernel) (by decide +kernel)
set_option maxRecDepth 20000 in
theorem gL_law_X6_tear : GoodIn wsL_law (wsV RL 168 RX6 yX6_tear wsX6_tear) := goodIn_app (goodIn_of _ (by decide +kernel)) ggL_law_X6_tear
set_option maxRecDepth 20000 in
theorem ggL_law_X5_count : GoodIn wsL_law wsX5_count := goodIn_r _ [915, 16, 23, 578, 186, 188, 97, 916, 917, 918, 15, 919, 45, 444, 445, 2, 446, 108, 109, 110, 111, 33, 101, 102, 103, 936, 937, 938, 939, 940, 941, 942, 943, 971, 972, 960, 961, 962, 963, 964, 965, 966, 967, 968, 969, 970] (by decide +kernel) (by decide +kernel)
set_option maxRecDepth 20000 in
theorem gL_law_X5_count : GoodIn wsL_law (wsV RL 169 RX5 yX5_count wsX5_count) := goodIn_app (goodIn_of _ (by decide +kernel)) ggL_law_X5_count
set_option maxRecDepth 20000 in
theorem ggL_law_X6_count : GoodIn wsL_law wsX6_count := goodIn_r _ [923, 588, 135, 924, 925, 926, 5, 927, 202, 203, 204, 205, 80, 90, 91, 92, 455, 456, 457, 458, 154, 155, 156, 157, 84, 944, 945, 946, 947, 948, 949, 950, 951, 952, 953, 954, 955, 956, 957, 958, 959] (by decide +kernel) (by decide +kernel)
set_option maxRecDepth 20000 in
theorem gL_law_X6_count : GoodIn wsL_law (wsV RL 172 RX6 yX6_count wsX6_count) := goodIn_app (goodIn_of _ (by decide +kernel)) ggL_law_X6_count
set_option maxRecDepth 20000 in
theorem ggL_law_X5_status : GoodIn wsL_law wsX5_status := goodIn_r _ [931, 33, 97, 444, 445, 2, 446, 101, 102, 103, 108, 109, 110, 111, 936, 937, 938, 939, 940, 941, 942, 943] (by decide +kernel) (by decide +kernel)
set_option maxRecDepth 20000 in
theorem gL_law_X5_status : GoodIn wsL_law (wsV RL 173 RX5 yX5_status wsX5_status) := goodIn_app (goodIn_of _ (by decide +kernel)) ggL_law_X5_status
set_option maxRecDepth 20000 in
theorem ggL_law_X6_status : GoodIn wsL_law wsX6_status := goodIn_r _ [935, 140, 141, 135, 84, 147, 148, 5, 149, 154, 155, 156, 157, 944, 945, 946, 947, 948, 949, 950, 951, 952, 953, 954, 955, 956, 957, 958, 959] (by decide +kernel) (by decide +kernel)
set_option maxRecDepth 20000 in
theorem gL_law_X6_status : GoodIn wsL_law (wsV RL 176 RX6 yX6_status wsX6_status) := goodIn_app (goodIn_of _ (by decide +kernel)) ggL_law_X6_status
