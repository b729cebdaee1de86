set_option maxRecDepth 20000 in
theorem ggL_law_X5_mood : GoodIn wsL_law wsX5_mood := goodIn_r _ [524, 97, 17, 16, 186, 168, 98, 99, 2, 100, 101, 102, 103, 494, 495, 496, 108, 109, 110, 111, 33, 396, 397, 398, 15, 399, 38, 39, 40, 41, 42, 43, 44, 45, 400, 401, 402, 403, 46, 47, 48, 335, 336, 337, 338, 339, 340, 341, 342, 343, 170, 171, 172, 344, 345, 346, 347, 246, 247, 248, 249, 348, 349, 221, 222, 223, 193, 194, 195, 196, 224, 225, 226, 350, 351, 352, 353, 354, 355, 356, 243, 244, 245, 250, 251, 252, 357, 358, 359, 360, 361, 190, 191, 192, 362, 363, 364, 365, 936, 937, 938, 939, 940, 941, 942, 943, 960, 961, 962, 963, 964, 965, 966, 967, 968, 969, 970] (by decide +kernel) (by decide +kernel)
set_option maxRecDepth 20000 in
theorem gL_law_X5_mood : GoodIn wsL_law (wsV RL 93 RX5 yX5_mood wsX5_mood) := goodIn_app (goodIn_of _ (by decide +kernel)) ggL_law_X5_mood
set_option maxRecDepth 20000 in
theorem ggL_law_X6_mood : GoodIn wsL_law wsX6_mood := goodIn_r _ [528, 135, 143, 144, 5, 145, 146, 147, 148, 149, 501, 502, 503, 504, 90, 91, 92, 505, 506, 507, 508, 80, 451, 452, 453, 454, 416, 417, 418, 419, 83, 373, 374, 375, 376, 377, 378, 379, 380, 177, 178, 179, 180, 381, 382, 383, 384, 371, 202, 203, 204, 205, 234, 235, 236, 237, 206, 207, 208, 209, 210, 211, 212, 213, 214, 215, 257, 258, 259, 260, 261, 262, 263, 264, 455, 456, 457, 458, 420, 421, 422, 423, 412, 413, 414, 415, 154, 155, 156, 157, 84, 944, 945, 946, 947, 948, 949, 950, 951, 952, 953, 954, 955, 956, 957, 958, 959] (by decide +kernel) (by decide +kernel)
set_option maxRecDepth 20000 in
theorem gL_law_X6_mood : GoodIn wsL_law (wsV RL 96 RX6 yX6_mood wsX6_mood) := goodIn_app (goodIn_of _ (by decide +kernel)) ggL_law_X6_mood
set_option maxRecDepth 20000 in
theorem ggL_law_X5_kind : GoodIn wsL_law wsX5_kind := goodIn_r _ [532, 97, 17, 16, 185, 188, 98, 99, 2, 100, 101, 102, 103, 494, 495, 496, 108, 109, 110, 111, 33, 396, 397, 398, 15, 399, 38, 39, 40, 41, 42, 43, 44, 45, 400, 401, 402, 403, 46, 47, 48, 335, 336, 337, 338, 339, 340, 341, 342, 343, 170, 171, 172, 344, 345, 346, 347, 246, 247, 248, 249, 348, 349, 221, 222, 223, 193, 194, 195, 196, 224, 225, 226, 350, 351, 352, 353, 354, 355, 356, 243, 244, 245, 250, 251, 252, 357, 358, 359, 360, 361, 190, 191, 192, 362, 363, 364, 365, 936, 937, 938, 939, 940, 941, 942, 943, 960, 961, 962, 963, 964, 965, 966, 967, 968, 969, 970] (by decide +kernel) (by decide +kernel)
set_option maxRecDepth 20000 in
theorem gL_law_X5_kind : GoodIn wsL_law (wsV RL 97 RX5 yX5_kind wsX5_kind) := goodIn_app (goodIn_of _ (by decide +kernel)) ggL_law_X5_kind
set_option maxRecDepth 20000 in
theorem ggL_law_X6_kind : GoodIn wsL_law wsX6_kind := goodIn_r _ [536, 135, 143, 144, 5, 145, 146, 147, 148, 149, 501, 502, 503, 504, 90, 91, 92, 505, 506, 507, 508, 80, 451, 452, 453, 454, 416, 417, 418, 419, 83, 373, 374, 375, 376, 377, 378, 379, 380, 177, 178, 179, 180, 381, 382, 383, 384, 371, 202, 203, 204, 205, 234, 235, 236, 237, 206, 207, 208, 209, 210, 211, 212, 213, 214, 215, 257, 258, 259, 260, 261, 262, 263, 264, 455, 456, 457, 458, 420, 421, 422, 423, 412, 413, 414, 415, 154, 155, 156, 157, 84, 944, 945, 946, 947, 948, 949, 950, 951, 952, 953, 954, 955, 956, 957, 958, 959] (by decide +kernel) (by decide +kernel)
set_option maxRecDepth 20000 in
theorem gL_law_X6_kind : GoodIn wsL_law (wsV RL 100 RX6 yX6_kind wsX6_kind) := goodIn_app (goodIn_of _ (by decide +kernel)) ggL_law_X6_kind
set_option maxRecDepth 20000 in
theorem ggL_law_X5_enough : GoodIn wsL_law wsX5_enough := goodIn_r _ [540, 97, 17, 16, 165, 463, 494, 495, 2, 496, 101, 102, 103, 108, 109, 110, 111, 33, 396, 397, 398, 15, 399, 38, 39, 40, 41, 42, 43, 44, 45, 400, 401, 402, 403, 46, 47, 48, 335, 336, 337, 338, 339, 340, 341, 342, 343, 170, 171, 172, 344, 345, 346, 347, 246, 247, 248, 249, 348, 349, 221, 222, 223, 193, 194, 195, 196, 224, 225, 226, 350, 351, 352, 353, 354, 355, 356, 243, 244, 245, 250, 251, 252, 357, 358, 359, 360, 361, 190, 191, 192, 362, 363, 364, 365, 936, 937, 938, 939, 940, 941, 942, 943, 960, 961, 962, 963, 964, 965, 966, 967, 968, 969, 970] (by decide +kernel) (by decide +kernel)
set_option maxRecDepth 20000 in
theorem gL_law_X5_enough : GoodIn wsL_law (wsV RL 101 RX5 yX5_enough wsX5_enough) := goodIn_app (goodIn_of _ (by decide +kernel)) ggL_law_X5_enough
set_option maxRecDepth 20000 in
theorem ggL_law_X6_enough : GoodIn wsL_law wsX6_enough := goodIn_r _ [544, 135, 80, 473, 501, 502, 5, 503, 504, 147, 148, 149, 154, 155, 156, 157, 84, 412, 413, 414, 415, 416, 417, 418, 419, 83, 373, 374, 375, 376, 377, 378, 379, 380, 177, 178, 179, 180, 381, 382, 383, 384, 371, 202, 203, 204, 205, 90, 91, 92, 234, 235, 236, 237, 206, 207, 208, 209, 210, 211, 212, 213, 214, 215, 257, 258, 259, 260, 261, 262, 263, 264, 420, 421, 422, 423, 944, 945, 946, 947, 948, 949, 950, 951, 952, 953, 954, 955, 956, 957, 958, 959] (by decide +kernel) (by decide +kernel)
set_option maxRecDepth 20000 in
theorem gL_law_X6_enough : GoodIn wsL_law (wsV RL 104 RX6 yX6_enough wsX6_enough) := goodIn_app (goodIn_of _ (by decide +kernel)) ggL_law_X6_enough
set_option maxRecDepth 20000 in
theorem ggL_law_X5_bears : GoodIn wsL_law wsX5_bears := goodIn_r _ [548, 333, 97, 17, 16, 167, 168, 463, 494, 495, 2, 496, 101, 102, 103, 108, 109, 110, 111, 33, 396, 397, 398, 15, 399, 38, 39, 40, 41, 42, 43, 44, 45, 400, 401, 402, 403, 46, 47, 48, 335, 336, 337, 338, 339, 340, 341, 342, 343, 170, 171, 172, 344, 345, 346, 347, 246, 247, 248, 249, 348, 349, 221, 222, 223, 193, 194, 195, 196, 224, 225, 226, 350, 351, 352, 353, 354, 355, 356, 243, 244, 245, 250, 251, 252, 357, 358, 359, 360, 361, 190, 191, 192, 362, 363, 364, 365, 936, 937, 938, 939, 940, 941, 942, 943, 960, 961, 962, 963, 964, 965, 966, 967, 968, 969, 970] (by decide +kernel) (by decide +kernel)
set_option maxRecDepth 20000 in
theorem gL_law_X5_bears : GoodIn wsL_law (wsV RL 105 RX5 yX5_bears wsX5_bears) := goodIn_app (goodIn_of _ (by decide +kernel)) ggL_law_X5_bears
set_option maxRecDepth 20000 in
theorem ggL_law_X6_bears : GoodIn wsL_law wsX6_bears := goodIn_r _ [552, 553, 135, 80, 473, 501, 502, 5, 503, 504, 147, 148, 149, 154, 155, 156, 157, 84, 412, 413, 414, 415, 416, 417, 418, 419, 83, 373, 374, 375, 376, 377, 378, 379, 380, 177, 178, 179, 180, 381, 382, 383, 384, 371, 202, 203, 204, 205, 90, 91, 92, 234, 235, 236, 237, 206, 207, 208, 209, 210, 211, 212, 213, 214, 215, 257, 258, 259, 260, 261, 262, 263, 264, 420, 421, 422, 423, 944, 945, 946, 947, 948, 949, 950, 951, 952, 953, 954, 955, 956, 957, 958, 959] (by decide +kernel) (by decide +kernel)
set_option maxRecDepth 20000 in
theorem gL_law_X6_bears : GoodIn wsL_law (wsV RL 108 RX6 yX6_bears wsX6_bears) := goodIn_app (goodIn_of _ (by decide +kernel)) ggL_law_X6_bears
set_option maxRecDepth 20000 in
theorem ggL_law_X5_swap : GoodIn wsL_law wsX5_swap := goodIn_r _ [557, 97, 17, 186, 463, 494, 495, 2, 496, 101, 102, 103, 108, 109, 110, 111, 33, 392, 393, 394, 395, 16, 396, 397, 398, 15, 399, 38, 39, 40, 41, 42, 43, 44, 45, 400, 401, 402, 403, 46, 47, 48, 335, 336, 337, 338, 339, 340, 341, 342, 343, 170, 171, 172, 344, 345, 346, 347, 246, 247, 248, 249, 348, 349, 221, 222, 223, 193, 194, 195, 196, 224, 225, 226, 350, 351, 352, 353, 354, 355, 356, 243, 244, 245, 250, 251, 252, 357, 358, 359, 360, 361, 190, 191, 192, 362, 363, 364, 365, 444, 445, 446, 558, 559, 560, 561, 317, 318, 319, 320, 270, 271, 936, 937, 938, 939, 940, 941, 942, 943, 960, 961, 962, 963, 964, 965, 966, 967, 968, 969, 970] (by decide +kernel) (by decide +kernel)
set_option maxRecDepth 20000 in
theorem gL_law_X5_swap : GoodIn wsL_law (wsV RL 109 RX5 yX5_swap wsX5_swap) := goodIn_app (goodIn_of _ (by decide +kernel)) ggL_law_X5_swap
set_option maxRecDepth 20000 in
theorem ggL_law_X6_swap : GoodIn wsL_law wsX6_swap := goodIn_r _ [565, 135, 473, 501, 502, 5, 503, 504, 147, 148, 149, 154, 155, 156, 157, 84, 451, 452, 453, 454, 416, 417, 418, 419, 83, 80, 373, 374, 375, 376, 377, 378, 379, 380, 177, 178, 179, 180, 381, 382, 383, 384, 371, 202, 203, 204, 205, 90, 91, 92, 234, 235, 236, 237, 206, 207, 208, 209, 210, 211, 212, 213, 214, 215, 257, 258, 259, 260, 261, 262, 263, 264, 455, 456, 457, 458, 420, 421, 422, 423, 325, 326, 327, 328, 150, 151, 152, 153, 944, 945, 946, 947, 948, 949, 950, 951, 952, 953, 954, 955, 956, 957, 958, 959] (by decide +kernel) (by decide +kernel)
set_option maxRecDepth 20000 in
theorem gL_law_X6_swap : GoodIn wsL_law (wsV RL 112 RX6 yX6_swap wsX6_swap) := goodIn_app (goodIn_of _ (by decide +kernel)) ggL_law_X6_swap
set_option maxRecDepth 20000 in
theorem ggL_law_X5_saddest : GoodIn wsL_law wsX5_saddest := goodIn_r _ [569, 97, 17, 186, 389, 390, 2, 391, 101, 102, 103, 108, 109, 110, 111, 33, 392, 393, 394, 395, 16, 396, 397, 398, 15, 399, 38, 39, 40, 41, 42, 43, 44, 45, 400, 401, 402, 403, 46, 47, 48, 335, 336, 337, 338, 339, 340, 341, 342, 343, 170, 171, 172, 344, 345, 346, 347, 246, 247, 248, 249, 348, 349, 221, 222, 223, 193, 194, 195, 196, 224, 225, 226, 350, 351, 352, 353, 354, 355, 356, 243, 244, 245, 250, 251, 252, 357, 358, 359, 360, 361, 190, 191, 192, 362, 363, 364, 365, 936, 937, 938, 939, 940, 941, 942, 943, 960, 961, 962, 963, 964, 965, 966, 967, 968, 969, 970] (by decide +kernel) (by decide +kernel)
set_option maxRecDepth 20000 in
theorem gL_law_X5_saddest : GoodIn wsL_law (wsV RL 113 RX5 yX5_saddest wsX5_saddest) := goodIn_app (goodIn_of _ (by decide +kernel)) ggL_law_X5_saddest
set_option maxRecDepth 20000 in
theorem ggL_law_X6_saddest : GoodIn wsL_law wsX6_saddest := goodIn_r _ [573, 135, 408, 409, 5, 410, 411, 147, 148, 149, 154, 155, 156, 157, 84, 416, 417, 418, 419, 83, 80, 373, 374, 375, 376, 377, 378, 379, 380, 177, 178, 179, 180, 381, 382, 383, 384, 371, 202, 203, 204, 205, 90, 91, 92, 234, 235, 236, 237, 206, 207, 208, 209, 210, 211, 212, 213, 214, 215, 257, 258, 259, 260, 261, 262, 263, 264, 420, 421, 422, 423, 944, 945, 946, 947, 948, 949, 950, 951, 952, 953, 954, 955, 956, 957, 958, 959] (by decide +kernel) (by decide +kernel)
set_option maxRecDepth 20000 in
theorem gL_law_X6_saddest : GoodIn wsL_law (wsV RL 116 RX6 yX6_saddest wsX6_saddest) := goodIn_app (goodIn_of _ (by decide +kernel)) ggL_law_X6_saddest
set_option maxRecDepth 20000 in
theorem ggL_law_X5_feed : GoodIn wsL_law wsX5_feed := goodIn_r _ [577, 97, 23, 578, 579, 101, 102, 2, 103, 108, 109, 110, 111, 33, 580, 581, 582, 22, 583, 57, 58, 936, 937, 938, 939, 940, 941, 942, 943, 971, 972] (by decide +kernel) (by decide +kernel)
set_option maxRecDepth 20000 in
theorem gL_law_X5_feed : GoodIn wsL_law (wsV RL 117 RX5 yX5_feed wsX5_feed) := goodIn_app (goodIn_of _ (by decide +kernel)) ggL_law_X5_feed
set_option maxRecDepth 20000 in
theorem ggL_law_X6_feed : GoodIn wsL_law wsX6_feed := goodIn_r _ [587, 201, 135, 588, 589, 85, 147, 148, 5, 149, 154, 155, 156, 157, 84, 944, 945, 946, 947, 948, 949, 950, 951, 952, 953, 954, 955, 956, 957, 958, 959] (by decide +kernel) (by decide +kernel)
set_option maxRecDepth 20000 in
theorem gL_law_X6_feed : GoodIn wsL_law (wsV RL 120 RX6 yX6_feed wsX6_feed) := goodIn_app (goodIn_of _ (by decide +kernel)) ggL_law_X6_feed
set_option maxRecDepth 20000 in
theorem ggL_law_X5_wipe : GoodIn wsL_law wsX5_wipe := goodIn_r _ [593, 23, 578, 936, 937, 938, 939, 940, 941, 942, 943, 971, 972] (by decide +kernel) (by decide +kernel)
set_option maxRecDepth 20000 in
theorem gL_law_X5_wipe : GoodIn wsL_law (wsV RL 121 RX5 yX5_wipe wsX5_wipe) := goodIn_app (goodIn_of _ (by decide +kernel)) ggL_law_X5_wipe
set_option maxRecDepth 20000 in
theorem ggL_law_X6_wipe : GoodIn wsL_law wsX6_wipe := goodIn_r _ [597, 588, 944, 945, 946, 947, 948, 949, 950, 951, 952, 953, 954, 955, 956, 957, 958, 959] (by decide +kernel) (by decide +kernel)
set_option maxRecDepth 20000 in
theorem gL_law_X6_wipe : GoodIn wsL_law (wsV RL 124 RX6 yX6_wipe wsX6_wipe) := goodIn_app (goodIn_of _ (by decide +kernel)) ggL_law_X6_wipe
set_option maxRecDepth 20000 in
theorem ggL_law_X5_terrace : GoodIn wsL_law wsX5_terrace := goodIn_r _ [601, 17, 16, 27, 23, 578, 396, 397, 398, 15, 399, 38, 39, 40, 41, 42, 43, 44, 45, 400, 401, 402, 403, 46, 47, 48, 602, 603, 604, 26, 605, 66, 65, 64, 606, 607, 608, 609, 63, 610, 611, 612, 613, 614, 615, 616, 617, 618, 619, 620, 621, 622, 623, 624, 625, 626, 627, 628, 629, 630, 631, 632, 633, 634, 635, 636, 637, 638, 639, 640, 641, 642, 643, 644, 645, 646, 647, 648, 649, 650, 651, 652, 653, 654, 655, 656, 657, 658, 659, 660, 661, 662, 663, 664, 665, 666, 667, 668, 669, 670, 671, 672, 673, 674, 675, 676, 677, 678, 679, 680, 681, 682, 683, 67, 684, 685, 686, 687, 688, 689, 690, 691, 692, 693, 694, 695, 696, 697, 698, 699, 700, 701, 702, 703, 704, 705, 706, 936, 937, 938, 939, 940, 941, 942, 943, 971, 972, 960, 961, 962, 963, 964, 965, 966, 967, 968, 969, 970, 973, 974, 975, 976, 977] (by decide +kernel) (by decide +kernel)
set_option maxRecDepth 20000 in
theorem gL_law_X5_terrace : GoodIn wsL_law (wsV RL 125 RX5 yX5_terrace wsX5_terrace) := goodIn_app (goodIn_of _ (by decide +kernel)) ggL_law_X5_terrace
set_option maxRecDepth 20000 in
theorem ggL_law_X6_terrace : GoodIn wsL_law wsX6_terrace := goodIn_r _ [710, 711, 712, 713, 588, 714, 715, 716, 5, 717, 82, 80, 718, 719, 720, 721, 722, 723, 724, 725, 85, 726, 727, 728, 729, 730, 147, 148, 149, 731, 732, 733, 734, 735, 736, 737, 738, 739, 740, 741, 742, 743, 744, 745, 746, 747, 748, 749, 750, 751, 752, 753, 754, 755, 756, 757, 758, 759, 760, 761, 762, 763, 764, 765, 766, 767, 768, 769, 770, 771, 772, 773, 90, 91, 92, 774, 775, 776, 777, 778, 779, 780, 781, 782, 783, 784, 785, 786, 944, 945, 946, 947, 948, 949, 950, 951, 952, 953, 954, 955, 956, 957, 958, 959] (by decide +kernel) (by decide +kernel)
set_option maxRecDepth 20000 in
theorem gL_law_X6_terrace : GoodIn wsL_law (wsV RL 128 RX6 yX6_terrace wsX6_terrace) := goodIn_app (goodIn_of _ (by decide +kernel)) ggL_law_X6_terrace
set_option maxRecDepth 20000 in
theorem ggL_law_X5_sheet : GoodIn wsL_law wsX5_sheet := goodIn_r _ [790, 97, 791, 29, 792, 793, 794, 2, 795, 101, 102, 103, 796, 797, 798, 108, 109, 110, 111, 33, 799, 800, 801, 31, 802, 72, 73, 75, 803, 804, 51, 805, 936, 937, 938, 939, 940, 941, 942, 943, 978, 979, 980] (by decide +kernel) (by decide +kernel)
set_option maxRecDepth 20000 in
theorem gL_law_X5_sheet : GoodIn wsL_law (wsV RL 129 RX5 yX5_sheet wsX5_sheet) := goodIn_app (goodIn_of _ (by decide +kernel)) ggL_law_X5_sheet
set_option maxRecDepth 20000 in
theorem ggL_law_X6_sheet : GoodIn wsL_law wsX6_sheet := goodIn_r _ [809, 135, 810, 86, 87, 88, 811, 812, 5, 813, 276, 147, 148, 149, 154, 155, 156, 157, 84, 944, 945, 946, 947, 948, 949, 950, 951, 952, 953, 954, 955, 956, 957, 958, 959] (by decide +kernel) (by decide +kernel)
set_option maxRecDepth 20000 in
theorem gL_law_X6_sheet : GoodIn wsL_law (wsV RL 132 RX6 yX6_sheet wsX6_sheet) := goodIn_app (goodIn_of _ (by decide +kernel)) ggL_law_X6_sheet
