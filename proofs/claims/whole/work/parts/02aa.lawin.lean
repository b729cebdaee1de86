theorem mem_pos {big ws : List Cond} (ps : List Nat) (hp : ws = ps.filterMap (fun i => big[i]?)) : ∀ w ∈ ws, w ∈ big := by
  intro w hw
  rw [hp] at hw
  obtain ⟨i, -, hi⟩ := List.mem_filterMap.mp hw
  exact List.mem_of_getElem? hi
set_option maxRecDepth 100000 in
set_option maxHeartbeats 4000000 in
theorem li_wsL_law_r1 : ∀ w ∈ wsL_law_r1, w ∈ lw_tbl := mem_pos [67, 68, 53, 672, 673, 59, 1104, 69, 70, 71, 72, 73, 74, 75, 76, 54, 196, 197, 198, 199, 137, 138, 56, 200] rfl
set_option maxRecDepth 100000 in
set_option maxHeartbeats 4000000 in
theorem li_wsL_law_r2 : ∀ w ∈ wsL_law_r2, w ∈ lw_tbl := mem_pos [153, 154, 57, 201, 175, 202, 177, 58, 136, 203, 77, 78, 79, 80, 84, 86, 89, 92, 95, 97, 100, 102, 105, 108] rfl
set_option maxRecDepth 100000 in
set_option maxHeartbeats 4000000 in
theorem li_wsL_law_r3 : ∀ w ∈ wsL_law_r3, w ∈ lw_tbl := mem_pos [111, 81, 82, 55, 83, 139, 140, 141, 142, 143, 145, 155, 156, 157, 158, 159, 160, 161, 162, 163, 178, 179, 180, 181] rfl
set_option maxRecDepth 100000 in
set_option maxHeartbeats 4000000 in
theorem li_wsL_law_r4 : ∀ w ∈ wsL_law_r4, w ∈ lw_tbl := mem_pos [182, 184, 195, 186, 674, 675, 676, 677, 681, 682, 683, 684, 685, 687, 693, 694, 695, 696, 678, 679, 680, 221, 222, 223] rfl
set_option maxRecDepth 100000 in
set_option maxHeartbeats 4000000 in
theorem li_wsL_law_r5 : ∀ w ∈ wsL_law_r5, w ∈ lw_tbl := mem_pos [224, 235, 225, 226, 227, 228, 229, 230, 231, 232, 233, 234, 236, 238, 0, 239, 240, 241, 242, 243, 244, 245, 246, 247] rfl
set_option maxRecDepth 100000 in
set_option maxHeartbeats 4000000 in
theorem li_wsL_law_r6 : ∀ w ∈ wsL_law_r6, w ∈ lw_tbl := mem_pos [248, 249, 250, 251, 252, 253, 254, 255, 256, 257, 258, 730, 731, 732, 733, 752, 734, 735, 736, 744, 745, 746, 747, 737] rfl
set_option maxRecDepth 100000 in
set_option maxHeartbeats 4000000 in
theorem li_wsL_law_r7 : ∀ w ∈ wsL_law_r7, w ∈ lw_tbl := mem_pos [738, 739, 740, 741, 742, 743, 748, 750, 18, 751, 753, 755, 19, 756, 259, 260, 261, 262, 85, 87, 90, 93, 96, 98] rfl
set_option maxRecDepth 100000 in
set_option maxHeartbeats 4000000 in
theorem li_wsL_law_r8 : ∀ w ∈ wsL_law_r8, w ∈ lw_tbl := mem_pos [101, 263, 264, 265, 266, 757, 758, 759, 760, 761, 763, 20, 764, 267, 268, 269, 270, 104, 107, 109, 112, 271, 272, 273] rfl
set_option maxRecDepth 100000 in
set_option maxHeartbeats 4000000 in
theorem li_wsL_law_r9 : ∀ w ∈ wsL_law_r9, w ∈ lw_tbl := mem_pos [274, 275, 276, 60, 277, 765, 766, 767, 768, 769, 770, 772, 21, 773, 774, 776, 22, 777, 778, 779, 780, 781, 782, 783] rfl
set_option maxRecDepth 100000 in
set_option maxHeartbeats 4000000 in
theorem li_wsL_law_r10 : ∀ w ∈ wsL_law_r10, w ∈ lw_tbl := mem_pos [278, 279, 280, 281, 282, 283, 284, 285, 286, 287, 288, 784, 785, 786, 787, 788, 789, 790, 791, 793, 23, 794, 289, 290] rfl
set_option maxRecDepth 100000 in
set_option maxHeartbeats 4000000 in
theorem li_wsL_law_r11 : ∀ w ∈ wsL_law_r11, w ∈ lw_tbl := mem_pos [291, 292, 293, 294, 295, 296, 300, 301, 61, 302, 297, 298, 299, 795, 796, 797, 798, 799, 801, 24, 802, 803, 805, 25] rfl
set_option maxRecDepth 100000 in
set_option maxHeartbeats 4000000 in
theorem li_wsL_law_r12 : ∀ w ∈ wsL_law_r12, w ∈ lw_tbl := mem_pos [806, 303, 304, 305, 306, 307, 308, 309, 807, 808, 809, 810, 811, 812, 813, 310, 311, 312, 313, 314, 315, 316, 814, 815] rfl
set_option maxRecDepth 100000 in
set_option maxHeartbeats 4000000 in
theorem li_wsL_law_r13 : ∀ w ∈ wsL_law_r13, w ∈ lw_tbl := mem_pos [816, 817, 818, 819, 820, 821, 318, 319, 320, 321, 328, 322, 323, 324, 325, 326, 327, 822, 823, 824, 825, 829, 826, 827] rfl
set_option maxRecDepth 100000 in
set_option maxHeartbeats 4000000 in
theorem li_wsL_law_r14 : ∀ w ∈ wsL_law_r14, w ∈ lw_tbl := mem_pos [828, 329, 330, 331, 332, 333, 334, 335, 336, 830, 831, 832, 833, 834, 836, 26, 837, 338, 339, 340, 341, 342, 343, 344] rfl
set_option maxRecDepth 100000 in
set_option maxHeartbeats 4000000 in
theorem li_wsL_law_r15 : ∀ w ∈ wsL_law_r15, w ∈ lw_tbl := mem_pos [345, 346, 347, 348, 349, 350, 351, 352, 353, 355, 1, 356, 366, 357, 359, 360, 361, 362, 363, 364, 365, 367, 369, 2] rfl
set_option maxRecDepth 100000 in
set_option maxHeartbeats 4000000 in
theorem li_wsL_law_r16 : ∀ w ∈ wsL_law_r16, w ∈ lw_tbl := mem_pos [370, 371, 372, 374, 3, 375, 838, 839, 840, 841, 842, 843, 844, 845, 847, 27, 848, 849, 851, 28, 852, 853, 855, 29] rfl
set_option maxRecDepth 100000 in
set_option maxHeartbeats 4000000 in
theorem li_wsL_law_r17 : ∀ w ∈ wsL_law_r17, w ∈ lw_tbl := mem_pos [856, 376, 377, 378, 379, 380, 381, 382, 383, 385, 4, 386, 387, 388, 389, 390, 391, 393, 392, 62, 857, 858, 859, 860] rfl
set_option maxRecDepth 100000 in
set_option maxHeartbeats 4000000 in
theorem li_wsL_law_r18 : ∀ w ∈ wsL_law_r18, w ∈ lw_tbl := mem_pos [861, 862, 863, 864, 865, 867, 30, 868, 869, 871, 31, 872, 873, 875, 32, 876, 394, 395, 396, 397, 877, 878, 879, 880] rfl
set_option maxRecDepth 100000 in
set_option maxHeartbeats 4000000 in
theorem li_wsL_law_r19 : ∀ w ∈ wsL_law_r19, w ∈ lw_tbl := mem_pos [398, 399, 400, 401, 881, 882, 883, 884, 402, 403, 404, 405, 406, 407, 408, 885, 886, 887, 888, 889, 891, 33, 892, 893] rfl
set_option maxRecDepth 100000 in
set_option maxHeartbeats 4000000 in
theorem li_wsL_law_r20 : ∀ w ∈ wsL_law_r20, w ∈ lw_tbl := mem_pos [895, 34, 896, 409, 410, 411, 412, 414, 413, 897, 898, 899, 900, 901, 903, 35, 904, 905, 415, 416, 417, 418, 906, 907] rfl
set_option maxRecDepth 100000 in
set_option maxHeartbeats 4000000 in
theorem li_wsL_law_r21 : ∀ w ∈ wsL_law_r21, w ∈ lw_tbl := mem_pos [908, 909, 419, 420, 421, 422, 910, 911, 912, 913, 423, 424, 425, 426, 427, 428, 429, 914, 915, 916, 917, 918, 919, 920] rfl
set_option maxRecDepth 100000 in
set_option maxHeartbeats 4000000 in
theorem li_wsL_law_r22 : ∀ w ∈ wsL_law_r22, w ∈ lw_tbl := mem_pos [921, 922, 924, 36, 925, 430, 431, 432, 433, 434, 436, 5, 437, 926, 927, 928, 929, 438, 439, 440, 441, 930, 931, 932] rfl
set_option maxRecDepth 100000 in
set_option maxHeartbeats 4000000 in
theorem li_wsL_law_r23 : ∀ w ∈ wsL_law_r23, w ∈ lw_tbl := mem_pos [933, 442, 443, 444, 445, 934, 935, 936, 937, 446, 447, 448, 449, 938, 939, 940, 941, 450, 451, 452, 453, 942, 943, 944] rfl
set_option maxRecDepth 100000 in
set_option maxHeartbeats 4000000 in
theorem li_wsL_law_r24 : ∀ w ∈ wsL_law_r24, w ∈ lw_tbl := mem_pos [945, 946, 454, 455, 456, 457, 458, 460, 6, 461, 947, 948, 949, 950, 462, 463, 464, 465, 951, 952, 953, 954, 466, 467] rfl
set_option maxRecDepth 100000 in
set_option maxHeartbeats 4000000 in
theorem li_wsL_law_r25 : ∀ w ∈ wsL_law_r25, w ∈ lw_tbl := mem_pos [468, 469, 147, 470, 471, 472, 473, 474, 955, 956, 957, 958, 688, 959, 475, 476, 477, 478, 960, 961, 962, 963, 479, 480] rfl
set_option maxRecDepth 100000 in
set_option maxHeartbeats 4000000 in
theorem li_wsL_law_r26 : ∀ w ∈ wsL_law_r26, w ∈ lw_tbl := mem_pos [481, 482, 483, 484, 485, 486, 487, 489, 7, 490, 146, 144, 491, 493, 8, 494, 495, 497, 9, 498, 499, 501, 10, 502] rfl
set_option maxRecDepth 100000 in
set_option maxHeartbeats 4000000 in
theorem li_wsL_law_r27 : ∀ w ∈ wsL_law_r27, w ∈ lw_tbl := mem_pos [503, 504, 505, 512, 514, 11, 515, 516, 517, 518, 63, 519, 1105, 520, 521, 522, 523, 524, 1106, 526, 527, 528, 529, 530] rfl
set_option maxRecDepth 100000 in
set_option maxHeartbeats 4000000 in
theorem li_wsL_law_r28 : ∀ w ∈ wsL_law_r28, w ∈ lw_tbl := mem_pos [531, 532, 533, 534, 535, 64, 536, 537, 538, 539, 540, 542, 543, 65, 544, 545, 546, 66, 547, 548, 549, 550, 551, 552] rfl
set_option maxRecDepth 100000 in
set_option maxHeartbeats 4000000 in
theorem li_wsL_law_r29 : ∀ w ∈ wsL_law_r29, w ∈ lw_tbl := mem_pos [553, 554, 555, 556, 557, 558, 560, 562, 564, 566, 12, 567, 103, 106, 110, 568, 570, 13, 571, 575, 577, 14, 578, 88] rfl
set_option maxRecDepth 100000 in
set_option maxHeartbeats 4000000 in
theorem li_wsL_law_r30 : ∀ w ∈ wsL_law_r30, w ∈ lw_tbl := mem_pos [91, 581, 583, 15, 584, 94, 586, 588, 16, 589, 99, 964, 965, 966, 967, 692, 690, 689, 968, 970, 37, 971, 972, 974] rfl
set_option maxRecDepth 100000 in
set_option maxHeartbeats 4000000 in
theorem li_wsL_law_r31 : ∀ w ∈ wsL_law_r31, w ∈ lw_tbl := mem_pos [38, 975, 976, 978, 39, 979, 980, 981, 982, 983, 984, 985, 986, 987, 988, 989, 990, 992, 40, 993, 1010, 1029, 1035, 691] rfl
set_option maxRecDepth 100000 in
set_option maxHeartbeats 4000000 in
theorem li_wsL_law_r32 : ∀ w ∈ wsL_law_r32, w ∈ lw_tbl := mem_pos [994, 996, 41, 997, 1004, 1005, 1006, 1007, 1008, 1009, 998, 1000, 42, 1001, 1002, 1003, 1011, 1013, 43, 1014, 1023, 1028, 1015, 1017] rfl
set_option maxRecDepth 100000 in
set_option maxHeartbeats 4000000 in
theorem li_wsL_law_r33 : ∀ w ∈ wsL_law_r33, w ∈ lw_tbl := mem_pos [44, 1018, 1019, 1021, 45, 1022, 1024, 1026, 46, 1027, 1030, 1032, 47, 1033, 1034, 1036, 1038, 48, 1039, 591, 592, 593, 594, 601] rfl
set_option maxRecDepth 100000 in
set_option maxHeartbeats 4000000 in
theorem li_wsL_law_r34 : ∀ w ∈ wsL_law_r34, w ∈ lw_tbl := mem_pos [185, 595, 596, 597, 598, 599, 600, 602, 603, 604, 605, 606, 607, 608, 1040, 1041, 1042, 1043, 1047, 1044, 1045, 1046, 609, 610] rfl
set_option maxRecDepth 100000 in
set_option maxHeartbeats 4000000 in
theorem li_wsL_law_r35 : ∀ w ∈ wsL_law_r35, w ∈ lw_tbl := mem_pos [611, 612, 617, 187, 613, 614, 615, 616, 618, 619, 620, 621, 1048, 1049, 1050, 1051, 1052, 1054, 49, 1055, 1056, 1057, 1058, 1059] rfl
set_option maxRecDepth 100000 in
set_option maxHeartbeats 4000000 in
theorem li_wsL_law_r36 : ∀ w ∈ wsL_law_r36, w ∈ lw_tbl := mem_pos [622, 623, 624, 625, 183, 630, 626, 627, 628, 629, 1060, 1061, 1062, 1063, 631, 632, 633, 634, 635, 1064, 1065, 1066, 1067, 636] rfl
set_option maxRecDepth 100000 in
set_option maxHeartbeats 4000000 in
theorem li_wsL_law_r37 : ∀ w ∈ wsL_law_r37, w ∈ lw_tbl := mem_pos [637, 638, 639, 1068, 1069, 1070, 1071, 640, 641, 642, 643, 644, 646, 17, 647, 1072, 1073, 1074, 1075, 1076, 1078, 50, 1079, 648] rfl
set_option maxRecDepth 100000 in
set_option maxHeartbeats 4000000 in
theorem li_wsL_law_r38 : ∀ w ∈ wsL_law_r38, w ∈ lw_tbl := mem_pos [649, 650, 651, 1080, 1081, 1082, 1083, 686, 652, 653, 654, 655, 1084, 1085, 1086, 1087, 656, 657, 658, 659, 1088, 1089, 1090, 1091] rfl
set_option maxRecDepth 100000 in
set_option maxHeartbeats 4000000 in
theorem li_wsL_law_r39 : ∀ w ∈ wsL_law_r39, w ∈ lw_tbl := mem_pos [660, 661, 662, 663, 664, 665, 666, 667, 1092, 1093, 1094, 1095, 1096, 1098, 51, 1099, 668, 669, 670, 671, 1100, 1101, 1102, 1103] rfl
set_option maxRecDepth 100000 in
set_option maxHeartbeats 4000000 in
theorem li_wsX50 : ∀ w ∈ wsX50, w ∈ lw_tbl := mem_pos [204, 206, 208, 210, 212, 214, 216, 218] rfl
set_option maxRecDepth 100000 in
set_option maxHeartbeats 4000000 in
theorem li_wsX60 : ∀ w ∈ wsX60, w ∈ lw_tbl := mem_pos [697, 699, 701, 703, 705, 707, 709, 711, 713, 715, 717, 719, 721, 723, 725, 727] rfl
set_option maxRecDepth 100000 in
set_option maxHeartbeats 4000000 in
theorem li_wsX30 : ∀ w ∈ wsX30, w ∈ lw_tbl := mem_pos [113, 115, 117, 119, 121, 123, 125, 127, 129, 131, 133] rfl
set_option maxRecDepth 100000 in
set_option maxHeartbeats 4000000 in
theorem li_wsX20 : ∀ w ∈ wsX20, w ∈ lw_tbl := mem_pos [148, 150] rfl
set_option maxRecDepth 100000 in
set_option maxHeartbeats 4000000 in
theorem li_wsX40 : ∀ w ∈ wsX40, w ∈ lw_tbl := mem_pos [164, 166, 168, 170, 172] rfl
set_option maxRecDepth 100000 in
set_option maxHeartbeats 4000000 in
theorem li_wsX10 : ∀ w ∈ wsX10, w ∈ lw_tbl := mem_pos [188, 190, 192] rfl
theorem wsL_law_in : ∀ w ∈ wsL_law, w ∈ lw_tbl := by
  show ∀ w ∈ (wsL_law_r1 ++ (wsL_law_r2 ++ (wsL_law_r3 ++ (wsL_law_r4 ++ (wsL_law_r5 ++ (wsL_law_r6 ++ (wsL_law_r7 ++ (wsL_law_r8 ++ (wsL_law_r9 ++ (wsL_law_r10 ++ (wsL_law_r11 ++ (wsL_law_r12 ++ (wsL_law_r13 ++ (wsL_law_r14 ++ (wsL_law_r15 ++ (wsL_law_r16 ++ (wsL_law_r17 ++ (wsL_law_r18 ++ (wsL_law_r19 ++ (wsL_law_r20 ++ (wsL_law_r21 ++ (wsL_law_r22 ++ (wsL_law_r23 ++ (wsL_law_r24 ++ (wsL_law_r25 ++ (wsL_law_r26 ++ (wsL_law_r27 ++ (wsL_law_r28 ++ (wsL_law_r29 ++ (wsL_law_r30 ++ (wsL_law_r31 ++ (wsL_law_r32 ++ (wsL_law_r33 ++ (wsL_law_r34 ++ (wsL_law_r35 ++ (wsL_law_r36 ++ (wsL_law_r37 ++ (wsL_law_r38 ++ wsL_law_r39)))))))))))))))))))))))))))))))))))))) ++ wsX50 ++ wsX60 ++ wsX30 ++ wsX20 ++ wsX40 ++ wsX10 ++ ([] : List Cond), w ∈ lw_tbl
  exact List.forall_mem_append.mpr ⟨List.forall_mem_append.mpr ⟨List.forall_mem_append.mpr ⟨List.forall_mem_append.mpr ⟨List.forall_mem_append.mpr ⟨List.forall_mem_append.mpr ⟨List.forall_mem_append.mpr ⟨List.forall_mem_append.mpr ⟨li_wsL_law_r1, List.forall_mem_append.mpr ⟨li_wsL_law_r2, List.forall_mem_append.mpr ⟨li_wsL_law_r3, List.forall_mem_append.mpr ⟨li_wsL_law_r4, List.forall_mem_append.mpr ⟨li_wsL_law_r5, List.forall_mem_append.mpr ⟨li_wsL_law_r6, List.forall_mem_append.mpr ⟨li_wsL_law_r7, List.forall_mem_append.mpr ⟨li_wsL_law_r8, List.forall_mem_append.mpr ⟨li_wsL_law_r9, List.forall_mem_append.mpr ⟨li_wsL_law_r10, List.forall_mem_append.mpr ⟨li_wsL_law_r11, List.forall_mem_append.mpr ⟨li_wsL_law_r12, List.forall_mem_append.mpr ⟨li_wsL_law_r13, List.forall_mem_append.mpr ⟨li_wsL_law_r14, List.forall_mem_append.mpr ⟨li_wsL_law_r15, List.forall_mem_append.mpr ⟨li_wsL_law_r16, List.forall_mem_append.mpr ⟨li_wsL_law_r17, List.forall_mem_append.mpr ⟨li_wsL_law_r18, List.forall_mem_append.mpr ⟨li_wsL_law_r19, List.forall_mem_append.mpr ⟨li_wsL_law_r20, List.forall_mem_append.mpr ⟨li_wsL_law_r21, List.forall_mem_append.mpr ⟨li_wsL_law_r22, List.forall_mem_append.mpr ⟨li_wsL_law_r23, List.forall_mem_append.mpr ⟨li_wsL_law_r24, List.forall_mem_append.mpr ⟨li_wsL_law_r25, List.forall_mem_append.mpr ⟨li_wsL_law_r26, List.forall_mem_append.mpr ⟨li_wsL_law_r27, List.forall_mem_append.mpr ⟨li_wsL_law_r28, List.forall_mem_append.mpr ⟨li_wsL_law_r29, List.forall_mem_append.mpr ⟨li_wsL_law_r30, List.forall_mem_append.mpr ⟨li_wsL_law_r31, List.forall_mem_append.mpr ⟨li_wsL_law_r32, List.forall_mem_append.mpr ⟨li_wsL_law_r33, List.forall_mem_append.mpr ⟨li_wsL_law_r34, List.forall_mem_append.mpr ⟨li_wsL_law_r35, List.forall_mem_append.mpr ⟨li_wsL_law_r36, List.forall_mem_append.mpr ⟨li_wsL_law_r37, List.forall_mem_append.mpr ⟨li_wsL_law_r38, li_wsL_law_r39⟩⟩⟩⟩⟩⟩⟩⟩⟩⟩⟩⟩⟩⟩⟩⟩⟩⟩⟩⟩⟩⟩⟩⟩⟩⟩⟩⟩⟩⟩⟩⟩⟩⟩⟩⟩⟩⟩, li_wsX50⟩, li_wsX60⟩, li_wsX30⟩, li_wsX20⟩, li_wsX40⟩, li_wsX10⟩, fun _ h => absurd h List.not_mem_nil⟩
