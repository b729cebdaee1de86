theorem dX5_init_78 : decode cX5_init 78 = .ok (.iload_n 1, 1) := by decide +kernel
theorem dX5_init_79 : decode cX5_init 79 = .ok (.iconst 4, 1) := by decide +kernel
theorem dX5_init_80 : decode cX5_init 80 = .ok (.if_icmp .ge 22, 3) := by decide +kernel
theorem dX5_init_83 : decode cX5_init 83 = .ok (.aload_n 0, 1) := by decide +kernel
theorem dX5_init_84 : decode cX5_init 84 = .ok (.getfield 44, 3) := by decide +kernel
theorem dX5_init_87 : decode cX5_init 87 = .ok (.iload_n 1, 1) := by decide +kernel
theorem dX5_init_88 : decode cX5_init 88 = .ok (.new 42, 3) := by decide +kernel
theorem dX5_init_91 : decode cX5_init 91 = .ok (.dup, 1) := by decide +kernel
theorem dX5_init_92 : decode cX5_init 92 = .ok (.invokespecial 48, 3) := by decide +kernel
theorem dX5_init_95 : decode cX5_init 95 = .ok (.aastore, 1) := by decide +kernel
theorem dX5_init_96 : decode cX5_init 96 = .ok (.iinc 1 1, 3) := by decide +kernel
theorem dX5_init_99 : decode cX5_init 99 = .ok (.goto (-21), 3) := by decide +kernel
theorem dX5_init_102 : decode cX5_init 102 = .ok (.aload_n 0, 1) := by decide +kernel
theorem dX5_init_103 : decode cX5_init 103 = .ok (.bipush 7, 2) := by decide +kernel
theorem dX5_init_105 : decode cX5_init 105 = .ok (.newarray .int, 2) := by decide +kernel
theorem dX5_init_107 : decode cX5_init 107 = .ok (.putfield 49, 3) := by decide +kernel
theorem dX5_init_110 : decode cX5_init 110 = .ok (.return_, 1) := by decide +kernel
set_option maxRecDepth 20000 in
theorem ggX5_man_X5_isHouse : GoodIn wsX5_man wsX5_isHouse := goodIn_r _ [6, 7, 8, 5, 9] (by decide +kernel) (by decide +kernel)
set_option maxRecDepth 20000 in
theorem gX5_man_X5_isHouse : GoodIn wsX5_man (va_wsS RX5 53 yX5_isHouse wsX5_isHouse) := goodIn_app (goodIn_of _ (by decide +kernel)) ggX5_man_X5_isHouse
set_option maxRecDepth 20000 in
theorem ggX5_man_X3_putMan : GoodIn wsX5_man wsX3_putMan := goodIn_r _ [14, 15, 52, 53, 54, 55, 56, 57, 58, 59, 60, 61, 62] (by decide +kernel) (by decide +kernel)
set_option maxRecDepth 20000 in
theorem gX5_man_X3_putMan : GoodIn wsX5_man (wsV RX5 57 RX3 yX3_putMan wsX3_putMan) := goodIn_app (goodIn_of _ (by decide +kernel)) ggX5_man_X3_putMan
set_option maxRecDepth 20000 in
theorem ggX5_man_X5_finding : GoodIn wsX5_man wsX5_finding := goodIn_r _ [19, 2, 20, 7, 8, 5, 9, 44, 45, 46, 47, 48, 49, 50, 51] (by decide +kernel) (by decide +kernel)
set_option maxRecDepth 20000 in
theorem gX5_man_X5_finding : GoodIn wsX5_man (wsV RX5 62 RX5 yX5_finding wsX5_finding) := goodIn_app (goodIn_of _ (by decide +kernel)) ggX5_man_X5_finding
set_option maxRecDepth 20000 in
theorem ggX5_man_X5_isWithin : GoodIn wsX5_man wsX5_isWithin := goodIn_r _ [9] (by decide +kernel) (by decide +kernel)
set_option maxRecDepth 20000 in
theorem gX5_man_X5_isWithin : GoodIn wsX5_man (va_wsS RX5 65 yX5_isWithin wsX5_isWithin) := goodIn_app (goodIn_of _ (by decide +kernel)) ggX5_man_X5_isWithin
set_option maxRecDepth 20000 in
theorem ggX5_man_X3_putWay : GoodIn wsX5_man wsX3_putWay := goodIn_r _ [24, 25, 52, 53, 54, 55, 56, 57, 58, 59, 60, 61, 62] (by decide +kernel) (by decide +kernel)
set_option maxRecDepth 20000 in
theorem gX5_man_X3_putWay : GoodIn wsX5_man (wsV RX5 69 RX3 yX3_putWay wsX3_putWay) := goodIn_app (goodIn_of _ (by decide +kernel)) ggX5_man_X3_putWay
set_option maxRecDepth 20000 in
theorem ggX5_man_X3_putTray : GoodIn wsX5_man wsX3_putTray := goodIn_r _ [29, 30, 52, 53, 54, 55, 56, 57, 58, 59, 60, 61, 62] (by decide +kernel) (by decide +kernel)
set_option maxRecDepth 20000 in
theorem gX5_man_X3_putTray : GoodIn wsX5_man (wsV RX5 72 RX3 yX3_putTray wsX3_putTray) := goodIn_app (goodIn_of _ (by decide +kernel)) ggX5_man_X3_putTray
set_option maxRecDepth 20000 in
theorem ggX5_man_X5_isTone : GoodIn wsX5_man wsX5_isTone := goodIn_r _ [33, 7, 8, 5, 9] (by decide +kernel) (by decide +kernel)
set_option maxRecDepth 20000 in
theorem gX5_man_X5_isTone : GoodIn wsX5_man (va_wsS RX5 75 yX5_isTone wsX5_isTone) := goodIn_app (goodIn_of _ (by decide +kernel)) ggX5_man_X5_isTone
set_option maxRecDepth 20000 in
theorem ggX5_man_X3_putRang : GoodIn wsX5_man wsX3_putRang := goodIn_r _ [37, 38, 52, 53, 54, 55, 56, 57, 58, 59, 60, 61, 62] (by decide +kernel) (by decide +kernel)
set_option maxRecDepth 20000 in
theorem gX5_man_X3_putRang : GoodIn wsX5_man (wsV RX5 78 RX3 yX3_putRang wsX3_putRang) := goodIn_app (goodIn_of _ (by decide +kernel)) ggX5_man_X3_putRang
set_option maxRecDepth 20000 in
theorem ggX5_man_X3_putCrack : GoodIn wsX5_man wsX3_putCrack := goodIn_r _ [42, 43, 52, 53, 54, 55, 56, 57, 58, 59, 60, 61, 62] (by decide +kernel) (by decide +kernel)
set_option maxRecDepth 20000 in
theorem gX5_man_X3_putCrack : GoodIn wsX5_man (wsV RX5 81 RX3 yX3_putCrack wsX3_putCrack) := goodIn_app (goodIn_of _ (by decide +kernel)) ggX5_man_X3_putCrack
theorem dX5_man_0 : decode cX5_man 0 = .ok (.iload_n 1, 1) := by decide +kernel
theorem dX5_man_1 : decode cX5_man 1 = .ok (.tableswitch 174 0 4 #[35, 60, 87, 116, 146], 35) := by decide +kernel
theorem dX5_man_36 : decode cX5_man 36 = .ok (.iload_n 2, 1) := by decide +kernel
theorem dX5_man_37 : decode cX5_man 37 = .ok (.invokestatic 53, 3) := by decide +kernel
theorem dX5_man_40 : decode cX5_man 40 = .ok (.ifCond .eq 14, 3) := by decide +kernel
theorem dX5_man_43 : decode cX5_man 43 = .ok (.aload_n 0, 1) := by decide +kernel
theorem dX5_man_44 : decode cX5_man 44 = .ok (.getfield 10, 3) := by decide +kernel
theorem dX5_man_47 : decode cX5_man 47 = .ok (.iload_n 2, 1) := by decide +kernel
theorem dX5_man_48 : decode cX5_man 48 = .ok (.invokevirtual 57, 3) := by decide +kernel
theorem dX5_man_51 : decode cX5_man 51 = .ok (.goto 9, 3) := by decide +kernel
theorem dX5_man_54 : decode cX5_man 54 = .ok (.aload_n 0, 1) := by decide +kernel
theorem dX5_man_55 : decode cX5_man 55 = .ok (.ldc 61, 2) := by decide +kernel
theorem dX5_man_57 : decode cX5_man 57 = .ok (.invokevirtual 62, 3) := by decide +kernel
theorem dX5_man_60 : decode cX5_man 60 = .ok (.ireturn, 1) := by decide +kernel
theorem dX5_man_61 : decode cX5_man 61 = .ok (.iload_n 2, 1) := by decide +kernel
theorem dX5_man_62 : decode cX5_man 62 = .ok (.iconst 0, 1) := by decide +kernel
theorem dX5_man_63 : decode cX5_man 63 = .ok (.iconst 1, 1) := by decide +kernel
theorem dX5_man_64 : decode cX5_man 64 = .ok (.invokestatic 65, 3) := by decide +kernel
theorem dX5_man_67 : decode cX5_man 67 = .ok (.ifCond .eq 14, 3) := by decide +kernel
theorem dX5_man_70 : decode cX5_man 70 = .ok (.aload_n 0, 1) := by decide +kernel
theorem dX5_man_71 : decode cX5_man 71 = .ok (.getfield 10, 3) := by decide +kernel
theorem dX5_man_74 : decode cX5_man 74 = .ok (.iload_n 2, 1) := by decide +kernel
theorem dX5_man_75 : decode cX5_man 75 = .ok (.invokevirtual 69, 3) := by decide +kernel
theorem dX5_man_78 : decode cX5_man 78 = .ok (.goto 9, 3) := by decide +kernel
theorem dX5_man_81 : decode cX5_man 81 = .ok (.aload_n 0, 1) := by decide +kernel
theorem dX5_man_82 : decode cX5_man 82 = .ok (.ldc 61, 2) := by decide +kernel
theorem dX5_man_84 : decode cX5_man 84 = .ok (.invokevirtual 62, 3) := by decide +kernel
theorem dX5_man_87 : decode cX5_man 87 = .ok (.ireturn, 1) := by decide +kernel
theorem dX5_man_88 : decode cX5_man 88 = .ok (.iload_n 2, 1) := by decide +kernel
theorem dX5_man_89 : decode cX5_man 89 = .ok (.iconst 0, 1) := by decide +kernel
theorem dX5_man_90 : decode cX5_man 90 = .ok (.sipush 999, 3) := by decide +kernel
theorem dX5_man_93 : decode cX5_man 93 = .ok (.invokestatic 65, 3) := by decide +kernel
theorem dX5_man_96 : decode cX5_man 96 = .ok (.ifCond .eq 14, 3) := by decide +kernel
theorem dX5_man_99 : decode cX5_man 99 = .ok (.aload_n 0, 1) := by decide +kernel
theorem dX5_man_100 : decode cX5_man 100 = .ok (.getfield 10, 3) := by decide +kernel
theorem dX5_man_103 : decode cX5_man 103 = .ok (.iload_n 2, 1) := by decide +kernel
theorem dX5_man_104 : decode cX5_man 104 = .ok (.invokevirtual 72, 3) := by decide +kernel
theorem dX5_man_107 : decode cX5_man 107 = .ok (.goto 9, 3) := by decide +kernel
theorem dX5_man_110 : decode cX5_man 110 = .ok (.aload_n 0, 1) := by decide +kernel
theorem dX5_man_111 : decode cX5_man 111 = .ok (.ldc 61, 2) := by decide +kernel
theorem dX5_man_113 : decode cX5_man 113 = .ok (.invokevirtual 62, 3) := by decide +kernel
theorem dX5_man_116 : decode cX5_man 116 = .ok (.ireturn, 1) := by decide +kernel
theorem dX5_man_117 : decode cX5_man 117 = .ok (.iload_n 2, 1) := by decide +kernel
theorem dX5_man_118 : decode cX5_man 118 = .ok (.iconst (-1), 1) := by decide +kernel
theorem dX5_man_119 : decode cX5_man 119 = .ok (.if_icmp .eq 10, 3) := by decide +kernel
theorem dX5_man_122 : decode cX5_man 122 = .ok (.iload_n 2, 1) := by decide +kernel
theorem dX5_man_123 : decode cX5_man 123 = .ok (.invokestatic 75, 3) := by decide +kernel
theorem dX5_man_126 : decode cX5_man 126 = .ok (.ifCond .eq 14, 3) := by decide +kernel
theorem dX5_man_129 : decode cX5_man 129 = .ok (.aload_n 0, 1) := by decide +kernel
theorem dX5_man_130 : decode cX5_man 130 = .ok (.getfield 10, 3) := by decide +kernel
theorem dX5_man_133 : decode cX5_man 133 = .ok (.iload_n 2, 1) := by decide +kernel
theorem dX5_man_134 : decode cX5_man 134 = .ok (.invokevirtual 78, 3) := by decide +kernel
theorem dX5_man_137 : decode cX5_man 137 = .ok (.goto 9, 3) := by decide +kernel
theorem dX5_man_140 : decode cX5_man 140 = .ok (.aload_n 0, 1) := by decide +kernel
theorem dX5_man_141 : decode cX5_man 141 = .ok (.ldc 61, 2) := by decide +kernel
theorem dX5_man_143 : decode cX5_man 143 = .ok (.invokevirtual 62, 3) := by decide +kernel
theorem dX5_man_146 : decode cX5_man 146 = .ok (.ireturn, 1) := by decide +kernel
theorem dX5_man_147 : decode cX5_man 147 = .ok (.iload_n 2, 1) := by decide +kernel
theorem dX5_man_148 : decode cX5_man 148 = .ok (.iconst 0, 1) := by decide +kernel
theorem dX5_man_149 : decode cX5_man 149 = .ok (.bipush 99, 2) := by decide +kernel
theorem dX5_man_151 : decode cX5_man 151 = .ok (.invokestatic 65, 3) := by decide +kernel
theorem dX5_man_154 : decode cX5_man 154 = .ok (.ifCond .eq 14, 3) := by decide +kernel
theorem dX5_man_157 : decode cX5_man 157 = .ok (.aload_n 0, 1) := by decide +kernel
theorem dX5_man_158 : decode cX5_man 158 = .ok (.getfield 10, 3) := by decide +kernel
theorem dX5_man_161 : decode cX5_man 161 = .ok (.iload_n 2, 1) := by decide +kernel
theorem dX5_man_162 : decode cX5_man 162 = .ok (.invokevirtual 81, 3) := by decide +kernel
theorem dX5_man_165 : decode cX5_man 165 = .ok (.goto 9, 3) := by decide +kernel
theorem dX5_man_168 : decode cX5_man 168 = .ok (.aload_n 0, 1) := by decide +kernel
theorem dX5_man_169 : decode cX5_man 169 = .ok (.ldc 61, 2) := by decide +kernel
theorem dX5_man_171 : decode cX5_man 171 = .ok (.invokevirtual 62, 3) := by decide +kernel
theorem dX5_man_174 : decode cX5_man 174 = .ok (.ireturn, 1) := by decide +kernel
theorem dX5_man_175 : decode cX5_man 175 = .ok (.aload_n 0, 1) := by decide +kernel
theorem dX5_man_176 : decode cX5_man 176 = .ok (.ldc 61, 2) := by decide +kernel
theorem dX5_man_178 : decode cX5_man 178 = .ok (.invokevirtual 62, 3) := by decide +kernel
theorem dX5_man_181 : decode cX5_man 181 = .ok (.ireturn, 1) := by decide +kernel
set_option maxRecDepth 20000 in
theorem ggX5_now_X3_isResting : GoodIn wsX5_now wsX3_isResting := goodIn_r _ [14, 15, 33, 34, 35, 36, 37, 38, 39, 40, 41, 42, 43] (by decide +kernel) (by decide +kernel)
set_option maxRecDepth 20000 in
theorem gX5_now_X3_isResting : GoodIn wsX5_now (wsV RX5 106 RX3 yX3_isResting wsX3_isResting) := goodIn_app (goodIn_of _ (by decide +kernel)) ggX5_now_X3_isResting
set_option maxRecDepth 20000 in
theorem ggX5_now_X5_finding : GoodIn wsX5_now wsX5_finding := goodIn_r _ [20, 9, 21, 22, 23, 19, 24, 25, 26, 27, 28, 29, 30, 31, 32] (by decide +kernel) (by decide +kernel)
set_option maxRecDepth 20000 in
theorem gX5_now_X5_finding : GoodIn wsX5_now (wsV RX5 62 RX5 yX5_finding wsX5_finding) := goodIn_app (goodIn_of _ (by decide +kernel)) ggX5_now_X5_finding
theorem dX5_now_0 : decode cX5_now 0 = .ok (.iload_n 1, 1) := by decide +kernel
theorem dX5_now_1 : decode cX5_now 1 = .ok (.tableswitch 119 0 7 #[47, 55, 63, 71, 79, 87, 95, 103], 47) := by decide +kernel
theorem dX5_now_48 : decode cX5_now 48 = .ok (.aload_n 0, 1) := by decide +kernel
theorem dX5_now_49 : decode cX5_now 49 = .ok (.getfield 10, 3) := by decide +kernel
theorem dX5_now_52 : decode cX5_now 52 = .ok (.getfield 84, 3) := by decide +kernel
theorem dX5_now_55 : decode cX5_now 55 = .ok (.ireturn, 1) := by decide +kernel
theorem dX5_now_56 : decode cX5_now 56 = .ok (.aload_n 0, 1) := by decide +kernel
theorem dX5_now_57 : decode cX5_now 57 = .ok (.getfield 10, 3) := by decide +kernel
theorem dX5_now_60 : decode cX5_now 60 = .ok (.getfield 88, 3) := by decide +kernel
theorem dX5_now_63 : decode cX5_now 63 = .ok (.ireturn, 1) := by decide +kernel
theorem dX5_now_64 : decode cX5_now 64 = .ok (.aload_n 0, 1) := by decide +kernel
theorem dX5_now_65 : decode cX5_now 65 = .ok (.getfield 10, 3) := by decide +kernel
theorem dX5_now_68 : decode cX5_now 68 = .ok (.getfield 91, 3) := by decide +kernel
theorem dX5_now_71 : decode cX5_now 71 = .ok (.ireturn, 1) := by decide +kernel
theorem dX5_now_72 : decode cX5_now 72 = .ok (.aload_n 0, 1) := by decide +kernel
theorem dX5_now_73 : decode cX5_now 73 = .ok (.getfield 10, 3) := by decide +kernel
theorem dX5_now_76 : decode cX5_now 76 = .ok (.getfield 94, 3) := by decide +kernel
theorem dX5_now_79 : decode cX5_now 79 = .ok (.ireturn, 1) := by decide +kernel
theorem dX5_now_80 : decode cX5_now 80 = .ok (.aload_n 0, 1) := by decide +kernel
theorem dX5_now_81 : decode cX5_now 81 = .ok (.getfield 10, 3) := by decide +kernel
theorem dX5_now_84 : decode cX5_now 84 = .ok (.getfield 97, 3) := by decide +kernel
theorem dX5_now_87 : decode cX5_now 87 = .ok (.ireturn, 1) := by decide +kernel
theorem dX5_now_88 : decode cX5_now 88 = .ok (.aload_n 0, 1) := by decide +kernel
theorem dX5_now_89 : decode cX5_now 89 = .ok (.getfield 10, 3) := by decide +kernel
theorem dX5_now_92 : decode cX5_now 92 = .ok (.getfield 100, 3) := by decide +kernel
theorem dX5_now_95 : decode cX5_now 95 = .ok (.ireturn, 1) := by decide +kernel
theorem dX5_now_96 : decode cX5_now 96 = .ok (.aload_n 0, 1) := by decide +kernel
theorem dX5_now_97 : decode cX5_now 97 = .ok (.getfield 10, 3) := by decide +kernel
theorem dX5_now_100 : decode cX5_now 100 = .ok (.getfield 103, 3) := by decide +kernel
theorem dX5_now_103 : decode cX5_now 103 = .ok (.ireturn, 1) := by decide +kernel
theorem dX5_now_104 : decode cX5_now 104 = .ok (.aload_n 0, 1) := by decide +kernel
theorem dX5_now_105 : decode cX5_now 105 = .ok (.getfield 10, 3) := by decide +kernel
theorem dX5_now_108 : decode cX5_now 108 = .ok (.invokevirtual 106, 3) := by decide +kernel
theorem dX5_now_111 : decode cX5_now 111 = .ok (.ifCond .eq 7, 3) := by decide +kernel
theorem dX5_now_114 : decode cX5_now 114 = .ok (.iconst 1, 1) := by decide +kernel
theorem dX5_now_115 : decode cX5_now 115 = .ok (.goto 4, 3) := by decide +kernel
theorem dX5_now_118 : decode cX5_now 118 = .ok (.iconst 0, 1) := by decide +kernel
theorem dX5_now_119 : decode cX5_now 119 = .ok (.ireturn, 1) := by decide +kernel
theorem dX5_now_120 : decode cX5_now 120 = .ok (.aload_n 0, 1) := by decide +kernel
theorem dX5_now_121 : decode cX5_now 121 = .ok (.ldc 61, 2) := by decide +kernel
theorem dX5_now_123 : decode cX5_now 123 = .ok (.invokevirtual 62, 3) := by decide +kernel
theorem dX5_now_126 : decode cX5_now 126 = .ok (.ireturn, 1) := by decide +kernel
set_option maxRecDepth 20000 in
theorem ggX5_of_X5_isHouse : GoodIn wsX5_of wsX5_isHouse := goodIn_r _ [10, 11, 12, 9, 13] (by decide +kernel) (by decide +kernel)
set_option maxRecDepth 20000 in
theorem gX5_of_X5_isHouse : GoodIn wsX5_of (va_wsS RX5 53 yX5_isHouse wsX5_isHouse) := goodIn_app (goodIn_of _ (by decide +kernel)) ggX5_of_X5_isHouse
set_option maxRecDepth 20000 in
theorem ggX5_of_X5_finding : GoodIn wsX5_of wsX5_finding := goodIn_r _ [17, 1, 18, 11, 12, 9, 13, 31, 32, 33, 34, 35, 36, 37, 38] (by decide +kernel) (by decide +kernel)
set_option maxRecDepth 20000 in
theorem gX5_of_X5_finding : GoodIn wsX5_of (wsV RX5 62 RX5 yX5_finding wsX5_finding) := goodIn_app (goodIn_of _ (by decide +kernel)) ggX5_of_X5_finding
set_option maxRecDepth 20000 in
theorem ggX5_of_X3_toneAt : GoodIn wsX5_of wsX3_toneAt := goodIn_r _ [23, 24, 25, 26, 27, 28, 29, 30, 39, 40, 41, 42, 43, 44, 45, 46, 47, 48, 49] (by decide +kernel) (by decide +kernel)
set_option maxRecDepth 20000 in
theorem gX5_of_X3_toneAt : GoodIn wsX5_of (wsV RX5 122 RX3 yX3_toneAt wsX3_toneAt) := goodIn_app (goodIn_of _ (by decide +kernel)) ggX5_of_X3_toneAt
theorem dX5_of_0 : decode cX5_of 0 = .ok (.iload_n 1, 1) := by decide +kernel
theorem dX5_of_1 : decode cX5_of 1 = .ok (.invokestatic 53, 3) := by decide +kernel
theorem dX5_of_4 : decode cX5_of 4 = .ok (.ifCond .ne 10, 3) := by decide +kernel
theorem dX5_of_7 : decode cX5_of 7 = .ok (.aload_n 0, 1) := by decide +kernel
theorem dX5_of_8 : decode cX5_of 8 = .ok (.ldc 61, 2) := by decide +kernel
theorem dX5_of_10 : decode cX5_of 10 = .ok (.invokevirtual 62, 3) := by decide +kernel
theorem dX5_of_13 : decode cX5_of 13 = .ok (.ireturn, 1) := by decide +kernel
theorem dX5_of_14 : decode cX5_of 14 = .ok (.iload_n 2, 1) := by decide +kernel
theorem dX5_of_15 : decode cX5_of 15 = .ok (.tableswitch 82 0 4 #[33, 43, 53, 63, 73], 33) := by decide +kernel
theorem dX5_of_48 : decode cX5_of 48 = .ok (.aload_n 0, 1) := by decide +kernel
theorem dX5_of_49 : decode cX5_of 49 = .ok (.getfield 10, 3) := by decide +kernel
theorem dX5_of_52 : decode cX5_of 52 = .ok (.getfield 110, 3) := by decide +kernel
theorem dX5_of_55 : decode cX5_of 55 = .ok (.iload_n 1, 1) := by decide +kernel
theorem dX5_of_56 : decode cX5_of 56 = .ok (.iaload, 1) := by decide +kernel
theorem dX5_of_57 : decode cX5_of 57 = .ok (.ireturn, 1) := by decide +kernel
theorem dX5_of_58 : decode cX5_of 58 = .ok (.aload_n 0, 1) := by decide +kernel
theorem dX5_of_59 : decode cX5_of 59 = .ok (.getfield 10, 3) := by decide +kernel
theorem dX5_of_62 : decode cX5_of 62 = .ok (.getfield 113, 3) := by decide +kernel
theorem dX5_of_65 : decode cX5_of 65 = .ok (.iload_n 1, 1) := by decide +kernel
theorem dX5_of_66 : decode cX5_of 66 = .ok (.iaload, 1) := by decide +kernel
theorem dX5_of_67 : decode cX5_of 67 = .ok (.ireturn, 1) := by decide +kernel
theorem dX5_of_68 : decode cX5_of 68 = .ok (.aload_n 0, 1) := by decide +kernel
theorem dX5_of_69 : decode cX5_of 69 = .ok (.getfield 10, 3) := by decide +kernel
theorem dX5_of_72 : decode cX5_of 72 = .ok (.getfield 116, 3) := by decide +kernel
theorem dX5_of_75 : decode cX5_of 75 = .ok (.iload_n 1, 1) := by decide +kernel
theorem dX5_of_76 : decode cX5_of 76 = .ok (.iaload, 1) := by decide +kernel
theorem dX5_of_77 : decode cX5_of 77 = .ok (.ireturn, 1) := by decide +kernel
theorem dX5_of_78 : decode cX5_of 78 = .ok (.aload_n 0, 1) := by decide +kernel
theorem dX5_of_79 : decode cX5_of 79 = .ok (.getfield 10, 3) := by decide +kernel
theorem dX5_of_82 : decode cX5_of 82 = .ok (.getfield 119, 3) := by decide +kernel
theorem dX5_of_85 : decode cX5_of 85 = .ok (.iload_n 1, 1) := by decide +kernel
theorem dX5_of_86 : decode cX5_of 86 = .ok (.iaload, 1) := by decide +kernel
theorem dX5_of_87 : decode cX5_of 87 = .ok (.ireturn, 1) := by decide +kernel
theorem dX5_of_88 : decode cX5_of 88 = .ok (.aload_n 0, 1) := by decide +kernel
theorem dX5_of_89 : decode cX5_of 89 = .ok (.getfield 10, 3) := by decide +kernel
theorem dX5_of_92 : decode cX5_of 92 = .ok (.iload_n 1, 1) := by decide +kernel
theorem dX5_of_93 : decode cX5_of 93 = .ok (.invokevirtual 122, 3) := by decide +kernel
theorem dX5_of_96 : decode cX5_of 96 = .ok (.ireturn, 1) := by decide +kernel
theorem dX5_of_97 : decode cX5_of 97 = .ok (.aload_n 0, 1) := by decide +kernel
theorem dX5_of_98 : decode cX5_of 98 = .ok (.ldc 61, 2) := by decide +kernel
theorem dX5_of_100 : decode cX5_of 100 = .ok (.invokevirtual 62, 3) := by decide +kernel
theorem dX5_of_103 : decode cX5_of 103 = .ok (.ireturn, 1) := by decide +kernel
set_option maxRecDepth 20000 in
theorem ggX5_minds_X5_isHouse : GoodIn wsX5_minds wsX5_isHouse := goodIn_r _ [6, 7, 8, 5, 9] (by decide +kernel) (by decide +kernel)
set_option maxRecDepth 20000 in
theorem gX5_minds_X5_isHouse : GoodIn wsX5_minds (va_wsS RX5 53 yX5_isHouse wsX5_isHouse) := goodIn_app (goodIn_of _ (by decide +kernel)) ggX5_minds_X5_isHouse
set_option maxRecDepth 20000 in
theorem ggX5_minds_X5_isTone : GoodIn wsX5_minds wsX5_isTone := goodIn_r _ [12, 7, 8, 5, 9] (by decide +kernel) (by decide +kernel)
set_option maxRecDepth 20000 in
theorem gX5_minds_X5_isTone : GoodIn wsX5_minds (va_wsS RX5 75 yX5_isTone wsX5_isTone) := goodIn_app (goodIn_of _ (by decide +kernel)) ggX5_minds_X5_isTone
set_option maxRecDepth 20000 in
theorem ggX5_minds_X5_finding : GoodIn wsX5_minds wsX5_finding := goodIn_r _ [16, 1, 17, 7, 8, 5, 9, 33, 34, 35, 36, 37, 38, 39, 40] (by decide +kernel) (by decide +kernel)
set_option maxRecDepth 20000 in
theorem gX5_minds_X5_finding : GoodIn wsX5_minds (wsV RX5 62 RX5 yX5_finding wsX5_finding) := goodIn_app (goodIn_of _ (by decide +kernel)) ggX5_minds_X5_finding
set_option maxRecDepth 20000 in
theorem ggX5_minds_X3_mindingAt : GoodIn wsX5_minds wsX3_mindingAt := goodIn_r _ [22, 23, 24, 25, 26, 27, 28, 29, 30, 31, 32, 41, 42, 43, 44, 45, 46, 47, 48, 49, 50, 51] (by decide +kernel) (by decide +kernel)
set_option maxRecDepth 20000 in
theorem gX5_minds_X3_mindingAt : GoodIn wsX5_minds (wsV RX5 125 RX3 yX3_mindingAt wsX3_mindingAt) := goodIn_app (goodIn_of _ (by decide +kernel)) ggX5_minds_X3_mindingAt
theorem dX5_minds_0 : decode cX5_minds 0 = .ok (.iload_n 1, 1) := by decide +kernel
theorem dX5_minds_1 : decode cX5_minds 1 = .ok (.invokestatic 53, 3) := by decide +kernel
theorem dX5_minds_4 : decode cX5_minds 4 = .ok (.ifCond .eq 10, 3) := by decide +kernel
theorem dX5_minds_7 : decode cX5_minds 7 = .ok (.iload_n 2, 1) := by decide +kernel
theorem dX5_minds_8 : decode cX5_minds 8 = .ok (.invokestatic 75, 3) := by decide +kernel
theorem dX5_minds_11 : decode cX5_minds 11 = .ok (.ifCond .ne 10, 3) := by decide +kernel
theorem dX5_minds_14 : decode cX5_minds 14 = .ok (.aload_n 0, 1) := by decide +kernel
theorem dX5_minds_15 : decode cX5_minds 15 = .ok (.ldc 61, 2) := by decide +kernel
theorem dX5_minds_17 : decode cX5_minds 17 = .ok (.invokevirtual 62, 3) := by decide +kernel
theorem dX5_minds_20 : decode cX5_minds 20 = .ok (.ireturn, 1) := by decide +kernel
theorem dX5_minds_21 : decode cX5_minds 21 = .ok (.bipush 100, 2) := by decide +kernel
theorem dX5_minds_23 : decode cX5_minds 23 = .ok (.aload_n 0, 1) := by decide +kernel
theorem dX5_minds_24 : decode cX5_minds 24 = .ok (.getfield 10, 3) := by decide +kernel
theorem dX5_minds_27 : decode cX5_minds 27 = .ok (.iload_n 1, 1) := by decide +kernel
theorem dX5_minds_28 : decode cX5_minds 28 = .ok (.iload_n 2, 1) := by decide +kernel
theorem dX5_minds_29 : decode cX5_minds 29 = .ok (.invokevirtual 125, 3) := by decide +kernel
theorem dX5_minds_32 : decode cX5_minds 32 = .ok (.iadd, 1) := by decide +kernel
theorem dX5_minds_33 : decode cX5_minds 33 = .ok (.ireturn, 1) := by decide +kernel
set_option maxRecDepth 20000 in
theorem ggX5_buys_X5_isHouse : GoodIn wsX5_buys wsX5_isHouse := goodIn_r _ [6, 7, 8, 5, 9] (by decide +kernel) (by decide +kernel)
set_option maxRecDepth 20000 in
theorem gX5_buys_X5_isHouse : GoodIn wsX5_buys (va_wsS RX5 53 yX5_isHouse wsX5_isHouse) := goodIn_app (goodIn_of _ (by decide +kernel)) ggX5_buys_X5_isHouse
set_option maxRecDepth 20000 in
theorem ggX5_buys_X5_isTone : GoodIn wsX5_buys wsX5_isTone := goodIn_r _ [12, 7, 8, 5, 9] (by decide +kernel) (by decide +kernel)
set_option maxRecDepth 20000 in
theorem gX5_buys_X5_isTone : GoodIn wsX5_buys (va_wsS RX5 75 yX5_isTone wsX5_isTone) := goodIn_app (goodIn_of _ (by decide +kernel)) ggX5_buys_X5_isTone
set_option maxRecDepth 20000 in
theorem ggX5_buys_X5_finding : GoodIn wsX5_buys wsX5_finding := goodIn_r _ [16, 1, 17, 7, 8, 5, 9, 34, 35, 36, 37, 38, 39, 40, 41] (by decide +kernel) (by decide +kernel)
set_option maxRecDepth 20000 in
theorem gX5_buys_X5_finding : GoodIn wsX5_buys (wsV RX5 62 RX5 yX5_finding wsX5_finding) := goodIn_app (goodIn_of _ (by decide +kernel)) ggX5_buys_X5_finding
set_option maxRecDepth 20000 in
theorem ggX5_buys_X3_buyingAt : GoodIn wsX5_buys wsX3_buyingAt := goodIn_r _ [22, 23, 24, 25, 26, 27, 28, 29, 30, 31, 32, 33, 42, 43, 44, 45, 46, 47, 48, 49, 50, 51, 52] (by decide +kernel) (by decide +kernel)
set_option maxRecDepth 20000 in
theorem gX5_buys_X3_buyingAt : GoodIn wsX5_buys (wsV RX5 129 RX3 yX3_buyingAt wsX3_buyingAt) := goodIn_app (goodIn_of _ (by decide +kernel)) ggX5_buys_X3_buyingAt
theorem dX5_buys_0 : decode cX5_buys 0 = .ok (.iload_n 1, 1) := by decide +kernel
theorem dX5_buys_1 : decode cX5_buys 1 = .ok (.invokestatic 53, 3) := by decide +kernel
theorem dX5_buys_4 : decode cX5_buys 4 = .ok (.ifCond .eq 10, 3) := by decide +kernel
theorem dX5_buys_7 : decode cX5_buys 7 = .ok (.iload_n 2, 1) := by decide +kernel
theorem dX5_buys_8 : decode cX5_buys 8 = .ok (.invokestatic 75, 3) := by decide +kernel
theorem dX5_buys_11 : decode cX5_buys 11 = .ok (.ifCond .ne 10, 3) := by decide +kernel
theorem dX5_buys_14 : decode cX5_buys 14 = .ok (.aload_n 0, 1) := by decide +kernel
theorem dX5_buys_15 : decode cX5_buys 15 = .ok (.ldc 61, 2) := by decide +kernel
theorem dX5_buys_17 : decode cX5_buys 17 = .ok (.invokevirtual 62, 3) := by decide +kernel
theorem dX5_buys_20 : decode cX5_buys 20 = .ok (.ireturn, 1) := by decide +kernel
theorem dX5_buys_21 : decode cX5_buys 21 = .ok (.aload_n 0, 1) := by decide +kernel
theorem dX5_buys_22 : decode cX5_buys 22 = .ok (.getfield 10, 3) := by decide +kernel
theorem dX5_buys_25 : decode cX5_buys 25 = .ok (.iload_n 1, 1) := by decide +kernel
theorem dX5_buys_26 : decode cX5_buys 26 = .ok (.iload_n 2, 1) := by decide +kernel
theorem dX5_buys_27 : decode cX5_buys 27 = .ok (.invokevirtual 129, 3) := by decide +kernel
theorem dX5_buys_30 : decode cX5_buys 30 = .ok (.ireturn, 1) := by decide +kernel
set_option maxRecDepth 20000 in
theorem ggX5_set_X5_isHouse : GoodIn wsX5_set wsX5_isHouse := goodIn_r _ [9, 10, 11, 8, 12] (by decide +kernel) (by decide +kernel)
set_option maxRecDepth 20000 in
theorem gX5_set_X5_isHouse : GoodIn wsX5_set (va_wsS RX5 53 yX5_isHouse wsX5_isHouse) := goodIn_app (goodIn_of _ (by decide +kernel)) ggX5_set_X5_isHouse
set_option maxRecDepth 20000 in
theorem ggX5_set_X5_finding : GoodIn wsX5_set wsX5_finding := goodIn_r _ [16, 1, 17, 10, 11, 8, 12, 21, 22, 23, 24, 25, 26, 27, 28] (by decide +kernel) (by decide +kernel)
set_option maxRecDepth 20000 in
theorem gX5_set_X5_finding : GoodIn wsX5_set (wsV RX5 62 RX5 yX5_finding wsX5_finding) := goodIn_app (goodIn_of _ (by decide +kernel)) ggX5_set_X5_finding
set_option maxRecDepth 20000 in
theorem ggX5_set_X5_isWithin : GoodIn wsX5_set wsX5_isWithin := goodIn_r _ [12] (by decide +kernel) (by decide +kernel)
set_option maxRecDepth 20000 in
theorem gX5_set_X5_isWithin : GoodIn wsX5_set (va_wsS RX5 65 yX5_isWithin wsX5_isWithin) := goodIn_app (goodIn_of _ (by decide +kernel)) ggX5_set_X5_isWithin
set_option maxRecDepth 20000 in
theorem ggX5_set_X5_exchange : GoodIn wsX5_set wsX5_exchange := goodIn_r _ [20] (by decide +kernel) (by decide +kernel)
set_option maxRecDepth 20000 in
theorem gX5_set_X5_exchange : GoodIn wsX5_set (va_wsS RX5 132 yX5_exchange wsX5_exchange) := goodIn_app (goodIn_of _ (by decide +kernel)) ggX5_set_X5_exchange
theorem dX5_set_0 : decode cX5_set 0 = .ok (.iload_n 1, 1) := by decide +kernel
theorem dX5_set_1 : decode cX5_set 1 = .ok (.invokestatic 53, 3) := by decide +kernel
theorem dX5_set_4 : decode cX5_set 4 = .ok (.ifCond .ne 10, 3) := by decide +kernel
theorem dX5_set_7 : decode cX5_set 7 = .ok (.aload_n 0, 1) := by decide +kernel
theorem dX5_set_8 : decode cX5_set 8 = .ok (.ldc 61, 2) := by decide +kernel
theorem dX5_set_10 : decode cX5_set 10 = .ok (.invokevirtual 62, 3) := by decide +kernel
theorem dX5_set_13 : decode cX5_set 13 = .ok (.ireturn, 1) := by decide +kernel
theorem dX5_set_14 : decode cX5_set 14 = .ok (.iload_n 2, 1) := by decide +kernel
theorem dX5_set_15 : decode cX5_set 15 = .ok (.tableswitch 123 1 3 #[25, 57, 90], 25) := by decide +kernel
theorem dX5_set_40 : decode cX5_set 40 = .ok (.iload_n 3, 1) := by decide +kernel
theorem dX5_set_41 : decode cX5_set 41 = .ok (.iconst 0, 1) := by decide +kernel
theorem dX5_set_42 : decode cX5_set 42 = .ok (.bipush 20, 2) := by decide +kernel
theorem dX5_set_44 : decode cX5_set 44 = .ok (.invokestatic 65, 3) := by decide +kernel
theorem dX5_set_47 : decode cX5_set 47 = .ok (.ifCond .eq 18, 3) := by decide +kernel
theorem dX5_set_50 : decode cX5_set 50 = .ok (.aload_n 0, 1) := by decide +kernel
theorem dX5_set_51 : decode cX5_set 51 = .ok (.getfield 10, 3) := by decide +kernel
theorem dX5_set_54 : decode cX5_set 54 = .ok (.getfield 113, 3) := by decide +kernel
theorem dX5_set_57 : decode cX5_set 57 = .ok (.iload_n 1, 1) := by decide +kernel
theorem dX5_set_58 : decode cX5_set 58 = .ok (.iload_n 3, 1) := by decide +kernel
theorem dX5_set_59 : decode cX5_set 59 = .ok (.invokestatic 132, 3) := by decide +kernel
theorem dX5_set_62 : decode cX5_set 62 = .ok (.goto 9, 3) := by decide +kernel
theorem dX5_set_65 : decode cX5_set 65 = .ok (.aload_n 0, 1) := by decide +kernel
theorem dX5_set_66 : decode cX5_set 66 = .ok (.ldc 61, 2) := by decide +kernel
theorem dX5_set_68 : decode cX5_set 68 = .ok (.invokevirtual 62, 3) := by decide +kernel
theorem dX5_set_71 : decode cX5_set 71 = .ok (.ireturn, 1) := by decide +kernel
theorem dX5_set_72 : decode cX5_set 72 = .ok (.iload_n 3, 1) := by decide +kernel
theorem dX5_set_73 : decode cX5_set 73 = .ok (.iconst 0, 1) := by decide +kernel
theorem dX5_set_74 : decode cX5_set 74 = .ok (.sipush 999, 3) := by decide +kernel
theorem dX5_set_77 : decode cX5_set 77 = .ok (.invokestatic 65, 3) := by decide +kernel
theorem dX5_set_80 : decode cX5_set 80 = .ok (.ifCond .eq 18, 3) := by decide +kernel
theorem dX5_set_83 : decode cX5_set 83 = .ok (.aload_n 0, 1) := by decide +kernel
theorem dX5_set_84 : decode cX5_set 84 = .ok (.getfield 10, 3) := by decide +kernel
theorem dX5_set_87 : decode cX5_set 87 = .ok (.getfield 116, 3) := by decide +kernel
theorem dX5_set_90 : decode cX5_set 90 = .ok (.iload_n 1, 1) := by decide +kernel
theorem dX5_set_91 : decode cX5_set 91 = .ok (.iload_n 3, 1) := by decide +kernel
theorem dX5_set_92 : decode cX5_set 92 = .ok (.invokestatic 132, 3) := by decide +kernel
theorem dX5_set_95 : decode cX5_set 95 = .ok (.goto 9, 3) := by decide +kernel
theorem dX5_set_98 : decode cX5_set 98 = .ok (.aload_n 0, 1) := by decide +kernel
theorem dX5_set_99 : decode cX5_set 99 = .ok (.ldc 61, 2) := by decide +kernel
theorem dX5_set_101 : decode cX5_set 101 = .ok (.invokevirtual 62, 3) := by decide +kernel
theorem dX5_set_104 : decode cX5_set 104 = .ok (.ireturn, 1) := by decide +kernel
theorem dX5_set_105 : decode cX5_set 105 = .ok (.iload_n 3, 1) := by decide +kernel
theorem dX5_set_106 : decode cX5_set 106 = .ok (.iconst 0, 1) := by decide +kernel
theorem dX5_set_107 : decode cX5_set 107 = .ok (.sipush 9999, 3) := by decide +kernel
theorem dX5_set_110 : decode cX5_set 110 = .ok (.invokestatic 65, 3) := by decide +kernel
theorem dX5_set_113 : decode cX5_set 113 = .ok (.ifCond .eq 18, 3) := by decide +kernel
theorem dX5_set_116 : decode cX5_set 116 = .ok (.aload_n 0, 1) := by decide +kernel
theorem dX5_set_117 : decode cX5_set 117 = .ok (.getfield 10, 3) := by decide +kernel
theorem dX5_set_120 : decode cX5_set 120 = .ok (.getfield 119, 3) := by decide +kernel
theorem dX5_set_123 : decode cX5_set 123 = .ok (.iload_n 1, 1) := by decide +kernel
theorem dX5_set_124 : decode cX5_set 124 = .ok (.iload_n 3, 1) := by decide +kernel
theorem dX5_set_125 : decode cX5_set 125 = .ok (.invokestatic 132, 3) := by decide +kernel
theorem dX5_set_128 : decode cX5_set 128 = .ok (.goto 9, 3) := by decide +kernel
theorem dX5_set_131 : decode cX5_set 131 = .ok (.aload_n 0, 1) := by decide +kernel
theorem dX5_set_132 : decode cX5_set 132 = .ok (.ldc 61, 2) := by decide +kernel
theorem dX5_set_134 : decode cX5_set 134 = .ok (.invokevirtual 62, 3) := by decide +kernel
theorem dX5_set_137 : decode cX5_set 137 = .ok (.ireturn, 1) := by decide +kernel
theorem dX5_set_138 : decode cX5_set 138 = .ok (.aload_n 0, 1) := by decide +kernel
theorem dX5_set_139 : decode cX5_set 139 = .ok (.ldc 61, 2) := by decide +kernel
theorem dX5_set_141 : decode cX5_set 141 = .ok (.invokevirtual 62, 3) := by decide +kernel
theorem dX5_set_144 : decode cX5_set 144 = .ok (.ireturn, 1) := by decide +kernel
set_option maxRecDepth 20000 in
theorem ggX5_turn_X5_isHouse : GoodIn wsX5_turn wsX5_isHouse := goodIn_r _ [7, 8, 9, 6, 10] (by decide +kernel) (by decide +kernel)
set_option maxRecDepth 20000 in
theorem gX5_turn_X5_isHouse : GoodIn wsX5_turn (va_wsS RX5 53 yX5_isHouse wsX5_isHouse) := goodIn_app (goodIn_of _ (by decide +kernel)) ggX5_turn_X5_isHouse
set_option maxRecDepth 20000 in
theorem ggX5_turn_X0_isKind : GoodIn wsX5_turn wsX0_isKind := goodIn_r _ [14, 9, 6, 10] (by decide +kernel) (by decide +kernel)
set_option maxRecDepth 20000 in
theorem gX5_turn_X0_isKind : GoodIn wsX5_turn (va_wsS RX5 136 yX0_isKind wsX0_isKind) := goodIn_app (goodIn_of _ (by decide +kernel)) ggX5_turn_X0_isKind
set_option maxRecDepth 20000 in
theorem ggX5_turn_X5_finding : GoodIn wsX5_turn wsX5_finding := goodIn_r _ [18, 1, 19, 8, 9, 6, 10, 23, 24, 25, 26, 27, 28, 29, 30] (by decide +kernel) (by decide +kernel)
set_option maxRecDepth 20000 in
theorem gX5_turn_X5_finding : GoodIn wsX5_turn (wsV RX5 62 RX5 yX5_finding wsX5_finding) := goodIn_app (goodIn_of _ (by decide +kernel)) ggX5_turn_X5_finding
set_option maxRecDepth 20000 in
theorem ggX5_turn_X5_exchange : GoodIn wsX5_turn wsX5_exchange := goodIn_r _ [22] (by decide +kernel) (by decide +kernel)
set_option maxRecDepth 20000 in
theorem gX5_turn_X5_exchange : GoodIn wsX5_turn (va_wsS RX5 132 yX5_exchange wsX5_exchange) := goodIn_app (goodIn_of _ (by decide +kernel)) ggX5_turn_X5_exchange
theorem dX5_turn_0 : decode cX5_turn 0 = .ok (.iload_n 1, 1) := by decide +kernel
theorem dX5_turn_1 : decode cX5_turn 1 = .ok (.invokestatic 53, 3) := by decide +kernel
theorem dX5_turn_4 : decode cX5_turn 4 = .ok (.ifCond .eq 10, 3) := by decide +kernel
theorem dX5_turn_7 : decode cX5_turn 7 = .ok (.iload_n 2, 1) := by decide +kernel
theorem dX5_turn_8 : decode cX5_turn 8 = .ok (.invokestatic 136, 3) := by decide +kernel
theorem dX5_turn_11 : decode cX5_turn 11 = .ok (.ifCond .ne 10, 3) := by decide +kernel
theorem dX5_turn_14 : decode cX5_turn 14 = .ok (.aload_n 0, 1) := by decide +kernel
theorem dX5_turn_15 : decode cX5_turn 15 = .ok (.ldc 61, 2) := by decide +kernel
theorem dX5_turn_17 : decode cX5_turn 17 = .ok (.invokevirtual 62, 3) := by decide +kernel
theorem dX5_turn_20 : decode cX5_turn 20 = .ok (.ireturn, 1) := by decide +kernel
theorem dX5_turn_21 : decode cX5_turn 21 = .ok (.aload_n 0, 1) := by decide +kernel
theorem dX5_turn_22 : decode cX5_turn 22 = .ok (.getfield 10, 3) := by decide +kernel
theorem dX5_turn_25 : decode cX5_turn 25 = .ok (.getfield 110, 3) := by decide +kernel
theorem dX5_turn_28 : decode cX5_turn 28 = .ok (.iload_n 1, 1) := by decide +kernel
theorem dX5_turn_29 : decode cX5_turn 29 = .ok (.iload_n 2, 1) := by decide +kernel
theorem dX5_turn_30 : decode cX5_turn 30 = .ok (.invokestatic 132, 3) := by decide +kernel
theorem dX5_turn_33 : decode cX5_turn 33 = .ok (.ireturn, 1) := by decide +kernel
set_option maxRecDepth 20000 in
theorem ggX5_as_X5_isHouse : GoodIn wsX5_as wsX5_isHouse := goodIn_r _ [9, 10, 11, 8, 12] (by decide +kernel) (by decide +kernel)
set_option maxRecDepth 20000 in
theorem gX5_as_X5_isHouse : GoodIn wsX5_as (va_wsS RX5 53 yX5_isHouse wsX5_isHouse) := goodIn_app (goodIn_of _ (by decide +kernel)) ggX5_as_X5_isHouse
set_option maxRecDepth 20000 in
theorem ggX5_as_X0_isKind : GoodIn wsX5_as wsX0_isKind := goodIn_r _ [16, 11, 8, 12] (by decide +kernel) (by decide +kernel)
set_option maxRecDepth 20000 in
theorem gX5_as_X0_isKind : GoodIn wsX5_as (va_wsS RX5 136 yX0_isKind wsX0_isKind) := goodIn_app (goodIn_of _ (by decide +kernel)) ggX5_as_X0_isKind
set_option maxRecDepth 20000 in
theorem ggX5_as_X5_finding : GoodIn wsX5_as wsX5_finding := goodIn_r _ [20, 1, 21, 10, 11, 8, 12, 28, 29, 30, 31, 32, 33, 34, 35] (by decide +kernel) (by decide +kernel)
set_option maxRecDepth 20000 in
theorem gX5_as_X5_finding : GoodIn wsX5_as (wsV RX5 62 RX5 yX5_finding wsX5_finding) := goodIn_app (goodIn_of _ (by decide +kernel)) ggX5_as_X5_finding
set_option maxRecDepth 20000 in
theorem ggX5_as_X0_isOneOf : GoodIn wsX5_as wsX0_isOneOf := goodIn_r _ [24, 25, 26, 15, 27] (by decide +kernel) (by decide +kernel)
set_option maxRecDepth 20000 in
theorem gX5_as_X0_isOneOf : GoodIn wsX5_as (va_wsS RX5 141 yX0_isOneOf wsX0_isOneOf) := goodIn_app (goodIn_of _ (by decide +kernel)) ggX5_as_X0_isOneOf
theorem dX5_as_0 : decode cX5_as 0 = .ok (.iload_n 1, 1) := by decide +kernel
theorem dX5_as_1 : decode cX5_as 1 = .ok (.invokestatic 53, 3) := by decide +kernel
theorem dX5_as_4 : decode cX5_as 4 = .ok (.ifCond .eq 10, 3) := by decide +kernel
theorem dX5_as_7 : decode cX5_as 7 = .ok (.iload_n 2, 1) := by decide +kernel
theorem dX5_as_8 : decode cX5_as 8 = .ok (.invokestatic 136, 3) := by decide +kernel
theorem dX5_as_11 : decode cX5_as 11 = .ok (.ifCond .ne 10, 3) := by decide +kernel
theorem dX5_as_14 : decode cX5_as 14 = .ok (.aload_n 0, 1) := by decide +kernel
theorem dX5_as_15 : decode cX5_as 15 = .ok (.ldc 61, 2) := by decide +kernel
theorem dX5_as_17 : decode cX5_as 17 = .ok (.invokevirtual 62, 3) := by decide +kernel
theorem dX5_as_20 : decode cX5_as 20 = .ok (.ireturn, 1) := by decide +kernel
theorem dX5_as_21 : decode cX5_as 21 = .ok (.aload_n 0, 1) := by decide +kernel
theorem dX5_as_22 : decode cX5_as 22 = .ok (.getfield 10, 3) := by decide +kernel
theorem dX5_as_25 : decode cX5_as 25 = .ok (.getfield 110, 3) := by decide +kernel
theorem dX5_as_28 : decode cX5_as 28 = .ok (.iload_n 1, 1) := by decide +kernel
theorem dX5_as_29 : decode cX5_as 29 = .ok (.iaload, 1) := by decide +kernel
theorem dX5_as_30 : decode cX5_as 30 = .ok (.iload_n 2, 1) := by decide +kernel
theorem dX5_as_31 : decode cX5_as 31 = .ok (.invokestatic 141, 3) := by decide +kernel
theorem dX5_as_34 : decode cX5_as 34 = .ok (.ifCond .ne 10, 3) := by decide +kernel
theorem dX5_as_37 : decode cX5_as 37 = .ok (.aload_n 0, 1) := by decide +kernel
theorem dX5_as_38 : decode cX5_as 38 = .ok (.ldc 145, 2) := by decide +kernel
theorem dX5_as_40 : decode cX5_as 40 = .ok (.invokevirtual 62, 3) := by decide +kernel
theorem dX5_as_43 : decode cX5_as 43 = .ok (.ireturn, 1) := by decide +kernel
theorem dX5_as_44 : decode cX5_as 44 = .ok (.aload_n 0, 1) := by decide +kernel
theorem dX5_as_45 : decode cX5_as 45 = .ok (.getfield 10, 3) := by decide +kernel
theorem dX5_as_48 : decode cX5_as 48 = .ok (.getfield 113, 3) := by decide +kernel
theorem dX5_as_51 : decode cX5_as 51 = .ok (.iload_n 1, 1) := by decide +kernel
theorem dX5_as_52 : decode cX5_as 52 = .ok (.iaload, 1) := by decide +kernel
theorem dX5_as_53 : decode cX5_as 53 = .ok (.ireturn, 1) := by decide +kernel
set_option maxRecDepth 20000 in
theorem ggX5_move_X5_isHouse : GoodIn wsX5_move wsX5_isHouse := goodIn_r _ [6, 7, 8, 5, 9] (by decide +kernel) (by decide +kernel)
set_option maxRecDepth 20000 in
theorem gX5_move_X5_isHouse : GoodIn wsX5_move (va_wsS RX5 53 yX5_isHouse wsX5_isHouse) := goodIn_app (goodIn_of _ (by decide +kernel)) ggX5_move_X5_isHouse
set_option maxRecDepth 20000 in
theorem ggX5_move_X5_finding : GoodIn wsX5_move wsX5_finding := goodIn_r _ [13, 1, 14, 7, 8, 5, 9, 26, 27, 28, 29, 30, 31, 32, 33] (by decide +kernel) (by decide +kernel)
set_option maxRecDepth 20000 in
theorem gX5_move_X5_finding : GoodIn wsX5_move (wsV RX5 62 RX5 yX5_finding wsX5_finding) := goodIn_app (goodIn_of _ (by decide +kernel)) ggX5_move_X5_finding
set_option maxRecDepth 20000 in
theorem ggX5_move_X3_changeFamilies : GoodIn wsX5_move wsX3_changeFamilies := goodIn_r _ [19, 20, 21, 22, 23, 24, 5, 25, 34, 35, 36, 37, 38, 39, 40, 41, 42, 43, 44] (by decide +kernel) (by decide +kernel)
set_option maxRecDepth 20000 in
theorem gX5_move_X3_changeFamilies : GoodIn wsX5_move (wsV RX5 146 RX3 yX3_changeFamilies wsX3_changeFamilies) := goodIn_app (goodIn_of _ (by decide +kernel)) ggX5_move_X3_changeFamilies
theorem dX5_move_0 : decode cX5_move 0 = .ok (.iload_n 1, 1) := by decide +kernel
theorem dX5_move_1 : decode cX5_move 1 = .ok (.invokestatic 53, 3) := by decide +kernel
theorem dX5_move_4 : decode cX5_move 4 = .ok (.ifCond .eq 15, 3) := by decide +kernel
theorem dX5_move_7 : decode cX5_move 7 = .ok (.iload_n 2, 1) := by decide +kernel
theorem dX5_move_8 : decode cX5_move 8 = .ok (.invokestatic 53, 3) := by decide +kernel
theorem dX5_move_11 : decode cX5_move 11 = .ok (.ifCond .eq 8, 3) := by decide +kernel
theorem dX5_move_14 : decode cX5_move 14 = .ok (.iload_n 1, 1) := by decide +kernel
theorem dX5_move_15 : decode cX5_move 15 = .ok (.iload_n 2, 1) := by decide +kernel
theorem dX5_move_16 : decode cX5_move 16 = .ok (.if_icmp .ne 10, 3) := by decide +kernel
theorem dX5_move_19 : decode cX5_move 19 = .ok (.aload_n 0, 1) := by decide +kernel
theorem dX5_move_20 : decode cX5_move 20 = .ok (.ldc 61, 2) := by decide +kernel
theorem dX5_move_22 : decode cX5_move 22 = .ok (.invokevirtual 62, 3) := by decide +kernel
theorem dX5_move_25 : decode cX5_move 25 = .ok (.ireturn, 1) := by decide +kernel
theorem dX5_move_26 : decode cX5_move 26 = .ok (.aload_n 0, 1) := by decide +kernel
theorem dX5_move_27 : decode cX5_move 27 = .ok (.getfield 10, 3) := by decide +kernel
theorem dX5_move_30 : decode cX5_move 30 = .ok (.iload_n 1, 1) := by decide +kernel
theorem dX5_move_31 : decode cX5_move 31 = .ok (.iload_n 2, 1) := by decide +kernel
theorem dX5_move_32 : decode cX5_move 32 = .ok (.invokevirtual 146, 3) := by decide +kernel
theorem dX5_move_35 : decode cX5_move 35 = .ok (.iconst 1, 1) := by decide +kernel
theorem dX5_move_36 : decode cX5_move 36 = .ok (.ireturn, 1) := by decide +kernel
set_option maxRecDepth 20000 in
theorem ggX5_hours_X5_isWithin : GoodIn wsX5_hours wsX5_isWithin := goodIn_r _ [10] (by decide +kernel) (by decide +kernel)
set_option maxRecDepth 20000 in
theorem gX5_hours_X5_isWithin : GoodIn wsX5_hours (va_wsS RX5 65 yX5_isWithin wsX5_isWithin) := goodIn_app (goodIn_of _ (by decide +kernel)) ggX5_hours_X5_isWithin
set_option maxRecDepth 20000 in
theorem ggX5_hours_X5_finding : GoodIn wsX5_hours wsX5_finding := goodIn_r _ [14, 1, 15, 7, 8, 9, 10, 85, 86, 87, 88, 89, 90, 91, 92] (by decide +kernel) (by decide +kernel)
set_option maxRecDepth 20000 in
theorem gX5_hours_X5_finding : GoodIn wsX5_hours (wsV RX5 62 RX5 yX5_finding wsX5_finding) := goodIn_app (goodIn_of _ (by decide +kernel)) ggX5_hours_X5_finding
set_option maxRecDepth 20000 in
theorem ggX5_hours_X3_goHours : GoodIn wsX5_hours wsX3_goHours := goodIn_r _ [20, 21, 22, 23, 19, 24, 25, 26, 27, 28, 29, 30, 31, 32, 33, 34, 35, 36, 37, 38, 39, 40, 41, 42, 43, 44, 45, 46, 47, 48, 49, 50, 51, 52, 53, 54, 55, 56, 57, 58, 9, 59, 60, 61, 62, 63, 64, 65, 66, 67, 68, 69, 70, 71, 72, 73, 74, 75, 76, 77, 78, 79, 80, 81, 82, 83, 84, 93, 94, 95, 96, 97, 98, 99, 100, 101, 102, 103] (by decide +kernel) (by decide +kernel)
set_option maxRecDepth 20000 in
theorem gX5_hours_X3_goHours : GoodIn wsX5_hours (wsV RX5 152 RX3 yX3_goHours wsX3_goHours) := goodIn_app (goodIn_of _ (by decide +kernel)) ggX5_hours_X3_goHours
theorem dX5_hours_0 : decode cX5_hours 0 = .ok (.iload_n 1, 1) := by decide +kernel
theorem dX5_hours_1 : decode cX5_hours 1 = .ok (.iconst 1, 1) := by decide +kernel
theorem dX5_hours_2 : decode cX5_hours 2 = .ok (.bipush 100, 2) := by decide +kernel
theorem dX5_hours_4 : decode cX5_hours 4 = .ok (.invokestatic 65, 3) := by decide +kernel
theorem dX5_hours_7 : decode cX5_hours 7 = .ok (.ifCond .ne 10, 3) := by decide +kernel
theorem dX5_hours_10 : decode cX5_hours 10 = .ok (.aload_n 0, 1) := by decide +kernel
theorem dX5_hours_11 : decode cX5_hours 11 = .ok (.ldc 61, 2) := by decide +kernel
theorem dX5_hours_13 : decode cX5_hours 13 = .ok (.invokevirtual 62, 3) := by decide +kernel
theorem dX5_hours_16 : decode cX5_hours 16 = .ok (.ireturn, 1) := by decide +kernel
theorem dX5_hours_17 : decode cX5_hours 17 = .ok (.aload_n 0, 1) := by decide +kernel
theorem dX5_hours_18 : decode cX5_hours 18 = .ok (.getfield 10, 3) := by decide +kernel
theorem dX5_hours_21 : decode cX5_hours 21 = .ok (.getfield 84, 3) := by decide +kernel
theorem dX5_hours_24 : decode cX5_hours 24 = .ok (.ldc 150, 2) := by decide +kernel
theorem dX5_hours_26 : decode cX5_hours 26 = .ok (.iload_n 1, 1) := by decide +kernel
theorem dX5_hours_27 : decode cX5_hours 27 = .ok (.isub, 1) := by decide +kernel
theorem dX5_hours_28 : decode cX5_hours 28 = .ok (.if_icmp .le 10, 3) := by decide +kernel
theorem dX5_hours_31 : decode cX5_hours 31 = .ok (.aload_n 0, 1) := by decide +kernel
theorem dX5_hours_32 : decode cX5_hours 32 = .ok (.ldc 151, 2) := by decide +kernel
theorem dX5_hours_34 : decode cX5_hours 34 = .ok (.invokevirtual 62, 3) := by decide +kernel
theorem dX5_hours_37 : decode cX5_hours 37 = .ok (.ireturn, 1) := by decide +kernel
theorem dX5_hours_38 : decode cX5_hours 38 = .ok (.aload_n 0, 1) := by decide +kernel
theorem dX5_hours_39 : decode cX5_hours 39 = .ok (.getfield 10, 3) := by decide +kernel
theorem dX5_hours_42 : decode cX5_hours 42 = .ok (.iload_n 1, 1) := by decide +kernel
theorem dX5_hours_43 : decode cX5_hours 43 = .ok (.invokevirtual 152, 3) := by decide +kernel
theorem dX5_hours_46 : decode cX5_hours 46 = .ok (.aload_n 0, 1) := by decide +kernel
theorem dX5_hours_47 : decode cX5_hours 47 = .ok (.getfield 10, 3) := by decide +kernel
theorem dX5_hours_50 : decode cX5_hours 50 = .ok (.getfield 103, 3) := by decide +kernel
theorem dX5_hours_53 : decode cX5_hours 53 = .ok (.ireturn, 1) := by decide +kernel
set_option maxRecDepth 20000 in
theorem ggX5_on_X5_isHouse : GoodIn wsX5_on wsX5_isHouse := goodIn_r _ [8, 9, 10, 7, 11] (by decide +kernel) (by decide +kernel)
set_option maxRecDepth 20000 in
theorem gX5_on_X5_isHouse : GoodIn wsX5_on (va_wsS RX5 53 yX5_isHouse wsX5_isHouse) := goodIn_app (goodIn_of _ (by decide +kernel)) ggX5_on_X5_isHouse
set_option maxRecDepth 20000 in
theorem ggX5_on_X5_isHoursOn : GoodIn wsX5_on wsX5_isHoursOn := goodIn_r _ [14, 9, 10, 7, 11] (by decide +kernel) (by decide +kernel)
set_option maxRecDepth 20000 in
theorem gX5_on_X5_isHoursOn : GoodIn wsX5_on (va_wsS RX5 156 yX5_isHoursOn wsX5_isHoursOn) := goodIn_app (goodIn_of _ (by decide +kernel)) ggX5_on_X5_isHoursOn
set_option maxRecDepth 20000 in
theorem ggX5_on_X5_isWithin : GoodIn wsX5_on wsX5_isWithin := goodIn_r _ [11] (by decide +kernel) (by decide +kernel)
set_option maxRecDepth 20000 in
theorem gX5_on_X5_isWithin : GoodIn wsX5_on (va_wsS RX5 65 yX5_isWithin wsX5_isWithin) := goodIn_app (goodIn_of _ (by decide +kernel)) ggX5_on_X5_isWithin
set_option maxRecDepth 20000 in
theorem ggX5_on_X5_finding : GoodIn wsX5_on wsX5_finding := goodIn_r _ [18, 1, 19, 9, 10, 7, 11, 102, 103, 104, 105, 106, 107, 108, 109] (by decide +kernel) (by decide +kernel)
set_option maxRecDepth 20000 in
theorem gX5_on_X5_finding : GoodIn wsX5_on (wsV RX5 62 RX5 yX5_finding wsX5_finding) := goodIn_app (goodIn_of _ (by decide +kernel)) ggX5_on_X5_finding
set_option maxRecDepth 20000 in
theorem ggX5_on_X5_goOn : GoodIn wsX5_on wsX5_goOn := goodIn_r _ [23, 2, 24, 25, 26, 27, 28, 29, 30, 31, 32, 33, 34, 35, 36, 37, 38, 39, 40, 41, 42, 43, 44, 45, 46, 47, 48, 49, 50, 51, 52, 53, 54, 55, 56, 57, 58, 59, 60, 61, 62, 63, 64, 65, 66, 67, 68, 69, 70, 71, 72, 73, 74, 75, 76, 77, 7, 78, 79, 80, 81, 82, 83, 84, 85, 86, 87, 88, 89, 90, 91, 92, 93, 94, 95, 96, 97, 98, 99, 100, 101, 102, 103, 104, 105, 106, 107, 108, 109, 110, 111, 112, 113, 114, 115, 116, 117, 118, 119, 120] (by decide +kernel) (by decide +kernel)
set_option maxRecDepth 20000 in
theorem gX5_on_X5_goOn : GoodIn wsX5_on (wsV RX5 159 RX5 yX5_goOn wsX5_goOn) := goodIn_app (goodIn_of _ (by decide +kernel)) ggX5_on_X5_goOn
theorem dX5_on_0 : decode cX5_on 0 = .ok (.iload_n 1, 1) := by decide +kernel
theorem dX5_on_1 : decode cX5_on 1 = .ok (.invokestatic 53, 3) := by decide +kernel
theorem dX5_on_4 : decode cX5_on 4 = .ok (.ifCond .eq 19, 3) := by decide +kernel
theorem dX5_on_7 : decode cX5_on 7 = .ok (.iload_n 2, 1) := by decide +kernel
theorem dX5_on_8 : decode cX5_on 8 = .ok (.invokestatic 156, 3) := by decide +kernel
theorem dX5_on_11 : decode cX5_on 11 = .ok (.ifCond .eq 12, 3) := by decide +kernel
theorem dX5_on_14 : decode cX5_on 14 = .ok (.iload_n 3, 1) := by decide +kernel
theorem dX5_on_15 : decode cX5_on 15 = .ok (.iconst 0, 1) := by decide +kernel
theorem dX5_on_16 : decode cX5_on 16 = .ok (.iconst 1, 1) := by decide +kernel
theorem dX5_on_17 : decode cX5_on 17 = .ok (.invokestatic 65, 3) := by decide +kernel
theorem dX5_on_20 : decode cX5_on 20 = .ok (.ifCond .ne 10, 3) := by decide +kernel
theorem dX5_on_23 : decode cX5_on 23 = .ok (.aload_n 0, 1) := by decide +kernel
theorem dX5_on_24 : decode cX5_on 24 = .ok (.ldc 61, 2) := by decide +kernel
theorem dX5_on_26 : decode cX5_on 26 = .ok (.invokevirtual 62, 3) := by decide +kernel
theorem dX5_on_29 : decode cX5_on 29 = .ok (.ireturn, 1) := by decide +kernel
theorem dX5_on_30 : decode cX5_on 30 = .ok (.aload_n 0, 1) := by decide +kernel
theorem dX5_on_31 : decode cX5_on 31 = .ok (.iload_n 2, 1) := by decide +kernel
theorem dX5_on_32 : decode cX5_on 32 = .ok (.invokevirtual 159, 3) := by decide +kernel
theorem dX5_on_35 : decode cX5_on 35 = .ok (.iload_n 3, 1) := by decide +kernel
theorem dX5_on_36 : decode cX5_on 36 = .ok (.ifCond .ne 15, 3) := by decide +kernel
theorem dX5_on_39 : decode cX5_on 39 = .ok (.aload_n 0, 1) := by decide +kernel
theorem dX5_on_40 : decode cX5_on 40 = .ok (.getfield 16, 3) := by decide +kernel
theorem dX5_on_43 : decode cX5_on 43 = .ok (.getfield 113, 3) := by decide +kernel
theorem dX5_on_46 : decode cX5_on 46 = .ok (.iload_n 1, 1) := by decide +kernel
theorem dX5_on_47 : decode cX5_on 47 = .ok (.iaload, 1) := by decide +kernel
theorem dX5_on_48 : decode cX5_on 48 = .ok (.goto 12, 3) := by decide +kernel
theorem dX5_on_51 : decode cX5_on 51 = .ok (.aload_n 0, 1) := by decide +kernel
theorem dX5_on_52 : decode cX5_on 52 = .ok (.getfield 16, 3) := by decide +kernel
theorem dX5_on_55 : decode cX5_on 55 = .ok (.getfield 119, 3) := by decide +kernel
theorem dX5_on_58 : decode cX5_on 58 = .ok (.iload_n 1, 1) := by decide +kernel
theorem dX5_on_59 : decode cX5_on 59 = .ok (.iaload, 1) := by decide +kernel
theorem dX5_on_60 : decode cX5_on 60 = .ok (.ireturn, 1) := by decide +kernel
set_option maxRecDepth 20000 in
theorem ggX5_rang_X5_isHoursOn : GoodIn wsX5_rang wsX5_isHoursOn := goodIn_r _ [7, 8, 9, 6, 10] (by decide +kernel) (by decide +kernel)
set_option maxRecDepth 20000 in
theorem gX5_rang_X5_isHoursOn : GoodIn wsX5_rang (va_wsS RX5 156 yX5_isHoursOn wsX5_isHoursOn) := goodIn_app (goodIn_of _ (by decide +kernel)) ggX5_rang_X5_isHoursOn
set_option maxRecDepth 20000 in
theorem ggX5_rang_X5_finding : GoodIn wsX5_rang wsX5_finding := goodIn_r _ [14, 1, 15, 8, 9, 6, 10, 98, 99, 100, 101, 102, 103, 104, 105] (by decide +kernel) (by decide +kernel)
set_option maxRecDepth 20000 in
theorem gX5_rang_X5_finding : GoodIn wsX5_rang (wsV RX5 62 RX5 yX5_finding wsX5_finding) := goodIn_app (goodIn_of _ (by decide +kernel)) ggX5_rang_X5_finding
set_option maxRecDepth 20000 in
theorem ggX5_rang_X5_goOn : GoodIn wsX5_rang wsX5_goOn := goodIn_r _ [19, 2, 20, 21, 22, 23, 24, 25, 26, 27, 28, 29, 30, 31, 32, 33, 34, 35, 36, 37, 38, 39, 40, 41, 42, 43, 44, 45, 46, 47, 48, 49, 50, 51, 52, 53, 54, 55, 56, 57, 58, 59, 60, 61, 62, 63, 64, 65, 66, 67, 68, 69, 70, 71, 72, 73, 6, 74, 75, 76, 77, 78, 79, 80, 81, 82, 83, 84, 85, 86, 87, 88, 89, 90, 91, 92, 93, 94, 95, 96, 97, 98, 99, 100, 101, 102, 103, 104, 105, 106, 107, 108, 109, 110, 111, 112, 113, 114, 115, 116] (by decide +kernel) (by decide +kernel)
set_option maxRecDepth 20000 in
theorem gX5_rang_X5_goOn : GoodIn wsX5_rang (wsV RX5 159 RX5 yX5_goOn wsX5_goOn) := goodIn_app (goodIn_of _ (by decide +kernel)) ggX5_rang_X5_goOn
theorem dX5_rang_0 : decode cX5_rang 0 = .ok (.iload_n 1, 1) := by decide +kernel
theorem dX5_rang_1 : decode cX5_rang 1 = .ok (.invokestatic 156, 3) := by decide +kernel
theorem dX5_rang_4 : decode cX5_rang 4 = .ok (.ifCond .ne 10, 3) := by decide +kernel
theorem dX5_rang_7 : decode cX5_rang 7 = .ok (.aload_n 0, 1) := by decide +kernel
theorem dX5_rang_8 : decode cX5_rang 8 = .ok (.ldc 61, 2) := by decide +kernel
theorem dX5_rang_10 : decode cX5_rang 10 = .ok (.invokevirtual 62, 3) := by decide +kernel
theorem dX5_rang_13 : decode cX5_rang 13 = .ok (.ireturn, 1) := by decide +kernel
theorem dX5_rang_14 : decode cX5_rang 14 = .ok (.aload_n 0, 1) := by decide +kernel
theorem dX5_rang_15 : decode cX5_rang 15 = .ok (.iload_n 1, 1) := by decide +kernel
theorem dX5_rang_16 : decode cX5_rang 16 = .ok (.invokevirtual 159, 3) := by decide +kernel
theorem dX5_rang_19 : decode cX5_rang 19 = .ok (.aload_n 0, 1) := by decide +kernel
theorem dX5_rang_20 : decode cX5_rang 20 = .ok (.getfield 16, 3) := by decide +kernel
theorem dX5_rang_23 : decode cX5_rang 23 = .ok (.getfield 97, 3) := by decide +kernel
theorem dX5_rang_26 : decode cX5_rang 26 = .ok (.ireturn, 1) := by decide +kernel
set_option maxRecDepth 20000 in
theorem ggX5_takings_X5_isHoursOn : GoodIn wsX5_takings wsX5_isHoursOn := goodIn_r _ [7, 8, 9, 6, 10] (by decide +kernel) (by decide +kernel)
set_option maxRecDepth 20000 in
theorem gX5_takings_X5_isHoursOn : GoodIn wsX5_takings (va_wsS RX5 156 yX5_isHoursOn wsX5_isHoursOn) := goodIn_app (goodIn_of _ (by decide +kernel)) ggX5_takings_X5_isHoursOn
set_option maxRecDepth 20000 in
theorem ggX5_takings_X5_finding : GoodIn wsX5_takings wsX5_finding := goodIn_r _ [14, 1, 15, 8, 9, 6, 10, 98, 99, 100, 101, 102, 103, 104, 105] (by decide +kernel) (by decide +kernel)
set_option maxRecDepth 20000 in
theorem gX5_takings_X5_finding : GoodIn wsX5_takings (wsV RX5 62 RX5 yX5_finding wsX5_finding) := goodIn_app (goodIn_of _ (by decide +kernel)) ggX5_takings_X5_finding
set_option maxRecDepth 20000 in
theorem ggX5_takings_X5_goOn : GoodIn wsX5_takings wsX5_goOn := goodIn_r _ [19, 2, 20, 21, 22, 23, 24, 25, 26, 27, 28, 29, 30, 31, 32, 33, 34, 35, 36, 37, 38, 39, 40, 41, 42, 43, 44, 45, 46, 47, 48, 49, 50, 51, 52, 53, 54, 55, 56, 57, 58, 59, 60, 61, 62, 63, 64, 65, 66, 67, 68, 69, 70, 71, 72, 73, 6, 74, 75, 76, 77, 78, 79, 80, 81, 82, 83, 84, 85, 86, 87, 88, 89, 90, 91, 92, 93, 94, 95, 96, 97, 98, 99, 100, 101, 102, 103, 104, 105, 106, 107, 108, 109, 110, 111, 112, 113, 114, 115, 116] (by decide +kernel) (by decide +kernel)
set_option maxRecDepth 20000 in
theorem gX5_takings_X5_goOn : GoodIn wsX5_takings (wsV RX5 159 RX5 yX5_goOn wsX5_goOn) := goodIn_app (goodIn_of _ (by decide +kernel)) ggX5_takings_X5_goOn
theorem dX5_takings_0 : decode cX5_takings 0 = .ok (.iload_n 1, 1) := by decide +kernel
theorem dX5_takings_1 : decode cX5_takings 1 = .ok (.invokestatic 156, 3) := by decide +kernel
theorem dX5_takings_4 : decode cX5_takings 4 = .ok (.ifCond .ne 10, 3) := by decide +kernel
theorem dX5_takings_7 : decode cX5_takings 7 = .ok (.aload_n 0, 1) := by decide +kernel
theorem dX5_takings_8 : decode cX5_takings 8 = .ok (.ldc 61, 2) := by decide +kernel
theorem dX5_takings_10 : decode cX5_takings 10 = .ok (.invokevirtual 62, 3) := by decide +kernel
theorem dX5_takings_13 : decode cX5_takings 13 = .ok (.ireturn, 1) := by decide +kernel
theorem dX5_takings_14 : decode cX5_takings 14 = .ok (.aload_n 0, 1) := by decide +kernel
theorem dX5_takings_15 : decode cX5_takings 15 = .ok (.iload_n 1, 1) := by decide +kernel
theorem dX5_takings_16 : decode cX5_takings 16 = .ok (.invokevirtual 159, 3) := by decide +kernel
theorem dX5_takings_19 : decode cX5_takings 19 = .ok (.aload_n 0, 1) := by decide +kernel
theorem dX5_takings_20 : decode cX5_takings 20 = .ok (.getfield 16, 3) := by decide +kernel
theorem dX5_takings_23 : decode cX5_takings 23 = .ok (.getfield 103, 3) := by decide +kernel
theorem dX5_takings_26 : decode cX5_takings 26 = .ok (.ireturn, 1) := by decide +kernel
set_option maxRecDepth 20000 in
theorem ggX5_moods_X5_isHoursOn : GoodIn wsX5_moods wsX5_isHoursOn := goodIn_r _ [7, 8, 9, 6, 10] (by decide +kernel) (by decide +kernel)
set_option maxRecDepth 20000 in
theorem gX5_moods_X5_isHoursOn : GoodIn wsX5_moods (va_wsS RX5 156 yX5_isHoursOn wsX5_isHoursOn) := goodIn_app (goodIn_of _ (by decide +kernel)) ggX5_moods_X5_isHoursOn
set_option maxRecDepth 20000 in
theorem ggX5_moods_X5_finding : GoodIn wsX5_moods wsX5_finding := goodIn_r _ [14, 1, 15, 8, 9, 6, 10, 101, 102, 103, 104, 105, 106, 107, 108] (by decide +kernel) (by decide +kernel)
set_option maxRecDepth 20000 in
theorem gX5_moods_X5_finding : GoodIn wsX5_moods (wsV RX5 62 RX5 yX5_finding wsX5_finding) := goodIn_app (goodIn_of _ (by decide +kernel)) ggX5_moods_X5_finding
set_option maxRecDepth 20000 in
theorem ggX5_moods_X5_goOn : GoodIn wsX5_moods wsX5_goOn := goodIn_r _ [19, 2, 20, 21, 22, 23, 24, 25, 26, 27, 28, 29, 30, 31, 32, 33, 34, 35, 36, 37, 38, 39, 40, 41, 42, 43, 44, 45, 46, 47, 48, 49, 50, 51, 52, 53, 54, 55, 56, 57, 58, 59, 60, 61, 62, 63, 64, 65, 66, 67, 68, 69, 70, 71, 72, 73, 6, 74, 75, 76, 77, 78, 79, 80, 81, 82, 83, 84, 85, 86, 87, 88, 89, 90, 91, 92, 93, 94, 95, 96, 97, 101, 102, 103, 104, 105, 106, 107, 108, 109, 110, 111, 112, 113, 114, 115, 116, 117, 118, 119] (by decide +kernel) (by decide +kernel)
set_option maxRecDepth 20000 in
theorem gX5_moods_X5_goOn : GoodIn wsX5_moods (wsV RX5 159 RX5 yX5_goOn wsX5_goOn) := goodIn_app (goodIn_of _ (by decide +kernel)) ggX5_moods_X5_goOn
set_option maxRecDepth 20000 in
theorem ggX5_moods_X5_sum : GoodIn wsX5_moods wsX5_sum := goodIn_r _ [100] (by decide +kernel) (by decide +kernel)
set_option maxRecDepth 20000 in
theorem gX5_moods_X5_sum : GoodIn wsX5_moods (va_wsS RX5 162 yX5_sum wsX5_sum) := goodIn_app (goodIn_of _ (by decide +kernel)) ggX5_moods_X5_sum
theorem dX5_moods_0 : decode cX5_moods 0 = .ok (.iload_n 1, 1) := by decide +kernel
theorem dX5_moods_1 : decode cX5_moods 1 = .ok (.invokestatic 156, 3) := by decide +kernel
theorem dX5_moods_4 : decode cX5_moods 4 = .ok (.ifCond .ne 10, 3) := by decide +kernel
theorem dX5_moods_7 : decode cX5_moods 7 = .ok (.aload_n 0, 1) := by decide +kernel
theorem dX5_moods_8 : decode cX5_moods 8 = .ok (.ldc 61, 2) := by decide +kernel
theorem dX5_moods_10 : decode cX5_moods 10 = .ok (.invokevirtual 62, 3) := by decide +kernel
theorem dX5_moods_13 : decode cX5_moods 13 = .ok (.ireturn, 1) := by decide +kernel
theorem dX5_moods_14 : decode cX5_moods 14 = .ok (.aload_n 0, 1) := by decide +kernel
theorem dX5_moods_15 : decode cX5_moods 15 = .ok (.iload_n 1, 1) := by decide +kernel
theorem dX5_moods_16 : decode cX5_moods 16 = .ok (.invokevirtual 159, 3) := by decide +kernel
theorem dX5_moods_19 : decode cX5_moods 19 = .ok (.aload_n 0, 1) := by decide +kernel
theorem dX5_moods_20 : decode cX5_moods 20 = .ok (.getfield 16, 3) := by decide +kernel
theorem dX5_moods_23 : decode cX5_moods 23 = .ok (.getfield 113, 3) := by decide +kernel
theorem dX5_moods_26 : decode cX5_moods 26 = .ok (.invokestatic 162, 3) := by decide +kernel
theorem dX5_moods_29 : decode cX5_moods 29 = .ok (.ireturn, 1) := by decide +kernel
set_option maxRecDepth 20000 in
theorem ggX5_empty_X3_become : GoodIn wsX5_empty wsX3_become := goodIn_r _ [9, 10, 11, 12, 13, 14, 15, 16, 17, 18, 19, 20, 21, 22, 23, 24, 96, 97, 98, 99, 100, 101, 102, 103, 104, 105, 106] (by decide +kernel) (by decide +kernel)
set_option maxRecDepth 20000 in
theorem gX5_empty_X3_become : GoodIn wsX5_empty (wsV RX5 166 RX3 yX3_become wsX3_become) := goodIn_app (goodIn_of _ (by decide +kernel)) ggX5_empty_X3_become
set_option maxRecDepth 20000 in
theorem ggX5_empty_X3_goHour : GoodIn wsX5_empty wsX3_goHour := goodIn_r _ [28, 14, 10, 29, 30, 31, 8, 32, 33, 34, 35, 36, 22, 11, 13, 23, 24, 37, 38, 39, 40, 41, 16, 42, 43, 44, 45, 17, 46, 47, 48, 49, 50, 51, 52, 53, 54, 55, 56, 57, 58, 59, 60, 61, 62, 63, 64, 65, 66, 67, 68, 69, 70, 15, 71, 72, 73, 74, 75, 76, 77, 78, 12, 96, 97, 98, 99, 100, 101, 102, 103, 104, 105, 106] (by decide +kernel) (by decide +kernel)
set_option maxRecDepth 20000 in
theorem gX5_empty_X3_goHour : GoodIn wsX5_empty (wsV RX5 170 RX3 yX3_goHour wsX3_goHour) := goodIn_app (goodIn_of _ (by decide +kernel)) ggX5_empty_X3_goHour
set_option maxRecDepth 20000 in
theorem ggX5_empty_X5_finding : GoodIn wsX5_empty wsX5_finding := goodIn_r _ [82, 83, 84, 85, 86, 54, 87, 88, 89, 90, 91, 92, 93, 94, 95] (by decide +kernel) (by decide +kernel)
set_option maxRecDepth 20000 in
theorem gX5_empty_X5_finding : GoodIn wsX5_empty (wsV RX5 62 RX5 yX5_finding wsX5_finding) := goodIn_app (goodIn_of _ (by decide +kernel)) ggX5_empty_X5_finding
theorem dX5_empty_0 : decode cX5_empty 0 = .ok (.aload_n 0, 1) := by decide +kernel
theorem dX5_empty_1 : decode cX5_empty 1 = .ok (.getfield 16, 3) := by decide +kernel
theorem dX5_empty_4 : decode cX5_empty 4 = .ok (.aload_n 0, 1) := by decide +kernel
theorem dX5_empty_5 : decode cX5_empty 5 = .ok (.getfield 10, 3) := by decide +kernel
theorem dX5_empty_8 : decode cX5_empty 8 = .ok (.invokevirtual 166, 3) := by decide +kernel
theorem dX5_empty_11 : decode cX5_empty 11 = .ok (.iconst 0, 1) := by decide +kernel
theorem dX5_empty_12 : decode cX5_empty 12 = .ok (.istore_n 1, 1) := by decide +kernel
theorem dX5_empty_13 : decode cX5_empty 13 = .ok (.iload_n 1, 1) := by decide +kernel
theorem dX5_empty_14 : decode cX5_empty 14 = .ok (.sipush 200, 3) := by decide +kernel
theorem dX5_empty_17 : decode cX5_empty 17 = .ok (.if_icmp .gt 28, 3) := by decide +kernel
theorem dX5_empty_20 : decode cX5_empty 20 = .ok (.aload_n 0, 1) := by decide +kernel
theorem dX5_empty_21 : decode cX5_empty 21 = .ok (.getfield 16, 3) := by decide +kernel
theorem dX5_empty_24 : decode cX5_empty 24 = .ok (.getfield 94, 3) := by decide +kernel
theorem dX5_empty_27 : decode cX5_empty 27 = .ok (.ifCond .ne 5, 3) := by decide +kernel
theorem dX5_empty_30 : decode cX5_empty 30 = .ok (.iload_n 1, 1) := by decide +kernel
theorem dX5_empty_31 : decode cX5_empty 31 = .ok (.ireturn, 1) := by decide +kernel
theorem dX5_empty_32 : decode cX5_empty 32 = .ok (.aload_n 0, 1) := by decide +kernel
theorem dX5_empty_33 : decode cX5_empty 33 = .ok (.getfield 16, 3) := by decide +kernel
theorem dX5_empty_36 : decode cX5_empty 36 = .ok (.invokevirtual 170, 3) := by decide +kernel
theorem dX5_empty_39 : decode cX5_empty 39 = .ok (.iinc 1 1, 3) := by decide +kernel
theorem dX5_empty_42 : decode cX5_empty 42 = .ok (.goto (-29), 3) := by decide +kernel
theorem dX5_empty_45 : decode cX5_empty 45 = .ok (.aload_n 0, 1) := by decide +kernel
theorem dX5_empty_46 : decode cX5_empty 46 = .ok (.ldc 173, 2) := by decide +kernel
theorem dX5_empty_48 : decode cX5_empty 48 = .ok (.invokevirtual 62, 3) := by decide +kernel
theorem dX5_empty_51 : decode cX5_empty 51 = .ok (.ireturn, 1) := by decide +kernel
set_option maxRecDepth 20000 in
theorem ggX5_comes_X5_isHouse : GoodIn wsX5_comes wsX5_isHouse := goodIn_r _ [9, 10, 11, 8, 12] (by decide +kernel) (by decide +kernel)
set_option maxRecDepth 20000 in
theorem gX5_comes_X5_isHouse : GoodIn wsX5_comes (va_wsS RX5 53 yX5_isHouse wsX5_isHouse) := goodIn_app (goodIn_of _ (by decide +kernel)) ggX5_comes_X5_isHouse
set_option maxRecDepth 20000 in
theorem ggX5_comes_X5_finding : GoodIn wsX5_comes wsX5_finding := goodIn_r _ [16, 1, 17, 10, 11, 8, 12, 91, 92, 93, 94, 95, 96, 97, 98] (by decide +kernel) (by decide +kernel)
set_option maxRecDepth 20000 in
theorem gX5_comes_X5_finding : GoodIn wsX5_comes (wsV RX5 62 RX5 yX5_finding wsX5_finding) := goodIn_app (goodIn_of _ (by decide +kernel)) ggX5_comes_X5_finding
set_option maxRecDepth 20000 in
theorem ggX5_comes_X3_become : GoodIn wsX5_comes wsX3_become := goodIn_r _ [22, 23, 24, 25, 26, 27, 28, 29, 30, 31, 32, 33, 34, 35, 36, 37, 99, 100, 101, 102, 103, 104, 105, 106, 107, 108, 109] (by decide +kernel) (by decide +kernel)
set_option maxRecDepth 20000 in
theorem gX5_comes_X3_become : GoodIn wsX5_comes (wsV RX5 166 RX3 yX3_become wsX3_become) := goodIn_app (goodIn_of _ (by decide +kernel)) ggX5_comes_X3_become
set_option maxRecDepth 20000 in
theorem ggX5_comes_X3_goHour : GoodIn wsX5_comes wsX3_goHour := goodIn_r _ [41, 27, 23, 42, 43, 44, 21, 45, 46, 47, 48, 49, 35, 24, 26, 36, 37, 50, 51, 52, 53, 54, 29, 55, 56, 57, 58, 30, 59, 60, 61, 62, 63, 64, 65, 66, 8, 67, 68, 69, 70, 71, 72, 73, 74, 75, 76, 77, 78, 79, 80, 81, 82, 28, 83, 84, 85, 86, 87, 88, 89, 90, 25, 99, 100, 101, 102, 103, 104, 105, 106, 107, 108, 109] (by decide +kernel) (by decide +kernel)
set_option maxRecDepth 20000 in
theorem gX5_comes_X3_goHour : GoodIn wsX5_comes (wsV RX5 170 RX3 yX3_goHour wsX3_goHour) := goodIn_app (goodIn_of _ (by decide +kernel)) ggX5_comes_X3_goHour
theorem dX5_comes_0 : decode cX5_comes 0 = .ok (.iload_n 1, 1) := by decide +kernel
theorem dX5_comes_1 : decode cX5_comes 1 = .ok (.invokestatic 53, 3) := by decide +kernel
theorem dX5_comes_4 : decode cX5_comes 4 = .ok (.ifCond .ne 10, 3) := by decide +kernel
theorem dX5_comes_7 : decode cX5_comes 7 = .ok (.aload_n 0, 1) := by decide +kernel
theorem dX5_comes_8 : decode cX5_comes 8 = .ok (.ldc 61, 2) := by decide +kernel
theorem dX5_comes_10 : decode cX5_comes 10 = .ok (.invokevirtual 62, 3) := by decide +kernel
theorem dX5_comes_13 : decode cX5_comes 13 = .ok (.ireturn, 1) := by decide +kernel
theorem dX5_comes_14 : decode cX5_comes 14 = .ok (.aload_n 0, 1) := by decide +kernel
theorem dX5_comes_15 : decode cX5_comes 15 = .ok (.getfield 16, 3) := by decide +kernel
theorem dX5_comes_18 : decode cX5_comes 18 = .ok (.aload_n 0, 1) := by decide +kernel
theorem dX5_comes_19 : decode cX5_comes 19 = .ok (.getfield 10, 3) := by decide +kernel
theorem dX5_comes_22 : decode cX5_comes 22 = .ok (.invokevirtual 166, 3) := by decide +kernel
theorem dX5_comes_25 : decode cX5_comes 25 = .ok (.iconst 0, 1) := by decide +kernel
theorem dX5_comes_26 : decode cX5_comes 26 = .ok (.istore_n 2, 1) := by decide +kernel
theorem dX5_comes_27 : decode cX5_comes 27 = .ok (.iload_n 2, 1) := by decide +kernel
theorem dX5_comes_28 : decode cX5_comes 28 = .ok (.sipush 200, 3) := by decide +kernel
theorem dX5_comes_31 : decode cX5_comes 31 = .ok (.if_icmp .gt 29, 3) := by decide +kernel
theorem dX5_comes_34 : decode cX5_comes 34 = .ok (.aload_n 0, 1) := by decide +kernel
theorem dX5_comes_35 : decode cX5_comes 35 = .ok (.getfield 16, 3) := by decide +kernel
theorem dX5_comes_38 : decode cX5_comes 38 = .ok (.getfield 88, 3) := by decide +kernel
theorem dX5_comes_41 : decode cX5_comes 41 = .ok (.iload_n 1, 1) := by decide +kernel
theorem dX5_comes_42 : decode cX5_comes 42 = .ok (.if_icmp .ne 5, 3) := by decide +kernel
theorem dX5_comes_45 : decode cX5_comes 45 = .ok (.iload_n 2, 1) := by decide +kernel
theorem dX5_comes_46 : decode cX5_comes 46 = .ok (.ireturn, 1) := by decide +kernel
theorem dX5_comes_47 : decode cX5_comes 47 = .ok (.aload_n 0, 1) := by decide +kernel
theorem dX5_comes_48 : decode cX5_comes 48 = .ok (.getfield 16, 3) := by decide +kernel
theorem dX5_comes_51 : decode cX5_comes 51 = .ok (.invokevirtual 170, 3) := by decide +kernel
theorem dX5_comes_54 : decode cX5_comes 54 = .ok (.iinc 2 1, 3) := by decide +kernel
theorem dX5_comes_57 : decode cX5_comes 57 = .ok (.goto (-30), 3) := by decide +kernel
theorem dX5_comes_60 : decode cX5_comes 60 = .ok (.aload_n 0, 1) := by decide +kernel
theorem dX5_comes_61 : decode cX5_comes 61 = .ok (.ldc 173, 2) := by decide +kernel
theorem dX5_comes_63 : decode cX5_comes 63 = .ok (.invokevirtual 62, 3) := by decide +kernel
theorem dX5_comes_66 : decode cX5_comes 66 = .ok (.ireturn, 1) := by decide +kernel
set_option maxRecDepth 20000 in
theorem ggX5_when_X5_isTone : GoodIn wsX5_when wsX5_isTone := goodIn_r _ [9, 10, 11, 8, 12] (by decide +kernel) (by decide +kernel)
set_option maxRecDepth 20000 in
theorem gX5_when_X5_isTone : GoodIn wsX5_when (va_wsS RX5 75 yX5_isTone wsX5_isTone) := goodIn_app (goodIn_of _ (by decide +kernel)) ggX5_when_X5_isTone
set_option maxRecDepth 20000 in
theorem ggX5_when_X5_finding : GoodIn wsX5_when wsX5_finding := goodIn_r _ [16, 1, 17, 10, 11, 8, 12, 91, 92, 93, 94, 95, 96, 97, 98] (by decide +kernel) (by decide +kernel)
set_option maxRecDepth 20000 in
theorem gX5_when_X5_finding : GoodIn wsX5_when (wsV RX5 62 RX5 yX5_finding wsX5_finding) := goodIn_app (goodIn_of _ (by decide +kernel)) ggX5_when_X5_finding
set_option maxRecDepth 20000 in
theorem ggX5_when_X3_become : GoodIn wsX5_when wsX3_become := goodIn_r _ [22, 23, 24, 25, 26, 27, 28, 29, 30, 31, 32, 33, 34, 35, 36, 37, 99, 100, 101, 102, 103, 104, 105, 106, 107, 108, 109] (by decide +kernel) (by decide +kernel)
set_option maxRecDepth 20000 in
theorem gX5_when_X3_become : GoodIn wsX5_when (wsV RX5 166 RX3 yX3_become wsX3_become) := goodIn_app (goodIn_of _ (by decide +kernel)) ggX5_when_X3_become
set_option maxRecDepth 20000 in
theorem ggX5_when_X3_goHour : GoodIn wsX5_when wsX3_goHour := goodIn_r _ [41, 27, 23, 42, 43, 44, 21, 45, 46, 47, 48, 49, 35, 24, 26, 36, 37, 50, 51, 52, 53, 54, 29, 55, 56, 57, 58, 30, 59, 60, 61, 62, 63, 64, 65, 66, 8, 67, 68, 69, 70, 71, 72, 73, 74, 75, 76, 77, 78, 79, 80, 81, 82, 28, 83, 84, 85, 86, 87, 88, 89, 90, 25, 99, 100, 101, 102, 103, 104, 105, 106, 107, 108, 109] (by decide +kernel) (by decide +kernel)
set_option maxRecDepth 20000 in
theorem gX5_when_X3_goHour : GoodIn wsX5_when (wsV RX5 170 RX3 yX3_goHour wsX3_goHour) := goodIn_app (goodIn_of _ (by decide +kernel)) ggX5_when_X3_goHour
theorem dX5_when_0 : decode cX5_when 0 = .ok (.iload_n 1, 1) := by decide +kernel
theorem dX5_when_1 : decode cX5_when 1 = .ok (.invokestatic 75, 3) := by decide +kernel
theorem dX5_when_4 : decode cX5_when 4 = .ok (.ifCond .ne 10, 3) := by decide +kernel
theorem dX5_when_7 : decode cX5_when 7 = .ok (.aload_n 0, 1) := by decide +kernel
theorem dX5_when_8 : decode cX5_when 8 = .ok (.ldc 61, 2) := by decide +kernel
theorem dX5_when_10 : decode cX5_when 10 = .ok (.invokevirtual 62, 3) := by decide +kernel
theorem dX5_when_13 : decode cX5_when 13 = .ok (.ireturn, 1) := by decide +kernel
theorem dX5_when_14 : decode cX5_when 14 = .ok (.aload_n 0, 1) := by decide +kernel
theorem dX5_when_15 : decode cX5_when 15 = .ok (.getfield 16, 3) := by decide +kernel
theorem dX5_when_18 : decode cX5_when 18 = .ok (.aload_n 0, 1) := by decide +kernel
theorem dX5_when_19 : decode cX5_when 19 = .ok (.getfield 10, 3) := by decide +kernel
theorem dX5_when_22 : decode cX5_when 22 = .ok (.invokevirtual 166, 3) := by decide +kernel
theorem dX5_when_25 : decode cX5_when 25 = .ok (.iconst 0, 1) := by decide +kernel
theorem dX5_when_26 : decode cX5_when 26 = .ok (.istore_n 2, 1) := by decide +kernel
theorem dX5_when_27 : decode cX5_when 27 = .ok (.iload_n 2, 1) := by decide +kernel
theorem dX5_when_28 : decode cX5_when 28 = .ok (.sipush 200, 3) := by decide +kernel
theorem dX5_when_31 : decode cX5_when 31 = .ok (.if_icmp .gt 29, 3) := by decide +kernel
theorem dX5_when_34 : decode cX5_when 34 = .ok (.aload_n 0, 1) := by decide +kernel
theorem dX5_when_35 : decode cX5_when 35 = .ok (.getfield 16, 3) := by decide +kernel
theorem dX5_when_38 : decode cX5_when 38 = .ok (.getfield 97, 3) := by decide +kernel
theorem dX5_when_41 : decode cX5_when 41 = .ok (.iload_n 1, 1) := by decide +kernel
theorem dX5_when_42 : decode cX5_when 42 = .ok (.if_icmp .ne 5, 3) := by decide +kernel
theorem dX5_when_45 : decode cX5_when 45 = .ok (.iload_n 2, 1) := by decide +kernel
theorem dX5_when_46 : decode cX5_when 46 = .ok (.ireturn, 1) := by decide +kernel
theorem dX5_when_47 : decode cX5_when 47 = .ok (.aload_n 0, 1) := by decide +kernel
theorem dX5_when_48 : decode cX5_when 48 = .ok (.getfield 16, 3) := by decide +kernel
theorem dX5_when_51 : decode cX5_when 51 = .ok (.invokevirtual 170, 3) := by decide +kernel
theorem dX5_when_54 : decode cX5_when 54 = .ok (.iinc 2 1, 3) := by decide +kernel
theorem dX5_when_57 : decode cX5_when 57 = .ok (.goto (-30), 3) := by decide +kernel
theorem dX5_when_60 : decode cX5_when 60 = .ok (.aload_n 0, 1) := by decide +kernel
theorem dX5_when_61 : decode cX5_when 61 = .ok (.ldc 173, 2) := by decide +kernel
theorem dX5_when_63 : decode cX5_when 63 = .ok (.invokevirtual 62, 3) := by decide +kernel
theorem dX5_when_66 : decode cX5_when 66 = .ok (.ireturn, 1) := by decide +kernel
set_option maxRecDepth 20000 in
theorem ggX5_begin_X5_isHoursWeighed : GoodIn wsX5_begin wsX5_isHoursWeighed := goodIn_r _ [9, 10, 11, 8, 12] (by decide +kernel) (by decide +kernel)
set_option maxRecDepth 20000 in
theorem gX5_begin_X5_isHoursWeighed : GoodIn wsX5_begin (va_wsS RX5 174 yX5_isHoursWeighed wsX5_isHoursWeighed) := goodIn_app (goodIn_of _ (by decide +kernel)) ggX5_begin_X5_isHoursWeighed
set_option maxRecDepth 20000 in
theorem ggX5_begin_X5_finding : GoodIn wsX5_begin wsX5_finding := goodIn_r _ [16, 1, 17, 10, 11, 8, 12, 95, 96, 97, 98, 99, 100, 101, 102] (by decide +kernel) (by decide +kernel)
set_option maxRecDepth 20000 in
theorem gX5_begin_X5_finding : GoodIn wsX5_begin (wsV RX5 62 RX5 yX5_finding wsX5_finding) := goodIn_app (goodIn_of _ (by decide +kernel)) ggX5_begin_X5_finding
set_option maxRecDepth 20000 in
theorem ggX5_begin_X3_become : GoodIn wsX5_begin wsX3_become := goodIn_r _ [22, 23, 24, 25, 26, 27, 28, 29, 30, 31, 32, 33, 34, 35, 36, 37, 103, 104, 105, 106, 107, 108, 109, 110, 111, 112, 113] (by decide +kernel) (by decide +kernel)
set_option maxRecDepth 20000 in
theorem gX5_begin_X3_become : GoodIn wsX5_begin (wsV RX5 166 RX3 yX3_become wsX3_become) := goodIn_app (goodIn_of _ (by decide +kernel)) ggX5_begin_X3_become
set_option maxRecDepth 20000 in
theorem ggX5_begin_X3_goHours : GoodIn wsX5_begin wsX3_goHours := goodIn_r _ [41, 42, 43, 44, 21, 45, 27, 23, 46, 47, 48, 49, 50, 51, 52, 53, 35, 24, 26, 36, 37, 54, 55, 56, 57, 58, 29, 59, 60, 61, 62, 30, 63, 64, 65, 66, 67, 68, 69, 70, 8, 71, 72, 73, 74, 75, 76, 77, 78, 79, 80, 81, 82, 83, 84, 85, 86, 28, 87, 88, 89, 90, 91, 92, 93, 94, 25, 103, 104, 105, 106, 107, 108, 109, 110, 111, 112, 113] (by decide +kernel) (by decide +kernel)
set_option maxRecDepth 20000 in
theorem gX5_begin_X3_goHours : GoodIn wsX5_begin (wsV RX5 152 RX3 yX3_goHours wsX3_goHours) := goodIn_app (goodIn_of _ (by decide +kernel)) ggX5_begin_X3_goHours
theorem dX5_begin_0 : decode cX5_begin 0 = .ok (.iload_n 1, 1) := by decide +kernel
theorem dX5_begin_1 : decode cX5_begin 1 = .ok (.invokestatic 174, 3) := by decide +kernel
theorem dX5_begin_4 : decode cX5_begin 4 = .ok (.ifCond .ne 10, 3) := by decide +kernel
theorem dX5_begin_7 : decode cX5_begin 7 = .ok (.aload_n 0, 1) := by decide +kernel
theorem dX5_begin_8 : decode cX5_begin 8 = .ok (.ldc 61, 2) := by decide +kernel
theorem dX5_begin_10 : decode cX5_begin 10 = .ok (.invokevirtual 62, 3) := by decide +kernel
theorem dX5_begin_13 : decode cX5_begin 13 = .ok (.ireturn, 1) := by decide +kernel
theorem dX5_begin_14 : decode cX5_begin 14 = .ok (.iconst 0, 1) := by decide +kernel
theorem dX5_begin_15 : decode cX5_begin 15 = .ok (.istore_n 2, 1) := by decide +kernel
theorem dX5_begin_16 : decode cX5_begin 16 = .ok (.iconst (-1), 1) := by decide +kernel
theorem dX5_begin_17 : decode cX5_begin 17 = .ok (.istore_n 3, 1) := by decide +kernel
theorem dX5_begin_18 : decode cX5_begin 18 = .ok (.iconst 0, 1) := by decide +kernel
theorem dX5_begin_19 : decode cX5_begin 19 = .ok (.istore 4, 2) := by decide +kernel
theorem dX5_begin_21 : decode cX5_begin 21 = .ok (.iload 4, 2) := by decide +kernel
theorem dX5_begin_23 : decode cX5_begin 23 = .ok (.bipush 8, 2) := by decide +kernel
theorem dX5_begin_25 : decode cX5_begin 25 = .ok (.if_icmp .ge 59, 3) := by decide +kernel
theorem dX5_begin_28 : decode cX5_begin 28 = .ok (.aload_n 0, 1) := by decide +kernel
theorem dX5_begin_29 : decode cX5_begin 29 = .ok (.getfield 16, 3) := by decide +kernel
theorem dX5_begin_32 : decode cX5_begin 32 = .ok (.aload_n 0, 1) := by decide +kernel
theorem dX5_begin_33 : decode cX5_begin 33 = .ok (.getfield 10, 3) := by decide +kernel
theorem dX5_begin_36 : decode cX5_begin 36 = .ok (.invokevirtual 166, 3) := by decide +kernel
theorem dX5_begin_39 : decode cX5_begin 39 = .ok (.aload_n 0, 1) := by decide +kernel
theorem dX5_begin_40 : decode cX5_begin 40 = .ok (.getfield 16, 3) := by decide +kernel
theorem dX5_begin_43 : decode cX5_begin 43 = .ok (.iload 4, 2) := by decide +kernel
theorem dX5_begin_45 : decode cX5_begin 45 = .ok (.putfield 88, 3) := by decide +kernel
theorem dX5_begin_48 : decode cX5_begin 48 = .ok (.aload_n 0, 1) := by decide +kernel
theorem dX5_begin_49 : decode cX5_begin 49 = .ok (.getfield 16, 3) := by decide +kernel
theorem dX5_begin_52 : decode cX5_begin 52 = .ok (.iload_n 1, 1) := by decide +kernel
theorem dX5_begin_53 : decode cX5_begin 53 = .ok (.invokevirtual 152, 3) := by decide +kernel
theorem dX5_begin_56 : decode cX5_begin 56 = .ok (.aload_n 0, 1) := by decide +kernel
theorem dX5_begin_57 : decode cX5_begin 57 = .ok (.getfield 16, 3) := by decide +kernel
theorem dX5_begin_60 : decode cX5_begin 60 = .ok (.getfield 103, 3) := by decide +kernel
theorem dX5_begin_63 : decode cX5_begin 63 = .ok (.iload_n 3, 1) := by decide +kernel
theorem dX5_begin_64 : decode cX5_begin 64 = .ok (.if_icmp .le 14, 3) := by decide +kernel
theorem dX5_begin_67 : decode cX5_begin 67 = .ok (.aload_n 0, 1) := by decide +kernel
theorem dX5_begin_68 : decode cX5_begin 68 = .ok (.getfield 16, 3) := by decide +kernel
theorem dX5_begin_71 : decode cX5_begin 71 = .ok (.getfield 103, 3) := by decide +kernel
theorem dX5_begin_74 : decode cX5_begin 74 = .ok (.istore_n 3, 1) := by decide +kernel
theorem dX5_begin_75 : decode cX5_begin 75 = .ok (.iload 4, 2) := by decide +kernel
theorem dX5_begin_77 : decode cX5_begin 77 = .ok (.istore_n 2, 1) := by decide +kernel
theorem dX5_begin_78 : decode cX5_begin 78 = .ok (.iinc 4 1, 3) := by decide +kernel
theorem dX5_begin_81 : decode cX5_begin 81 = .ok (.goto (-60), 3) := by decide +kernel
theorem dX5_begin_84 : decode cX5_begin 84 = .ok (.iload_n 2, 1) := by decide +kernel
theorem dX5_begin_85 : decode cX5_begin 85 = .ok (.ireturn, 1) := by decide +kernel
set_option maxRecDepth 20000 in
theorem ggX5_way_X5_isHoursWeighed : GoodIn wsX5_way wsX5_isHoursWeighed := goodIn_r _ [5, 6, 7, 4, 8] (by decide +kernel) (by decide +kernel)
set_option maxRecDepth 20000 in
theorem gX5_way_X5_isHoursWeighed : GoodIn wsX5_way (va_wsS RX5 174 yX5_isHoursWeighed wsX5_isHoursWeighed) := goodIn_app (goodIn_of _ (by decide +kernel)) ggX5_way_X5_isHoursWeighed
set_option maxRecDepth 20000 in
theorem ggX5_way_X5_finding : GoodIn wsX5_way wsX5_finding := goodIn_r _ [12, 1, 13, 6, 7, 4, 8, 102, 103, 104, 105, 106, 107, 108, 109] (by decide +kernel) (by decide +kernel)
set_option maxRecDepth 20000 in
theorem gX5_way_X5_finding : GoodIn wsX5_way (wsV RX5 62 RX5 yX5_finding wsX5_finding) := goodIn_app (goodIn_of _ (by decide +kernel)) ggX5_way_X5_finding
set_option maxRecDepth 20000 in
theorem ggX5_way_X5_moodsGoing : GoodIn wsX5_way wsX5_moodsGoing := goodIn_r _ [17, 18, 19, 20, 21, 22, 23, 24, 25, 26, 27, 28, 29, 30, 31, 32, 33, 34, 35, 36, 37, 38, 39, 40, 41, 42, 43, 44, 45, 46, 47, 48, 49, 50, 51, 52, 53, 54, 55, 56, 57, 58, 59, 60, 61, 62, 63, 64, 65, 66, 67, 68, 69, 70, 71, 72, 73, 74, 4, 75, 76, 77, 78, 79, 80, 81, 82, 83, 84, 85, 86, 87, 88, 89, 90, 91, 92, 93, 94, 95, 96, 97, 98, 99, 100, 101, 102, 103, 104, 105, 106, 107, 108, 109, 110, 111, 112, 113, 114, 115, 116, 117, 118, 119, 120] (by decide +kernel) (by decide +kernel)
set_option maxRecDepth 20000 in
theorem gX5_way_X5_moodsGoing : GoodIn wsX5_way (wsV RX5 177 RX5 yX5_moodsGoing wsX5_moodsGoing) := goodIn_app (goodIn_of _ (by decide +kernel)) ggX5_way_X5_moodsGoing
theorem dX5_way_0 : decode cX5_way 0 = .ok (.iload_n 1, 1) := by decide +kernel
theorem dX5_way_1 : decode cX5_way 1 = .ok (.invokestatic 174, 3) := by decide +kernel
theorem dX5_way_4 : decode cX5_way 4 = .ok (.ifCond .ne 10, 3) := by decide +kernel
theorem dX5_way_7 : decode cX5_way 7 = .ok (.aload_n 0, 1) := by decide +kernel
theorem dX5_way_8 : decode cX5_way 8 = .ok (.ldc 61, 2) := by decide +kernel
theorem dX5_way_10 : decode cX5_way 10 = .ok (.invokevirtual 62, 3) := by decide +kernel
theorem dX5_way_13 : decode cX5_way 13 = .ok (.ireturn, 1) := by decide +kernel
theorem dX5_way_14 : decode cX5_way 14 = .ok (.aload_n 0, 1) := by decide +kernel
theorem dX5_way_15 : decode cX5_way 15 = .ok (.iconst 1, 1) := by decide +kernel
theorem dX5_way_16 : decode cX5_way 16 = .ok (.iload_n 1, 1) := by decide +kernel
theorem dX5_way_17 : decode cX5_way 17 = .ok (.invokevirtual 177, 3) := by decide +kernel
theorem dX5_way_20 : decode cX5_way 20 = .ok (.aload_n 0, 1) := by decide +kernel
theorem dX5_way_21 : decode cX5_way 21 = .ok (.iconst 0, 1) := by decide +kernel
theorem dX5_way_22 : decode cX5_way 22 = .ok (.iload_n 1, 1) := by decide +kernel
theorem dX5_way_23 : decode cX5_way 23 = .ok (.invokevirtual 177, 3) := by decide +kernel
theorem dX5_way_26 : decode cX5_way 26 = .ok (.if_icmp .le 7, 3) := by decide +kernel
theorem dX5_way_29 : decode cX5_way 29 = .ok (.iconst 1, 1) := by decide +kernel
theorem dX5_way_30 : decode cX5_way 30 = .ok (.goto 4, 3) := by decide +kernel
theorem dX5_way_33 : decode cX5_way 33 = .ok (.iconst 0, 1) := by decide +kernel
theorem dX5_way_34 : decode cX5_way 34 = .ok (.ireturn, 1) := by decide +kernel
set_option maxRecDepth 20000 in
theorem ggX5_mood_X5_isHouse : GoodIn wsX5_mood wsX5_isHouse := goodIn_r _ [9, 10, 11, 8, 12] (by decide +kernel) (by decide +kernel)
set_option maxRecDepth 20000 in
theorem gX5_mood_X5_isHouse : GoodIn wsX5_mood (va_wsS RX5 53 yX5_isHouse wsX5_isHouse) := goodIn_app (goodIn_of _ (by decide +kernel)) ggX5_mood_X5_isHouse
set_option maxRecDepth 20000 in
theorem ggX5_mood_X5_isHoursWeighed : GoodIn wsX5_mood wsX5_isHoursWeighed := goodIn_r _ [15, 10, 11, 8, 12] (by decide +kernel) (by decide +kernel)
set_option maxRecDepth 20000 in
theorem gX5_mood_X5_isHoursWeighed : GoodIn wsX5_mood (va_wsS RX5 174 yX5_isHoursWeighed wsX5_isHoursWeighed) := goodIn_app (goodIn_of _ (by decide +kernel)) ggX5_mood_X5_isHoursWeighed
set_option maxRecDepth 20000 in
theorem ggX5_mood_X5_finding : GoodIn wsX5_mood wsX5_finding := goodIn_r _ [19, 1, 20, 10, 11, 8, 12, 98, 99, 100, 101, 102, 103, 104, 105] (by decide +kernel) (by decide +kernel)
set_option maxRecDepth 20000 in
theorem gX5_mood_X5_finding : GoodIn wsX5_mood (wsV RX5 62 RX5 yX5_finding wsX5_finding) := goodIn_app (goodIn_of _ (by decide +kernel)) ggX5_mood_X5_finding
set_option maxRecDepth 20000 in
theorem ggX5_mood_X3_become : GoodIn wsX5_mood wsX3_become := goodIn_r _ [25, 26, 27, 28, 29, 30, 31, 32, 33, 34, 35, 36, 37, 38, 39, 40, 106, 107, 108, 109, 110, 111, 112, 113, 114, 115, 116] (by decide +kernel) (by decide +kernel)
set_option maxRecDepth 20000 in
theorem gX5_mood_X3_become : GoodIn wsX5_mood (wsV RX5 166 RX3 yX3_become wsX3_become) := goodIn_app (goodIn_of _ (by decide +kernel)) ggX5_mood_X3_become
set_option maxRecDepth 20000 in
theorem ggX5_mood_X3_goHours : GoodIn wsX5_mood wsX3_goHours := goodIn_r _ [44, 45, 46, 47, 24, 48, 30, 26, 49, 50, 51, 52, 53, 54, 55, 56, 38, 27, 29, 39, 40, 57, 58, 59, 60, 61, 32, 62, 63, 64, 65, 33, 66, 67, 68, 69, 70, 71, 72, 73, 8, 74, 75, 76, 77, 78, 79, 80, 81, 82, 83, 84, 85, 86, 87, 88, 89, 31, 90, 91, 92, 93, 94, 95, 96, 97, 28, 106, 107, 108, 109, 110, 111, 112, 113, 114, 115, 116] (by decide +kernel) (by decide +kernel)
set_option maxRecDepth 20000 in
theorem gX5_mood_X3_goHours : GoodIn wsX5_mood (wsV RX5 152 RX3 yX3_goHours wsX3_goHours) := goodIn_app (goodIn_of _ (by decide +kernel)) ggX5_mood_X3_goHours
theorem dX5_mood_0 : decode cX5_mood 0 = .ok (.iload_n 1, 1) := by decide +kernel
theorem dX5_mood_1 : decode cX5_mood 1 = .ok (.invokestatic 53, 3) := by decide +kernel
theorem dX5_mood_4 : decode cX5_mood 4 = .ok (.ifCond .eq 10, 3) := by decide +kernel
theorem dX5_mood_7 : decode cX5_mood 7 = .ok (.iload_n 2, 1) := by decide +kernel
theorem dX5_mood_8 : decode cX5_mood 8 = .ok (.invokestatic 174, 3) := by decide +kernel
theorem dX5_mood_11 : decode cX5_mood 11 = .ok (.ifCond .ne 10, 3) := by decide +kernel
theorem dX5_mood_14 : decode cX5_mood 14 = .ok (.aload_n 0, 1) := by decide +kernel
theorem dX5_mood_15 : decode cX5_mood 15 = .ok (.ldc 61, 2) := by decide +kernel
theorem dX5_mood_17 : decode cX5_mood 17 = .ok (.invokevirtual 62, 3) := by decide +kernel
theorem dX5_mood_20 : decode cX5_mood 20 = .ok (.ireturn, 1) := by decide +kernel
theorem dX5_mood_21 : decode cX5_mood 21 = .ok (.iconst 0, 1) := by decide +kernel
theorem dX5_mood_22 : decode cX5_mood 22 = .ok (.istore_n 3, 1) := by decide +kernel
theorem dX5_mood_23 : decode cX5_mood 23 = .ok (.iconst (-1), 1) := by decide +kernel
theorem dX5_mood_24 : decode cX5_mood 24 = .ok (.istore 4, 2) := by decide +kernel
theorem dX5_mood_26 : decode cX5_mood 26 = .ok (.iconst 0, 1) := by decide +kernel
theorem dX5_mood_27 : decode cX5_mood 27 = .ok (.istore 5, 2) := by decide +kernel
theorem dX5_mood_29 : decode cX5_mood 29 = .ok (.iload 5, 2) := by decide +kernel
theorem dX5_mood_31 : decode cX5_mood 31 = .ok (.bipush 20, 2) := by decide +kernel
theorem dX5_mood_33 : decode cX5_mood 33 = .ok (.if_icmp .gt 63, 3) := by decide +kernel
theorem dX5_mood_36 : decode cX5_mood 36 = .ok (.aload_n 0, 1) := by decide +kernel
theorem dX5_mood_37 : decode cX5_mood 37 = .ok (.getfield 16, 3) := by decide +kernel
theorem dX5_mood_40 : decode cX5_mood 40 = .ok (.aload_n 0, 1) := by decide +kernel
theorem dX5_mood_41 : decode cX5_mood 41 = .ok (.getfield 10, 3) := by decide +kernel
theorem dX5_mood_44 : decode cX5_mood 44 = .ok (.invokevirtual 166, 3) := by decide +kernel
theorem dX5_mood_47 : decode cX5_mood 47 = .ok (.aload_n 0, 1) := by decide +kernel
theorem dX5_mood_48 : decode cX5_mood 48 = .ok (.getfield 16, 3) := by decide +kernel
theorem dX5_mood_51 : decode cX5_mood 51 = .ok (.getfield 113, 3) := by decide +kernel
theorem dX5_mood_54 : decode cX5_mood 54 = .ok (.iload_n 1, 1) := by decide +kernel
theorem dX5_mood_55 : decode cX5_mood 55 = .ok (.iload 5, 2) := by decide +kernel
theorem dX5_mood_57 : decode cX5_mood 57 = .ok (.iastore, 1) := by decide +kernel
theorem dX5_mood_58 : decode cX5_mood 58 = .ok (.aload_n 0, 1) := by decide +kernel
theorem dX5_mood_59 : decode cX5_mood 59 = .ok (.getfield 16, 3) := by decide +kernel
theorem dX5_mood_62 : decode cX5_mood 62 = .ok (.iload_n 2, 1) := by decide +kernel
theorem dX5_mood_63 : decode cX5_mood 63 = .ok (.invokevirtual 152, 3) := by decide +kernel
theorem dX5_mood_66 : decode cX5_mood 66 = .ok (.aload_n 0, 1) := by decide +kernel
theorem dX5_mood_67 : decode cX5_mood 67 = .ok (.getfield 16, 3) := by decide +kernel
theorem dX5_mood_70 : decode cX5_mood 70 = .ok (.getfield 103, 3) := by decide +kernel
theorem dX5_mood_73 : decode cX5_mood 73 = .ok (.iload 4, 2) := by decide +kernel
theorem dX5_mood_75 : decode cX5_mood 75 = .ok (.if_icmp .le 15, 3) := by decide +kernel
theorem dX5_mood_78 : decode cX5_mood 78 = .ok (.aload_n 0, 1) := by decide +kernel
theorem dX5_mood_79 : decode cX5_mood 79 = .ok (.getfield 16, 3) := by decide +kernel
theorem dX5_mood_82 : decode cX5_mood 82 = .ok (.getfield 103, 3) := by decide +kernel
theorem dX5_mood_85 : decode cX5_mood 85 = .ok (.istore 4, 2) := by decide +kernel
theorem dX5_mood_87 : decode cX5_mood 87 = .ok (.iload 5, 2) := by decide +kernel
theorem dX5_mood_89 : decode cX5_mood 89 = .ok (.istore_n 3, 1) := by decide +kernel
theorem dX5_mood_90 : decode cX5_mood 90 = .ok (.iinc 5 1, 3) := by decide +kernel
theorem dX5_mood_93 : decode cX5_mood 93 = .ok (.goto (-64), 3) := by decide +kernel
theorem dX5_mood_96 : decode cX5_mood 96 = .ok (.iload_n 3, 1) := by decide +kernel
theorem dX5_mood_97 : decode cX5_mood 97 = .ok (.ireturn, 1) := by decide +kernel
set_option maxRecDepth 20000 in
theorem ggX5_kind_X5_isHouse : GoodIn wsX5_kind wsX5_isHouse := goodIn_r _ [9, 10, 11, 8, 12] (by decide +kernel) (by decide +kernel)
set_option maxRecDepth 20000 in
theorem gX5_kind_X5_isHouse : GoodIn wsX5_kind (va_wsS RX5 53 yX5_isHouse wsX5_isHouse) := goodIn_app (goodIn_of _ (by decide +kernel)) ggX5_kind_X5_isHouse
set_option maxRecDepth 20000 in
theorem ggX5_kind_X5_isHoursWeighed : GoodIn wsX5_kind wsX5_isHoursWeighed := goodIn_r _ [15, 10, 11, 8, 12] (by decide +kernel) (by decide +kernel)
set_option maxRecDepth 20000 in
theorem gX5_kind_X5_isHoursWeighed : GoodIn wsX5_kind (va_wsS RX5 174 yX5_isHoursWeighed wsX5_isHoursWeighed) := goodIn_app (goodIn_of _ (by decide +kernel)) ggX5_kind_X5_isHoursWeighed
set_option maxRecDepth 20000 in
theorem ggX5_kind_X5_finding : GoodIn wsX5_kind wsX5_finding := goodIn_r _ [19, 1, 20, 10, 11, 8, 12, 98, 99, 100, 101, 102, 103, 104, 105] (by decide +kernel) (by decide +kernel)
set_option maxRecDepth 20000 in
theorem gX5_kind_X5_finding : GoodIn wsX5_kind (wsV RX5 62 RX5 yX5_finding wsX5_finding) := goodIn_app (goodIn_of _ (by decide +kernel)) ggX5_kind_X5_finding
set_option maxRecDepth 20000 in
theorem ggX5_kind_X3_become : GoodIn wsX5_kind wsX3_become := goodIn_r _ [25, 26, 27, 28, 29, 30, 31, 32, 33, 34, 35, 36, 37, 38, 39, 40, 106, 107, 108, 109, 110, 111, 112, 113, 114, 115, 116] (by decide +kernel) (by decide +kernel)
set_option maxRecDepth 20000 in
theorem gX5_kind_X3_become : GoodIn wsX5_kind (wsV RX5 166 RX3 yX3_become wsX3_become) := goodIn_app (goodIn_of _ (by decide +kernel)) ggX5_kind_X3_become
set_option maxRecDepth 20000 in
theorem ggX5_kind_X3_goHours : GoodIn wsX5_kind wsX3_goHours := goodIn_r _ [44, 45, 46, 47, 24, 48, 30, 26, 49, 50, 51, 52, 53, 54, 55, 56, 38, 27, 29, 39, 40, 57, 58, 59, 60, 61, 32, 62, 63, 64, 65, 33, 66, 67, 68, 69, 70, 71, 72, 73, 8, 74, 75, 76, 77, 78, 79, 80, 81, 82, 83, 84, 85, 86, 87, 88, 89, 31, 90, 91, 92, 93, 94, 95, 96, 97, 28, 106, 107, 108, 109, 110, 111, 112, 113, 114, 115, 116] (by decide +kernel) (by decide +kernel)
set_option maxRecDepth 20000 in
theorem gX5_kind_X3_goHours : GoodIn wsX5_kind (wsV RX5 152 RX3 yX3_goHours wsX3_goHours) := goodIn_app (goodIn_of _ (by decide +kernel)) ggX5_kind_X3_goHours
theorem dX5_kind_0 : decode cX5_kind 0 = .ok (.iload_n 1, 1) := by decide +kernel
theorem dX5_kind_1 : decode cX5_kind 1 = .ok (.invokestatic 53, 3) := by decide +kernel
theorem dX5_kind_4 : decode cX5_kind 4 = .ok (.ifCond .eq 10, 3) := by decide +kernel
theorem dX5_kind_7 : decode cX5_kind 7 = .ok (.iload_n 2, 1) := by decide +kernel
theorem dX5_kind_8 : decode cX5_kind 8 = .ok (.invokestatic 174, 3) := by decide +kernel
theorem dX5_kind_11 : decode cX5_kind 11 = .ok (.ifCond .ne 10, 3) := by decide +kernel
theorem dX5_kind_14 : decode cX5_kind 14 = .ok (.aload_n 0, 1) := by decide +kernel
theorem dX5_kind_15 : decode cX5_kind 15 = .ok (.ldc 61, 2) := by decide +kernel
theorem dX5_kind_17 : decode cX5_kind 17 = .ok (.invokevirtual 62, 3) := by decide +kernel
theorem dX5_kind_20 : decode cX5_kind 20 = .ok (.ireturn, 1) := by decide +kernel
theorem dX5_kind_21 : decode cX5_kind 21 = .ok (.iconst 0, 1) := by decide +kernel
theorem dX5_kind_22 : decode cX5_kind 22 = .ok (.istore_n 3, 1) := by decide +kernel
theorem dX5_kind_23 : decode cX5_kind 23 = .ok (.iconst (-1), 1) := by decide +kernel
theorem dX5_kind_24 : decode cX5_kind 24 = .ok (.istore 4, 2) := by decide +kernel
theorem dX5_kind_26 : decode cX5_kind 26 = .ok (.iconst 0, 1) := by decide +kernel
theorem dX5_kind_27 : decode cX5_kind 27 = .ok (.istore 5, 2) := by decide +kernel
theorem dX5_kind_29 : decode cX5_kind 29 = .ok (.iload 5, 2) := by decide +kernel
theorem dX5_kind_31 : decode cX5_kind 31 = .ok (.bipush 6, 2) := by decide +kernel
theorem dX5_kind_33 : decode cX5_kind 33 = .ok (.if_icmp .ge 67, 3) := by decide +kernel
theorem dX5_kind_36 : decode cX5_kind 36 = .ok (.aload_n 0, 1) := by decide +kernel
theorem dX5_kind_37 : decode cX5_kind 37 = .ok (.getfield 16, 3) := by decide +kernel
theorem dX5_kind_40 : decode cX5_kind 40 = .ok (.aload_n 0, 1) := by decide +kernel
theorem dX5_kind_41 : decode cX5_kind 41 = .ok (.getfield 10, 3) := by decide +kernel
theorem dX5_kind_44 : decode cX5_kind 44 = .ok (.invokevirtual 166, 3) := by decide +kernel
theorem dX5_kind_47 : decode cX5_kind 47 = .ok (.aload_n 0, 1) := by decide +kernel
theorem dX5_kind_48 : decode cX5_kind 48 = .ok (.getfield 16, 3) := by decide +kernel
theorem dX5_kind_51 : decode cX5_kind 51 = .ok (.getfield 110, 3) := by decide +kernel
theorem dX5_kind_54 : decode cX5_kind 54 = .ok (.iload_n 1, 1) := by decide +kernel
theorem dX5_kind_55 : decode cX5_kind 55 = .ok (.iload 5, 2) := by decide +kernel
theorem dX5_kind_57 : decode cX5_kind 57 = .ok (.iastore, 1) := by decide +kernel
theorem dX5_kind_58 : decode cX5_kind 58 = .ok (.aload_n 0, 1) := by decide +kernel
theorem dX5_kind_59 : decode cX5_kind 59 = .ok (.getfield 16, 3) := by decide +kernel
theorem dX5_kind_62 : decode cX5_kind 62 = .ok (.iload_n 2, 1) := by decide +kernel
theorem dX5_kind_63 : decode cX5_kind 63 = .ok (.invokevirtual 152, 3) := by decide +kernel
theorem dX5_kind_66 : decode cX5_kind 66 = .ok (.aload_n 0, 1) := by decide +kernel
theorem dX5_kind_67 : decode cX5_kind 67 = .ok (.getfield 16, 3) := by decide +kernel
theorem dX5_kind_70 : decode cX5_kind 70 = .ok (.getfield 119, 3) := by decide +kernel
theorem dX5_kind_73 : decode cX5_kind 73 = .ok (.iload_n 1, 1) := by decide +kernel
theorem dX5_kind_74 : decode cX5_kind 74 = .ok (.iaload, 1) := by decide +kernel
theorem dX5_kind_75 : decode cX5_kind 75 = .ok (.iload 4, 2) := by decide +kernel
theorem dX5_kind_77 : decode cX5_kind 77 = .ok (.if_icmp .le 17, 3) := by decide +kernel
theorem dX5_kind_80 : decode cX5_kind 80 = .ok (.aload_n 0, 1) := by decide +kernel
theorem dX5_kind_81 : decode cX5_kind 81 = .ok (.getfield 16, 3) := by decide +kernel
theorem dX5_kind_84 : decode cX5_kind 84 = .ok (.getfield 119, 3) := by decide +kernel
theorem dX5_kind_87 : decode cX5_kind 87 = .ok (.iload_n 1, 1) := by decide +kernel
theorem dX5_kind_88 : decode cX5_kind 88 = .ok (.iaload, 1) := by decide +kernel
theorem dX5_kind_89 : decode cX5_kind 89 = .ok (.istore 4, 2) := by decide +kernel
theorem dX5_kind_91 : decode cX5_kind 91 = .ok (.iload 5, 2) := by decide +kernel
theorem dX5_kind_93 : decode cX5_kind 93 = .ok (.istore_n 3, 1) := by decide +kernel
theorem dX5_kind_94 : decode cX5_kind 94 = .ok (.iinc 5 1, 3) := by decide +kernel
theorem dX5_kind_97 : decode cX5_kind 97 = .ok (.goto (-68), 3) := by decide +kernel
theorem dX5_kind_100 : decode cX5_kind 100 = .ok (.iload_n 3, 1) := by decide +kernel
theorem dX5_kind_101 : decode cX5_kind 101 = .ok (.ireturn, 1) := by decide +kernel
set_option maxRecDepth 20000 in
theorem ggX5_enough_X5_isHoursWeighed : GoodIn wsX5_enough wsX5_isHoursWeighed := goodIn_r _ [9, 10, 11, 8, 12] (by decide +kernel) (by decide +kernel)
set_option maxRecDepth 20000 in
theorem gX5_enough_X5_isHoursWeighed : GoodIn wsX5_enough (va_wsS RX5 174 yX5_isHoursWeighed wsX5_isHoursWeighed) := goodIn_app (goodIn_of _ (by decide +kernel)) ggX5_enough_X5_isHoursWeighed
set_option maxRecDepth 20000 in
theorem ggX5_enough_X5_finding : GoodIn wsX5_enough wsX5_finding := goodIn_r _ [16, 1, 17, 10, 11, 8, 12, 95, 96, 97, 98, 99, 100, 101, 102] (by decide +kernel) (by decide +kernel)
set_option maxRecDepth 20000 in
theorem gX5_enough_X5_finding : GoodIn wsX5_enough (wsV RX5 62 RX5 yX5_finding wsX5_finding) := goodIn_app (goodIn_of _ (by decide +kernel)) ggX5_enough_X5_finding
set_option maxRecDepth 20000 in
theorem ggX5_enough_X3_become : GoodIn wsX5_enough wsX3_become := goodIn_r _ [22, 23, 24, 25, 26, 27, 28, 29, 30, 31, 32, 33, 34, 35, 36, 37, 103, 104, 105, 106, 107, 108, 109, 110, 111, 112, 113] (by decide +kernel) (by decide +kernel)
set_option maxRecDepth 20000 in
theorem gX5_enough_X3_become : GoodIn wsX5_enough (wsV RX5 166 RX3 yX3_become wsX3_become) := goodIn_app (goodIn_of _ (by decide +kernel)) ggX5_enough_X3_become
set_option maxRecDepth 20000 in
theorem ggX5_enough_X3_goHours : GoodIn wsX5_enough wsX3_goHours := goodIn_r _ [41, 42, 43, 44, 21, 45, 27, 23, 46, 47, 48, 49, 50, 51, 52, 53, 35, 24, 26, 36, 37, 54, 55, 56, 57, 58, 29, 59, 60, 61, 62, 30, 63, 64, 65, 66, 67, 68, 69, 70, 8, 71, 72, 73, 74, 75, 76, 77, 78, 79, 80, 81, 82, 83, 84, 85, 86, 28, 87, 88, 89, 90, 91, 92, 93, 94, 25, 103, 104, 105, 106, 107, 108, 109, 110, 111, 112, 113] (by decide +kernel) (by decide +kernel)
set_option maxRecDepth 20000 in
theorem gX5_enough_X3_goHours : GoodIn wsX5_enough (wsV RX5 152 RX3 yX3_goHours wsX3_goHours) := goodIn_app (goodIn_of _ (by decide +kernel)) ggX5_enough_X3_goHours
theorem dX5_enough_0 : decode cX5_enough 0 = .ok (.iload_n 1, 1) := by decide +kernel
theorem dX5_enough_1 : decode cX5_enough 1 = .ok (.invokestatic 174, 3) := by decide +kernel
theorem dX5_enough_4 : decode cX5_enough 4 = .ok (.ifCond .ne 10, 3) := by decide +kernel
theorem dX5_enough_7 : decode cX5_enough 7 = .ok (.aload_n 0, 1) := by decide +kernel
theorem dX5_enough_8 : decode cX5_enough 8 = .ok (.ldc 61, 2) := by decide +kernel
theorem dX5_enough_10 : decode cX5_enough 10 = .ok (.invokevirtual 62, 3) := by decide +kernel
theorem dX5_enough_13 : decode cX5_enough 13 = .ok (.ireturn, 1) := by decide +kernel
theorem dX5_enough_14 : decode cX5_enough 14 = .ok (.iconst 0, 1) := by decide +kernel
theorem dX5_enough_15 : decode cX5_enough 15 = .ok (.istore_n 2, 1) := by decide +kernel
theorem dX5_enough_16 : decode cX5_enough 16 = .ok (.iload_n 2, 1) := by decide +kernel
theorem dX5_enough_17 : decode cX5_enough 17 = .ok (.sipush 199, 3) := by decide +kernel
theorem dX5_enough_20 : decode cX5_enough 20 = .ok (.if_icmp .gt 48, 3) := by decide +kernel
theorem dX5_enough_23 : decode cX5_enough 23 = .ok (.aload_n 0, 1) := by decide +kernel
theorem dX5_enough_24 : decode cX5_enough 24 = .ok (.getfield 16, 3) := by decide +kernel
theorem dX5_enough_27 : decode cX5_enough 27 = .ok (.aload_n 0, 1) := by decide +kernel
theorem dX5_enough_28 : decode cX5_enough 28 = .ok (.getfield 10, 3) := by decide +kernel
theorem dX5_enough_31 : decode cX5_enough 31 = .ok (.invokevirtual 166, 3) := by decide +kernel
theorem dX5_enough_34 : decode cX5_enough 34 = .ok (.aload_n 0, 1) := by decide +kernel
theorem dX5_enough_35 : decode cX5_enough 35 = .ok (.getfield 16, 3) := by decide +kernel
theorem dX5_enough_38 : decode cX5_enough 38 = .ok (.iload_n 2, 1) := by decide +kernel
theorem dX5_enough_39 : decode cX5_enough 39 = .ok (.putfield 94, 3) := by decide +kernel
theorem dX5_enough_42 : decode cX5_enough 42 = .ok (.aload_n 0, 1) := by decide +kernel
theorem dX5_enough_43 : decode cX5_enough 43 = .ok (.getfield 16, 3) := by decide +kernel
theorem dX5_enough_46 : decode cX5_enough 46 = .ok (.iload_n 1, 1) := by decide +kernel
theorem dX5_enough_47 : decode cX5_enough 47 = .ok (.invokevirtual 152, 3) := by decide +kernel
theorem dX5_enough_50 : decode cX5_enough 50 = .ok (.aload_n 0, 1) := by decide +kernel
theorem dX5_enough_51 : decode cX5_enough 51 = .ok (.getfield 16, 3) := by decide +kernel
theorem dX5_enough_54 : decode cX5_enough 54 = .ok (.getfield 94, 3) := by decide +kernel
theorem dX5_enough_57 : decode cX5_enough 57 = .ok (.ifCond .le 5, 3) := by decide +kernel
theorem dX5_enough_60 : decode cX5_enough 60 = .ok (.iload_n 2, 1) := by decide +kernel
theorem dX5_enough_61 : decode cX5_enough 61 = .ok (.ireturn, 1) := by decide +kernel
theorem dX5_enough_62 : decode cX5_enough 62 = .ok (.iinc 2 1, 3) := by decide +kernel
theorem dX5_enough_65 : decode cX5_enough 65 = .ok (.goto (-49), 3) := by decide +kernel
theorem dX5_enough_68 : decode cX5_enough 68 = .ok (.aload_n 0, 1) := by decide +kernel
theorem dX5_enough_69 : decode cX5_enough 69 = .ok (.ldc 173, 2) := by decide +kernel
theorem dX5_enough_71 : decode cX5_enough 71 = .ok (.invokevirtual 62, 3) := by decide +kernel
theorem dX5_enough_74 : decode cX5_enough 74 = .ok (.ireturn, 1) := by decide +kernel
set_option maxRecDepth 20000 in
theorem ggX5_bears_X5_isHoursWeighed : GoodIn wsX5_bears wsX5_isHoursWeighed := goodIn_r _ [11, 12, 13, 10, 14] (by decide +kernel) (by decide +kernel)
set_option maxRecDepth 20000 in
theorem gX5_bears_X5_isHoursWeighed : GoodIn wsX5_bears (va_wsS RX5 174 yX5_isHoursWeighed wsX5_isHoursWeighed) := goodIn_app (goodIn_of _ (by decide +kernel)) ggX5_bears_X5_isHoursWeighed
set_option maxRecDepth 20000 in
theorem ggX5_bears_X5_isWithin : GoodIn wsX5_bears wsX5_isWithin := goodIn_r _ [14] (by decide +kernel) (by decide +kernel)
set_option maxRecDepth 20000 in
theorem gX5_bears_X5_isWithin : GoodIn wsX5_bears (va_wsS RX5 65 yX5_isWithin wsX5_isWithin) := goodIn_app (goodIn_of _ (by decide +kernel)) ggX5_bears_X5_isWithin
set_option maxRecDepth 20000 in
theorem ggX5_bears_X5_finding : GoodIn wsX5_bears wsX5_finding := goodIn_r _ [18, 2, 19, 12, 13, 10, 14, 97, 98, 99, 100, 101, 102, 103, 104] (by decide +kernel) (by decide +kernel)
set_option maxRecDepth 20000 in
theorem gX5_bears_X5_finding : GoodIn wsX5_bears (wsV RX5 62 RX5 yX5_finding wsX5_finding) := goodIn_app (goodIn_of _ (by decide +kernel)) ggX5_bears_X5_finding
set_option maxRecDepth 20000 in
theorem ggX5_bears_X3_become : GoodIn wsX5_bears wsX3_become := goodIn_r _ [24, 25, 26, 27, 28, 29, 30, 31, 32, 33, 34, 35, 36, 37, 38, 39, 105, 106, 107, 108, 109, 110, 111, 112, 113, 114, 115] (by decide +kernel) (by decide +kernel)
set_option maxRecDepth 20000 in
theorem gX5_bears_X3_become : GoodIn wsX5_bears (wsV RX5 166 RX3 yX3_become wsX3_become) := goodIn_app (goodIn_of _ (by decide +kernel)) ggX5_bears_X3_become
set_option maxRecDepth 20000 in
theorem ggX5_bears_X3_goHours : GoodIn wsX5_bears wsX3_goHours := goodIn_r _ [43, 44, 45, 46, 23, 47, 29, 25, 48, 49, 50, 51, 52, 53, 54, 55, 37, 26, 28, 38, 39, 56, 57, 58, 59, 60, 31, 61, 62, 63, 64, 32, 65, 66, 67, 68, 69, 70, 71, 72, 10, 73, 74, 75, 76, 77, 78, 79, 80, 81, 82, 83, 84, 85, 86, 87, 88, 30, 89, 90, 91, 92, 93, 94, 95, 96, 27, 105, 106, 107, 108, 109, 110, 111, 112, 113, 114, 115] (by decide +kernel) (by decide +kernel)
set_option maxRecDepth 20000 in
theorem gX5_bears_X3_goHours : GoodIn wsX5_bears (wsV RX5 152 RX3 yX3_goHours wsX3_goHours) := goodIn_app (goodIn_of _ (by decide +kernel)) ggX5_bears_X3_goHours
theorem dX5_bears_0 : decode cX5_bears 0 = .ok (.iload_n 1, 1) := by decide +kernel
theorem dX5_bears_1 : decode cX5_bears 1 = .ok (.invokestatic 174, 3) := by decide +kernel
theorem dX5_bears_4 : decode cX5_bears 4 = .ok (.ifCond .eq 13, 3) := by decide +kernel
theorem dX5_bears_7 : decode cX5_bears 7 = .ok (.iload_n 2, 1) := by decide +kernel
theorem dX5_bears_8 : decode cX5_bears 8 = .ok (.iconst 0, 1) := by decide +kernel
theorem dX5_bears_9 : decode cX5_bears 9 = .ok (.ldc 150, 2) := by decide +kernel
theorem dX5_bears_11 : decode cX5_bears 11 = .ok (.invokestatic 65, 3) := by decide +kernel
theorem dX5_bears_14 : decode cX5_bears 14 = .ok (.ifCond .ne 10, 3) := by decide +kernel
theorem dX5_bears_17 : decode cX5_bears 17 = .ok (.aload_n 0, 1) := by decide +kernel
theorem dX5_bears_18 : decode cX5_bears 18 = .ok (.ldc 61, 2) := by decide +kernel
theorem dX5_bears_20 : decode cX5_bears 20 = .ok (.invokevirtual 62, 3) := by decide +kernel
theorem dX5_bears_23 : decode cX5_bears 23 = .ok (.ireturn, 1) := by decide +kernel
theorem dX5_bears_24 : decode cX5_bears 24 = .ok (.bipush 99, 2) := by decide +kernel
theorem dX5_bears_26 : decode cX5_bears 26 = .ok (.istore_n 3, 1) := by decide +kernel
theorem dX5_bears_27 : decode cX5_bears 27 = .ok (.iload_n 3, 1) := by decide +kernel
theorem dX5_bears_28 : decode cX5_bears 28 = .ok (.ifCond .lt 49, 3) := by decide +kernel
theorem dX5_bears_31 : decode cX5_bears 31 = .ok (.aload_n 0, 1) := by decide +kernel
theorem dX5_bears_32 : decode cX5_bears 32 = .ok (.getfield 16, 3) := by decide +kernel
theorem dX5_bears_35 : decode cX5_bears 35 = .ok (.aload_n 0, 1) := by decide +kernel
theorem dX5_bears_36 : decode cX5_bears 36 = .ok (.getfield 10, 3) := by decide +kernel
theorem dX5_bears_39 : decode cX5_bears 39 = .ok (.invokevirtual 166, 3) := by decide +kernel
theorem dX5_bears_42 : decode cX5_bears 42 = .ok (.aload_n 0, 1) := by decide +kernel
theorem dX5_bears_43 : decode cX5_bears 43 = .ok (.getfield 16, 3) := by decide +kernel
theorem dX5_bears_46 : decode cX5_bears 46 = .ok (.iload_n 3, 1) := by decide +kernel
theorem dX5_bears_47 : decode cX5_bears 47 = .ok (.putfield 100, 3) := by decide +kernel
theorem dX5_bears_50 : decode cX5_bears 50 = .ok (.aload_n 0, 1) := by decide +kernel
theorem dX5_bears_51 : decode cX5_bears 51 = .ok (.getfield 16, 3) := by decide +kernel
theorem dX5_bears_54 : decode cX5_bears 54 = .ok (.iload_n 1, 1) := by decide +kernel
theorem dX5_bears_55 : decode cX5_bears 55 = .ok (.invokevirtual 152, 3) := by decide +kernel
theorem dX5_bears_58 : decode cX5_bears 58 = .ok (.aload_n 0, 1) := by decide +kernel
theorem dX5_bears_59 : decode cX5_bears 59 = .ok (.getfield 16, 3) := by decide +kernel
theorem dX5_bears_62 : decode cX5_bears 62 = .ok (.getfield 103, 3) := by decide +kernel
theorem dX5_bears_65 : decode cX5_bears 65 = .ok (.iload_n 2, 1) := by decide +kernel
theorem dX5_bears_66 : decode cX5_bears 66 = .ok (.if_icmp .lt 5, 3) := by decide +kernel
theorem dX5_bears_69 : decode cX5_bears 69 = .ok (.iload_n 3, 1) := by decide +kernel
theorem dX5_bears_70 : decode cX5_bears 70 = .ok (.ireturn, 1) := by decide +kernel
theorem dX5_bears_71 : decode cX5_bears 71 = .ok (.iinc 3 (-1), 3) := by decide +kernel
theorem dX5_bears_74 : decode cX5_bears 74 = .ok (.goto (-47), 3) := by decide +kernel
theorem dX5_bears_77 : decode cX5_bears 77 = .ok (.aload_n 0, 1) := by decide +kernel
theorem dX5_bears_78 : decode cX5_bears 78 = .ok (.ldc 173, 2) := by decide +kernel
theorem dX5_bears_80 : decode cX5_bears 80 = .ok (.invokevirtual 62, 3) := by decide +kernel
theorem dX5_bears_83 : decode cX5_bears 83 = .ok (.ireturn, 1) := by decide +kernel
set_option maxRecDepth 20000 in
theorem ggX5_swap_X5_isHoursWeighed : GoodIn wsX5_swap wsX5_isHoursWeighed := goodIn_r _ [8, 9, 10, 7, 11] (by decide +kernel) (by decide +kernel)
set_option maxRecDepth 20000 in
theorem gX5_swap_X5_isHoursWeighed : GoodIn wsX5_swap (va_wsS RX5 174 yX5_isHoursWeighed wsX5_isHoursWeighed) := goodIn_app (goodIn_of _ (by decide +kernel)) ggX5_swap_X5_isHoursWeighed
set_option maxRecDepth 20000 in
theorem ggX5_swap_X5_finding : GoodIn wsX5_swap wsX5_finding := goodIn_r _ [15, 1, 16, 9, 10, 7, 11, 112, 113, 114, 115, 116, 117, 118, 119] (by decide +kernel) (by decide +kernel)
set_option maxRecDepth 20000 in
theorem gX5_swap_X5_finding : GoodIn wsX5_swap (wsV RX5 62 RX5 yX5_finding wsX5_finding) := goodIn_app (goodIn_of _ (by decide +kernel)) ggX5_swap_X5_finding
set_option maxRecDepth 20000 in
theorem ggX5_swap_X5_goOn : GoodIn wsX5_swap wsX5_goOn := goodIn_r _ [20, 2, 21, 22, 23, 24, 25, 26, 27, 28, 29, 30, 31, 32, 33, 34, 35, 36, 37, 38, 39, 40, 41, 42, 43, 44, 45, 46, 47, 48, 49, 50, 51, 52, 53, 54, 55, 56, 57, 58, 59, 60, 61, 62, 63, 64, 65, 66, 67, 68, 69, 70, 71, 72, 73, 74, 7, 75, 76, 77, 78, 79, 80, 81, 82, 83, 84, 85, 86, 87, 88, 89, 90, 91, 92, 93, 94, 95, 96, 97, 98, 112, 113, 114, 115, 116, 117, 118, 119, 120, 121, 122, 123, 124, 125, 126, 127, 128, 129, 130] (by decide +kernel) (by decide +kernel)
set_option maxRecDepth 20000 in
theorem gX5_swap_X5_goOn : GoodIn wsX5_swap (wsV RX5 159 RX5 yX5_goOn wsX5_goOn) := goodIn_app (goodIn_of _ (by decide +kernel)) ggX5_swap_X5_goOn
set_option maxRecDepth 20000 in
theorem ggX5_swap_X5_sum : GoodIn wsX5_swap wsX5_sum := goodIn_r _ [101] (by decide +kernel) (by decide +kernel)
set_option maxRecDepth 20000 in
theorem gX5_swap_X5_sum : GoodIn wsX5_swap (va_wsS RX5 162 yX5_sum wsX5_sum) := goodIn_app (goodIn_of _ (by decide +kernel)) ggX5_swap_X5_sum
set_option maxRecDepth 20000 in
theorem ggX5_swap_X5_moodsSwapped : GoodIn wsX5_swap wsX5_moodsSwapped := goodIn_r _ [105, 2, 21, 3, 22, 23, 24, 25, 26, 27, 28, 29, 30, 31, 32, 33, 34, 35, 36, 37, 38, 39, 40, 41, 106, 107, 108, 109, 110, 7, 111, 42, 43, 44, 45, 46, 47, 48, 49, 50, 51, 52, 53, 54, 55, 56, 57, 58, 59, 60, 61, 62, 63, 64, 65, 66, 67, 68, 69, 70, 71, 72, 73, 74, 75, 76, 77, 78, 79, 80, 81, 82, 83, 84, 85, 86, 87, 88, 89, 90, 91, 92, 93, 94, 95, 96, 97, 98, 99, 100, 101, 112, 113, 114, 115, 116, 117, 118, 119, 120, 121, 122, 123, 124, 125, 126, 127, 128, 129, 130] (by decide +kernel) (by decide +kernel)
set_option maxRecDepth 20000 in
theorem gX5_swap_X5_moodsSwapped : GoodIn wsX5_swap (wsV RX5 180 RX5 yX5_moodsSwapped wsX5_moodsSwapped) := goodIn_app (goodIn_of _ (by decide +kernel)) ggX5_swap_X5_moodsSwapped
theorem dX5_swap_0 : decode cX5_swap 0 = .ok (.iload_n 1, 1) := by decide +kernel
theorem dX5_swap_1 : decode cX5_swap 1 = .ok (.invokestatic 174, 3) := by decide +kernel
theorem dX5_swap_4 : decode cX5_swap 4 = .ok (.ifCond .ne 10, 3) := by decide +kernel
theorem dX5_swap_7 : decode cX5_swap 7 = .ok (.aload_n 0, 1) := by decide +kernel
theorem dX5_swap_8 : decode cX5_swap 8 = .ok (.ldc 61, 2) := by decide +kernel
theorem dX5_swap_10 : decode cX5_swap 10 = .ok (.invokevirtual 62, 3) := by decide +kernel
theorem dX5_swap_13 : decode cX5_swap 13 = .ok (.ireturn, 1) := by decide +kernel
theorem dX5_swap_14 : decode cX5_swap 14 = .ok (.aload_n 0, 1) := by decide +kernel
theorem dX5_swap_15 : decode cX5_swap 15 = .ok (.iload_n 1, 1) := by decide +kernel
theorem dX5_swap_16 : decode cX5_swap 16 = .ok (.invokevirtual 159, 3) := by decide +kernel
theorem dX5_swap_19 : decode cX5_swap 19 = .ok (.aload_n 0, 1) := by decide +kernel
theorem dX5_swap_20 : decode cX5_swap 20 = .ok (.getfield 16, 3) := by decide +kernel
theorem dX5_swap_23 : decode cX5_swap 23 = .ok (.getfield 113, 3) := by decide +kernel
theorem dX5_swap_26 : decode cX5_swap 26 = .ok (.invokestatic 162, 3) := by decide +kernel
theorem dX5_swap_29 : decode cX5_swap 29 = .ok (.istore_n 2, 1) := by decide +kernel
theorem dX5_swap_30 : decode cX5_swap 30 = .ok (.iconst (-1), 1) := by decide +kernel
theorem dX5_swap_31 : decode cX5_swap 31 = .ok (.istore_n 3, 1) := by decide +kernel
theorem dX5_swap_32 : decode cX5_swap 32 = .ok (.iconst 0, 1) := by decide +kernel
theorem dX5_swap_33 : decode cX5_swap 33 = .ok (.istore 4, 2) := by decide +kernel
theorem dX5_swap_35 : decode cX5_swap 35 = .ok (.iload 4, 2) := by decide +kernel
theorem dX5_swap_37 : decode cX5_swap 37 = .ok (.bipush 8, 2) := by decide +kernel
theorem dX5_swap_39 : decode cX5_swap 39 = .ok (.if_icmp .ge 57, 3) := by decide +kernel
theorem dX5_swap_42 : decode cX5_swap 42 = .ok (.iload 4, 2) := by decide +kernel
theorem dX5_swap_44 : decode cX5_swap 44 = .ok (.iconst 1, 1) := by decide +kernel
theorem dX5_swap_45 : decode cX5_swap 45 = .ok (.iadd, 1) := by decide +kernel
theorem dX5_swap_46 : decode cX5_swap 46 = .ok (.istore 5, 2) := by decide +kernel
theorem dX5_swap_48 : decode cX5_swap 48 = .ok (.iload 5, 2) := by decide +kernel
theorem dX5_swap_50 : decode cX5_swap 50 = .ok (.bipush 8, 2) := by decide +kernel
theorem dX5_swap_52 : decode cX5_swap 52 = .ok (.if_icmp .ge 38, 3) := by decide +kernel
theorem dX5_swap_55 : decode cX5_swap 55 = .ok (.aload_n 0, 1) := by decide +kernel
theorem dX5_swap_56 : decode cX5_swap 56 = .ok (.iload 4, 2) := by decide +kernel
theorem dX5_swap_58 : decode cX5_swap 58 = .ok (.iload 5, 2) := by decide +kernel
theorem dX5_swap_60 : decode cX5_swap 60 = .ok (.iload_n 1, 1) := by decide +kernel
theorem dX5_swap_61 : decode cX5_swap 61 = .ok (.invokevirtual 180, 3) := by decide +kernel
theorem dX5_swap_64 : decode cX5_swap 64 = .ok (.istore 6, 2) := by decide +kernel
theorem dX5_swap_66 : decode cX5_swap 66 = .ok (.iload 6, 2) := by decide +kernel
theorem dX5_swap_68 : decode cX5_swap 68 = .ok (.iload_n 2, 1) := by decide +kernel
theorem dX5_swap_69 : decode cX5_swap 69 = .ok (.if_icmp .le 15, 3) := by decide +kernel
theorem dX5_swap_72 : decode cX5_swap 72 = .ok (.iload 6, 2) := by decide +kernel
theorem dX5_swap_74 : decode cX5_swap 74 = .ok (.istore_n 2, 1) := by decide +kernel
theorem dX5_swap_75 : decode cX5_swap 75 = .ok (.bipush 10, 2) := by decide +kernel
theorem dX5_swap_77 : decode cX5_swap 77 = .ok (.iload 4, 2) := by decide +kernel
theorem dX5_swap_79 : decode cX5_swap 79 = .ok (.imul, 1) := by decide +kernel
theorem dX5_swap_80 : decode cX5_swap 80 = .ok (.iload 5, 2) := by decide +kernel
theorem dX5_swap_82 : decode cX5_swap 82 = .ok (.iadd, 1) := by decide +kernel
theorem dX5_swap_83 : decode cX5_swap 83 = .ok (.istore_n 3, 1) := by decide +kernel
theorem dX5_swap_84 : decode cX5_swap 84 = .ok (.iinc 5 1, 3) := by decide +kernel
theorem dX5_swap_87 : decode cX5_swap 87 = .ok (.goto (-39), 3) := by decide +kernel
theorem dX5_swap_90 : decode cX5_swap 90 = .ok (.iinc 4 1, 3) := by decide +kernel
theorem dX5_swap_93 : decode cX5_swap 93 = .ok (.goto (-58), 3) := by decide +kernel
theorem dX5_swap_96 : decode cX5_swap 96 = .ok (.iload_n 3, 1) := by decide +kernel
theorem dX5_swap_97 : decode cX5_swap 97 = .ok (.ifCond .ge 12, 3) := by decide +kernel
theorem dX5_swap_100 : decode cX5_swap 100 = .ok (.aload_n 0, 1) := by decide +kernel
theorem dX5_swap_101 : decode cX5_swap 101 = .ok (.ldc 173, 2) := by decide +kernel
theorem dX5_swap_103 : decode cX5_swap 103 = .ok (.invokevirtual 62, 3) := by decide +kernel
theorem dX5_swap_106 : decode cX5_swap 106 = .ok (.goto 4, 3) := by decide +kernel
theorem dX5_swap_109 : decode cX5_swap 109 = .ok (.iload_n 3, 1) := by decide +kernel
theorem dX5_swap_110 : decode cX5_swap 110 = .ok (.ireturn, 1) := by decide +kernel
set_option maxRecDepth 20000 in
theorem ggX5_saddest_X5_isHoursOn : GoodIn wsX5_saddest wsX5_isHoursOn := goodIn_r _ [7, 8, 9, 6, 10] (by decide +kernel) (by decide +kernel)
set_option maxRecDepth 20000 in
theorem gX5_saddest_X5_isHoursOn : GoodIn wsX5_saddest (va_wsS RX5 156 yX5_isHoursOn wsX5_isHoursOn) := goodIn_app (goodIn_of _ (by decide +kernel)) ggX5_saddest_X5_isHoursOn
set_option maxRecDepth 20000 in
theorem ggX5_saddest_X5_finding : GoodIn wsX5_saddest wsX5_finding := goodIn_r _ [14, 1, 15, 8, 9, 6, 10, 98, 99, 100, 101, 102, 103, 104, 105] (by decide +kernel) (by decide +kernel)
set_option maxRecDepth 20000 in
theorem gX5_saddest_X5_finding : GoodIn wsX5_saddest (wsV RX5 62 RX5 yX5_finding wsX5_finding) := goodIn_app (goodIn_of _ (by decide +kernel)) ggX5_saddest_X5_finding
set_option maxRecDepth 20000 in
theorem ggX5_saddest_X5_goOn : GoodIn wsX5_saddest wsX5_goOn := goodIn_r _ [19, 2, 20, 21, 22, 23, 24, 25, 26, 27, 28, 29, 30, 31, 32, 33, 34, 35, 36, 37, 38, 39, 40, 41, 42, 43, 44, 45, 46, 47, 48, 49, 50, 51, 52, 53, 54, 55, 56, 57, 58, 59, 60, 61, 62, 63, 64, 65, 66, 67, 68, 69, 70, 71, 72, 73, 6, 74, 75, 76, 77, 78, 79, 80, 81, 82, 83, 84, 85, 86, 87, 88, 89, 90, 91, 92, 93, 94, 95, 96, 97, 98, 99, 100, 101, 102, 103, 104, 105, 106, 107, 108, 109, 110, 111, 112, 113, 114, 115, 116] (by decide +kernel) (by decide +kernel)
set_option maxRecDepth 20000 in
theorem gX5_saddest_X5_goOn : GoodIn wsX5_saddest (wsV RX5 159 RX5 yX5_goOn wsX5_goOn) := goodIn_app (goodIn_of _ (by decide +kernel)) ggX5_saddest_X5_goOn
theorem dX5_saddest_0 : decode cX5_saddest 0 = .ok (.iload_n 1, 1) := by decide +kernel
theorem dX5_saddest_1 : decode cX5_saddest 1 = .ok (.invokestatic 156, 3) := by decide +kernel
theorem dX5_saddest_4 : decode cX5_saddest 4 = .ok (.ifCond .ne 10, 3) := by decide +kernel
theorem dX5_saddest_7 : decode cX5_saddest 7 = .ok (.aload_n 0, 1) := by decide +kernel
theorem dX5_saddest_8 : decode cX5_saddest 8 = .ok (.ldc 61, 2) := by decide +kernel
theorem dX5_saddest_10 : decode cX5_saddest 10 = .ok (.invokevirtual 62, 3) := by decide +kernel
theorem dX5_saddest_13 : decode cX5_saddest 13 = .ok (.ireturn, 1) := by decide +kernel
theorem dX5_saddest_14 : decode cX5_saddest 14 = .ok (.aload_n 0, 1) := by decide +kernel
theorem dX5_saddest_15 : decode cX5_saddest 15 = .ok (.iload_n 1, 1) := by decide +kernel
theorem dX5_saddest_16 : decode cX5_saddest 16 = .ok (.invokevirtual 159, 3) := by decide +kernel
theorem dX5_saddest_19 : decode cX5_saddest 19 = .ok (.iconst 0, 1) := by decide +kernel
theorem dX5_saddest_20 : decode cX5_saddest 20 = .ok (.istore_n 2, 1) := by decide +kernel
theorem dX5_saddest_21 : decode cX5_saddest 21 = .ok (.iconst 1, 1) := by decide +kernel
theorem dX5_saddest_22 : decode cX5_saddest 22 = .ok (.istore_n 3, 1) := by decide +kernel
theorem dX5_saddest_23 : decode cX5_saddest 23 = .ok (.iload_n 3, 1) := by decide +kernel
theorem dX5_saddest_24 : decode cX5_saddest 24 = .ok (.bipush 8, 2) := by decide +kernel
theorem dX5_saddest_26 : decode cX5_saddest 26 = .ok (.if_icmp .ge 32, 3) := by decide +kernel
theorem dX5_saddest_29 : decode cX5_saddest 29 = .ok (.aload_n 0, 1) := by decide +kernel
theorem dX5_saddest_30 : decode cX5_saddest 30 = .ok (.getfield 16, 3) := by decide +kernel
theorem dX5_saddest_33 : decode cX5_saddest 33 = .ok (.getfield 113, 3) := by decide +kernel
theorem dX5_saddest_36 : decode cX5_saddest 36 = .ok (.iload_n 3, 1) := by decide +kernel
theorem dX5_saddest_37 : decode cX5_saddest 37 = .ok (.iaload, 1) := by decide +kernel
theorem dX5_saddest_38 : decode cX5_saddest 38 = .ok (.aload_n 0, 1) := by decide +kernel
theorem dX5_saddest_39 : decode cX5_saddest 39 = .ok (.getfield 16, 3) := by decide +kernel
theorem dX5_saddest_42 : decode cX5_saddest 42 = .ok (.getfield 113, 3) := by decide +kernel
theorem dX5_saddest_45 : decode cX5_saddest 45 = .ok (.iload_n 2, 1) := by decide +kernel
theorem dX5_saddest_46 : decode cX5_saddest 46 = .ok (.iaload, 1) := by decide +kernel
theorem dX5_saddest_47 : decode cX5_saddest 47 = .ok (.if_icmp .ge 5, 3) := by decide +kernel
theorem dX5_saddest_50 : decode cX5_saddest 50 = .ok (.iload_n 3, 1) := by decide +kernel
theorem dX5_saddest_51 : decode cX5_saddest 51 = .ok (.istore_n 2, 1) := by decide +kernel
theorem dX5_saddest_52 : decode cX5_saddest 52 = .ok (.iinc 3 1, 3) := by decide +kernel
theorem dX5_saddest_55 : decode cX5_saddest 55 = .ok (.goto (-32), 3) := by decide +kernel
theorem dX5_saddest_58 : decode cX5_saddest 58 = .ok (.iload_n 2, 1) := by decide +kernel
theorem dX5_saddest_59 : decode cX5_saddest 59 = .ok (.ireturn, 1) := by decide +kernel
set_option maxRecDepth 20000 in
theorem ggX5_feed_X5_isWithin : GoodIn wsX5_feed wsX5_isWithin := goodIn_r _ [8] (by decide +kernel) (by decide +kernel)
set_option maxRecDepth 20000 in
theorem gX5_feed_X5_isWithin : GoodIn wsX5_feed (va_wsS RX5 65 yX5_isWithin wsX5_isWithin) := goodIn_app (goodIn_of _ (by decide +kernel)) ggX5_feed_X5_isWithin
set_option maxRecDepth 20000 in
theorem ggX5_feed_X5_finding : GoodIn wsX5_feed wsX5_finding := goodIn_r _ [12, 1, 13, 5, 6, 7, 8, 21, 22, 23, 24, 25, 26, 27, 28] (by decide +kernel) (by decide +kernel)
set_option maxRecDepth 20000 in
theorem gX5_feed_X5_finding : GoodIn wsX5_feed (wsV RX5 62 RX5 yX5_finding wsX5_finding) := goodIn_app (goodIn_of _ (by decide +kernel)) ggX5_feed_X5_finding
set_option maxRecDepth 20000 in
theorem ggX5_feed_X2_take : GoodIn wsX5_feed wsX2_take := goodIn_r _ [18, 19, 20, 29, 30] (by decide +kernel) (by decide +kernel)
set_option maxRecDepth 20000 in
theorem gX5_feed_X2_take : GoodIn wsX5_feed (wsV RX5 188 RX2 yX2_take wsX2_take) := goodIn_app (goodIn_of _ (by decide +kernel)) ggX5_feed_X2_take
theorem dX5_feed_0 : decode cX5_feed 0 = .ok (.iload_n 2, 1) := by decide +kernel
theorem dX5_feed_1 : decode cX5_feed 1 = .ok (.iconst 1, 1) := by decide +kernel
theorem dX5_feed_2 : decode cX5_feed 2 = .ok (.iconst 4, 1) := by decide +kernel
theorem dX5_feed_3 : decode cX5_feed 3 = .ok (.invokestatic 65, 3) := by decide +kernel
theorem dX5_feed_6 : decode cX5_feed 6 = .ok (.ifCond .ne 10, 3) := by decide +kernel
theorem dX5_feed_9 : decode cX5_feed 9 = .ok (.aload_n 0, 1) := by decide +kernel
theorem dX5_feed_10 : decode cX5_feed 10 = .ok (.ldc 61, 2) := by decide +kernel
theorem dX5_feed_12 : decode cX5_feed 12 = .ok (.invokevirtual 62, 3) := by decide +kernel
theorem dX5_feed_15 : decode cX5_feed 15 = .ok (.ireturn, 1) := by decide +kernel
theorem dX5_feed_16 : decode cX5_feed 16 = .ok (.aload_n 0, 1) := by decide +kernel
theorem dX5_feed_17 : decode cX5_feed 17 = .ok (.getfield 29, 3) := by decide +kernel
theorem dX5_feed_20 : decode cX5_feed 20 = .ok (.getfield 184, 3) := by decide +kernel
theorem dX5_feed_23 : decode cX5_feed 23 = .ok (.iload_n 2, 1) := by decide +kernel
theorem dX5_feed_24 : decode cX5_feed 24 = .ok (.iadd, 1) := by decide +kernel
theorem dX5_feed_25 : decode cX5_feed 25 = .ok (.bipush 120, 2) := by decide +kernel
theorem dX5_feed_27 : decode cX5_feed 27 = .ok (.if_icmp .le 10, 3) := by decide +kernel
theorem dX5_feed_30 : decode cX5_feed 30 = .ok (.aload_n 0, 1) := by decide +kernel
theorem dX5_feed_31 : decode cX5_feed 31 = .ok (.ldc 187, 2) := by decide +kernel
theorem dX5_feed_33 : decode cX5_feed 33 = .ok (.invokevirtual 62, 3) := by decide +kernel
theorem dX5_feed_36 : decode cX5_feed 36 = .ok (.ireturn, 1) := by decide +kernel
theorem dX5_feed_37 : decode cX5_feed 37 = .ok (.aload_n 0, 1) := by decide +kernel
theorem dX5_feed_38 : decode cX5_feed 38 = .ok (.getfield 29, 3) := by decide +kernel
theorem dX5_feed_41 : decode cX5_feed 41 = .ok (.iload_n 1, 1) := by decide +kernel
theorem dX5_feed_42 : decode cX5_feed 42 = .ok (.iload_n 2, 1) := by decide +kernel
theorem dX5_feed_43 : decode cX5_feed 43 = .ok (.invokevirtual 188, 3) := by decide +kernel
theorem dX5_feed_46 : decode cX5_feed 46 = .ok (.aload_n 0, 1) := by decide +kernel
theorem dX5_feed_47 : decode cX5_feed 47 = .ok (.getfield 29, 3) := by decide +kernel
theorem dX5_feed_50 : decode cX5_feed 50 = .ok (.getfield 184, 3) := by decide +kernel
theorem dX5_feed_53 : decode cX5_feed 53 = .ok (.ireturn, 1) := by decide +kernel
theorem dX5_wipe_0 : decode cX5_wipe 0 = .ok (.aload_n 0, 1) := by decide +kernel
theorem dX5_wipe_1 : decode cX5_wipe 1 = .ok (.getfield 29, 3) := by decide +kernel
theorem dX5_wipe_4 : decode cX5_wipe 4 = .ok (.getfield 184, 3) := by decide +kernel
theorem dX5_wipe_7 : decode cX5_wipe 7 = .ok (.istore_n 1, 1) := by decide +kernel
theorem dX5_wipe_8 : decode cX5_wipe 8 = .ok (.aload_n 0, 1) := by decide +kernel
theorem dX5_wipe_9 : decode cX5_wipe 9 = .ok (.getfield 29, 3) := by decide +kernel
theorem dX5_wipe_12 : decode cX5_wipe 12 = .ok (.iconst 0, 1) := by decide +kernel
theorem dX5_wipe_13 : decode cX5_wipe 13 = .ok (.putfield 184, 3) := by decide +kernel
theorem dX5_wipe_16 : decode cX5_wipe 16 = .ok (.iload_n 1, 1) := by decide +kernel
theorem dX5_wipe_17 : decode cX5_wipe 17 = .ok (.ireturn, 1) := by decide +kernel
set_option maxRecDepth 20000 in
theorem ggX5_terrace_X3_become : GoodIn wsX5_terrace wsX3_become := goodIn_r _ [10, 11, 12, 13, 14, 15, 16, 17, 18, 19, 20, 21, 22, 23, 24, 25, 147, 148, 149, 150, 151, 152, 153, 154, 155, 156, 157] (by decide +kernel) (by decide +kernel)
set_option maxRecDepth 20000 in
theorem gX5_terrace_X3_become : GoodIn wsX5_terrace (wsV RX5 166 RX3 yX3_become wsX3_become) := goodIn_app (goodIn_of _ (by decide +kernel)) ggX5_terrace_X3_become
set_option maxRecDepth 20000 in
theorem ggX5_terrace_X4_tellTo : GoodIn wsX5_terrace wsX4_tellTo := goodIn_r _ [30, 31, 32, 33, 34, 35, 36, 29, 37, 38, 39, 40, 41, 42, 43, 44, 45, 46, 47, 48, 49, 50, 51, 52, 53, 54, 55, 56, 57, 58, 59, 60, 61, 62, 63, 64, 65, 66, 67, 68, 69, 70, 71, 72, 73, 74, 75, 76, 77, 78, 79, 80, 81, 82, 83, 84, 85, 86, 87, 88, 89, 90, 91, 92, 93, 94, 95, 96, 97, 98, 99, 100, 101, 102, 103, 104, 105, 106, 107, 108, 109, 110, 111, 112, 113, 114, 115, 116, 117, 118, 119, 120, 121, 122, 123, 124, 125, 126, 127, 128, 129, 130, 131, 132, 133, 134, 135, 136, 158, 159, 160, 161, 162, 145, 146, 147, 148, 149, 150, 151, 152, 153, 154, 155, 156, 157] (by decide +kernel) (by decide +kernel)
set_option maxRecDepth 20000 in
theorem gX5_terrace_X4_tellTo : GoodIn wsX5_terrace (wsV RX5 191 RX4 yX4_tellTo wsX4_tellTo) := goodIn_app (goodIn_of _ (by decide +kernel)) ggX5_terrace_X4_tellTo
theorem dX5_terrace_0 : decode cX5_terrace 0 = .ok (.aload_n 0, 1) := by decide +kernel
theorem dX5_terrace_1 : decode cX5_terrace 1 = .ok (.getfield 16, 3) := by decide +kernel
theorem dX5_terrace_4 : decode cX5_terrace 4 = .ok (.aload_n 0, 1) := by decide +kernel
theorem dX5_terrace_5 : decode cX5_terrace 5 = .ok (.getfield 10, 3) := by decide +kernel
theorem dX5_terrace_8 : decode cX5_terrace 8 = .ok (.invokevirtual 166, 3) := by decide +kernel
theorem dX5_terrace_11 : decode cX5_terrace 11 = .ok (.aload_n 0, 1) := by decide +kernel
theorem dX5_terrace_12 : decode cX5_terrace 12 = .ok (.getfield 38, 3) := by decide +kernel
theorem dX5_terrace_15 : decode cX5_terrace 15 = .ok (.aload_n 0, 1) := by decide +kernel
theorem dX5_terrace_16 : decode cX5_terrace 16 = .ok (.getfield 16, 3) := by decide +kernel
theorem dX5_terrace_19 : decode cX5_terrace 19 = .ok (.invokevirtual 191, 3) := by decide +kernel
theorem dX5_terrace_22 : decode cX5_terrace 22 = .ok (.istore_n 1, 1) := by decide +kernel
theorem dX5_terrace_23 : decode cX5_terrace 23 = .ok (.aload_n 0, 1) := by decide +kernel
theorem dX5_terrace_24 : decode cX5_terrace 24 = .ok (.getfield 29, 3) := by decide +kernel
theorem dX5_terrace_27 : decode cX5_terrace 27 = .ok (.iconst 0, 1) := by decide +kernel
theorem dX5_terrace_28 : decode cX5_terrace 28 = .ok (.putfield 184, 3) := by decide +kernel
theorem dX5_terrace_31 : decode cX5_terrace 31 = .ok (.iload_n 1, 1) := by decide +kernel
theorem dX5_terrace_32 : decode cX5_terrace 32 = .ok (.ifCond .lt 14, 3) := by decide +kernel
theorem dX5_terrace_35 : decode cX5_terrace 35 = .ok (.aload_n 0, 1) := by decide +kernel
theorem dX5_terrace_36 : decode cX5_terrace 36 = .ok (.getfield 10, 3) := by decide +kernel
theorem dX5_terrace_39 : decode cX5_terrace 39 = .ok (.aload_n 0, 1) := by decide +kernel
theorem dX5_terrace_40 : decode cX5_terrace 40 = .ok (.getfield 16, 3) := by decide +kernel
theorem dX5_terrace_43 : decode cX5_terrace 43 = .ok (.invokevirtual 166, 3) := by decide +kernel
theorem dX5_terrace_46 : decode cX5_terrace 46 = .ok (.iload_n 1, 1) := by decide +kernel
theorem dX5_terrace_47 : decode cX5_terrace 47 = .ok (.ireturn, 1) := by decide +kernel
set_option maxRecDepth 20000 in
theorem ggX5_sheet_X5_isSheet : GoodIn wsX5_sheet wsX5_isSheet := goodIn_r _ [8, 9, 10, 7, 11] (by decide +kernel) (by decide +kernel)
set_option maxRecDepth 20000 in
theorem gX5_sheet_X5_isSheet : GoodIn wsX5_sheet (va_wsS RX5 195 yX5_isSheet wsX5_isSheet) := goodIn_app (goodIn_of _ (by decide +kernel)) ggX5_sheet_X5_isSheet
set_option maxRecDepth 20000 in
theorem ggX5_sheet_X5_isBits : GoodIn wsX5_sheet wsX5_isBits := goodIn_r _ [14] (by decide +kernel) (by decide +kernel)
set_option maxRecDepth 20000 in
theorem gX5_sheet_X5_isBits : GoodIn wsX5_sheet (va_wsS RX5 198 yX5_isBits wsX5_isBits) := goodIn_app (goodIn_of _ (by decide +kernel)) ggX5_sheet_X5_isBits
set_option maxRecDepth 20000 in
theorem ggX5_sheet_X5_finding : GoodIn wsX5_sheet wsX5_finding := goodIn_r _ [18, 1, 19, 9, 10, 7, 11, 32, 33, 34, 35, 36, 37, 38, 39] (by decide +kernel) (by decide +kernel)
set_option maxRecDepth 20000 in
theorem gX5_sheet_X5_finding : GoodIn wsX5_sheet (wsV RX5 62 RX5 yX5_finding wsX5_finding) := goodIn_app (goodIn_of _ (by decide +kernel)) ggX5_sheet_X5_finding
set_option maxRecDepth 20000 in
theorem ggX5_sheet_X1_lay : GoodIn wsX5_sheet wsX1_lay := goodIn_r _ [24, 25, 26, 27, 28, 29, 30, 31, 40, 41, 42] (by decide +kernel) (by decide +kernel)
set_option maxRecDepth 20000 in
theorem gX5_sheet_X1_lay : GoodIn wsX5_sheet (wsV RX5 202 RX1 yX1_lay wsX1_lay) := goodIn_app (goodIn_of _ (by decide +kernel)) ggX5_sheet_X1_lay
theorem dX5_sheet_0 : decode cX5_sheet 0 = .ok (.iload_n 1, 1) := by decide +kernel
theorem dX5_sheet_1 : decode cX5_sheet 1 = .ok (.invokestatic 195, 3) := by decide +kernel
theorem dX5_sheet_4 : decode cX5_sheet 4 = .ok (.ifCond .eq 10, 3) := by decide +kernel
theorem dX5_sheet_7 : decode cX5_sheet 7 = .ok (.iload_n 2, 1) := by decide +kernel
theorem dX5_sheet_8 : decode cX5_sheet 8 = .ok (.invokestatic 198, 3) := by decide +kernel
theorem dX5_sheet_11 : decode cX5_sheet 11 = .ok (.ifCond .ne 10, 3) := by decide +kernel
theorem dX5_sheet_14 : decode cX5_sheet 14 = .ok (.aload_n 0, 1) := by decide +kernel
theorem dX5_sheet_15 : decode cX5_sheet 15 = .ok (.ldc 61, 2) := by decide +kernel
theorem dX5_sheet_17 : decode cX5_sheet 17 = .ok (.invokevirtual 62, 3) := by decide +kernel
theorem dX5_sheet_20 : decode cX5_sheet 20 = .ok (.ireturn, 1) := by decide +kernel
theorem dX5_sheet_21 : decode cX5_sheet 21 = .ok (.iload_n 3, 1) := by decide +kernel
theorem dX5_sheet_22 : decode cX5_sheet 22 = .ok (.ifCond .ge 10, 3) := by decide +kernel
theorem dX5_sheet_25 : decode cX5_sheet 25 = .ok (.aload_n 0, 1) := by decide +kernel
theorem dX5_sheet_26 : decode cX5_sheet 26 = .ok (.ldc 201, 2) := by decide +kernel
theorem dX5_sheet_28 : decode cX5_sheet 28 = .ok (.invokevirtual 62, 3) := by decide +kernel
theorem dX5_sheet_31 : decode cX5_sheet 31 = .ok (.ireturn, 1) := by decide +kernel
theorem dX5_sheet_32 : decode cX5_sheet 32 = .ok (.iload_n 3, 1) := by decide +kernel
theorem dX5_sheet_33 : decode cX5_sheet 33 = .ok (.bipush 40, 2) := by decide +kernel
theorem dX5_sheet_35 : decode cX5_sheet 35 = .ok (.if_icmp .le 10, 3) := by decide +kernel
theorem dX5_sheet_38 : decode cX5_sheet 38 = .ok (.aload_n 0, 1) := by decide +kernel
theorem dX5_sheet_39 : decode cX5_sheet 39 = .ok (.ldc 61, 2) := by decide +kernel
theorem dX5_sheet_41 : decode cX5_sheet 41 = .ok (.invokevirtual 62, 3) := by decide +kernel
theorem dX5_sheet_44 : decode cX5_sheet 44 = .ok (.ireturn, 1) := by decide +kernel
theorem dX5_sheet_45 : decode cX5_sheet 45 = .ok (.aload_n 0, 1) := by decide +kernel
theorem dX5_sheet_46 : decode cX5_sheet 46 = .ok (.getfield 44, 3) := by decide +kernel
theorem dX5_sheet_49 : decode cX5_sheet 49 = .ok (.iload_n 1, 1) := by decide +kernel
theorem dX5_sheet_50 : decode cX5_sheet 50 = .ok (.aaload, 1) := by decide +kernel
theorem dX5_sheet_51 : decode cX5_sheet 51 = .ok (.iload_n 2, 1) := by decide +kernel
theorem dX5_sheet_52 : decode cX5_sheet 52 = .ok (.iload_n 3, 1) := by decide +kernel
theorem dX5_sheet_53 : decode cX5_sheet 53 = .ok (.invokevirtual 202, 3) := by decide +kernel
