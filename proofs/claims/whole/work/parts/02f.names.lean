theorem dX6_token_71 : decode cX6_token 71 = .ok (.getfield 189, 3) := by decide +kernel
theorem dX6_token_74 : decode cX6_token 74 = .ok (.iconst 1, 1) := by decide +kernel
theorem dX6_token_75 : decode cX6_token 75 = .ok (.iadd, 1) := by decide +kernel
theorem dX6_token_76 : decode cX6_token 76 = .ok (.goto 7, 3) := by decide +kernel
theorem dX6_token_79 : decode cX6_token 79 = .ok (.aload_n 0, 1) := by decide +kernel
theorem dX6_token_80 : decode cX6_token 80 = .ok (.getfield 189, 3) := by decide +kernel
theorem dX6_token_83 : decode cX6_token 83 = .ok (.putfield 186, 3) := by decide +kernel
theorem dX6_token_86 : decode cX6_token 86 = .ok (.iload_n 1, 1) := by decide +kernel
theorem dX6_token_87 : decode cX6_token 87 = .ok (.ifCond .eq 17, 3) := by decide +kernel
theorem dX6_token_90 : decode cX6_token 90 = .ok (.aload_n 0, 1) := by decide +kernel
theorem dX6_token_91 : decode cX6_token 91 = .ok (.aload_n 0, 1) := by decide +kernel
theorem dX6_token_92 : decode cX6_token 92 = .ok (.getfield 186, 3) := by decide +kernel
theorem dX6_token_95 : decode cX6_token 95 = .ok (.invokevirtual 192, 3) := by decide +kernel
theorem dX6_token_98 : decode cX6_token 98 = .ok (.invokestatic 195, 3) := by decide +kernel
theorem dX6_token_101 : decode cX6_token 101 = .ok (.ifCond .ne 21, 3) := by decide +kernel
theorem dX6_token_104 : decode cX6_token 104 = .ok (.iload_n 2, 1) := by decide +kernel
theorem dX6_token_105 : decode cX6_token 105 = .ok (.ifCond .eq 30, 3) := by decide +kernel
theorem dX6_token_108 : decode cX6_token 108 = .ok (.aload_n 0, 1) := by decide +kernel
theorem dX6_token_109 : decode cX6_token 109 = .ok (.aload_n 0, 1) := by decide +kernel
theorem dX6_token_110 : decode cX6_token 110 = .ok (.getfield 186, 3) := by decide +kernel
theorem dX6_token_113 : decode cX6_token 113 = .ok (.invokevirtual 192, 3) := by decide +kernel
theorem dX6_token_116 : decode cX6_token 116 = .ok (.invokestatic 198, 3) := by decide +kernel
theorem dX6_token_119 : decode cX6_token 119 = .ok (.ifCond .eq 16, 3) := by decide +kernel
theorem dX6_token_122 : decode cX6_token 122 = .ok (.aload_n 0, 1) := by decide +kernel
theorem dX6_token_123 : decode cX6_token 123 = .ok (.dup, 1) := by decide +kernel
theorem dX6_token_124 : decode cX6_token 124 = .ok (.getfield 186, 3) := by decide +kernel
theorem dX6_token_127 : decode cX6_token 127 = .ok (.iconst 1, 1) := by decide +kernel
theorem dX6_token_128 : decode cX6_token 128 = .ok (.iadd, 1) := by decide +kernel
theorem dX6_token_129 : decode cX6_token 129 = .ok (.putfield 186, 3) := by decide +kernel
theorem dX6_token_132 : decode cX6_token 132 = .ok (.goto (-46), 3) := by decide +kernel
theorem dX6_token_135 : decode cX6_token 135 = .ok (.return_, 1) := by decide +kernel
set_option maxRecDepth 20000 in
theorem ggX6_must_X6_token : GoodIn wsX6_must wsX6_token := goodIn_r _ [6, 7, 8, 9, 10, 11, 12, 5, 13, 14, 15, 16, 17, 18, 19, 20, 21, 22, 23, 24, 25, 26, 27, 28, 29, 30, 31, 32, 33, 34, 35, 36, 37, 38, 39, 40, 41, 42, 43] (by decide +kernel) (by decide +kernel)
set_option maxRecDepth 20000 in
theorem gX6_must_X6_token : GoodIn wsX6_must (wsV RX6 205 RX6 yX6_token wsX6_token) := goodIn_app (goodIn_of _ (by decide +kernel)) ggX6_must_X6_token
theorem dX6_must_0 : decode cX6_must 0 = .ok (.aload_n 0, 1) := by decide +kernel
theorem dX6_must_1 : decode cX6_must 1 = .ok (.aload_n 0, 1) := by decide +kernel
theorem dX6_must_2 : decode cX6_must 2 = .ok (.getfield 201, 3) := by decide +kernel
theorem dX6_must_5 : decode cX6_must 5 = .ok (.ifCond .ne 7, 3) := by decide +kernel
theorem dX6_must_8 : decode cX6_must 8 = .ok (.iload_n 1, 1) := by decide +kernel
theorem dX6_must_9 : decode cX6_must 9 = .ok (.ifCond .ne 7, 3) := by decide +kernel
theorem dX6_must_12 : decode cX6_must 12 = .ok (.iconst 1, 1) := by decide +kernel
theorem dX6_must_13 : decode cX6_must 13 = .ok (.goto 4, 3) := by decide +kernel
theorem dX6_must_16 : decode cX6_must 16 = .ok (.iconst 0, 1) := by decide +kernel
theorem dX6_must_17 : decode cX6_must 17 = .ok (.putfield 201, 3) := by decide +kernel
theorem dX6_must_20 : decode cX6_must 20 = .ok (.aload_n 0, 1) := by decide +kernel
theorem dX6_must_21 : decode cX6_must 21 = .ok (.getfield 201, 3) := by decide +kernel
theorem dX6_must_24 : decode cX6_must 24 = .ok (.ifCond .ne 7, 3) := by decide +kernel
theorem dX6_must_27 : decode cX6_must 27 = .ok (.aload_n 0, 1) := by decide +kernel
theorem dX6_must_28 : decode cX6_must 28 = .ok (.invokevirtual 205, 3) := by decide +kernel
theorem dX6_must_31 : decode cX6_must 31 = .ok (.return_, 1) := by decide +kernel
set_option maxRecDepth 20000 in
theorem ggX6_word_X6_byteAt : GoodIn wsX6_word wsX6_byteAt := goodIn_r _ [11, 12, 5, 21, 22, 23, 24, 25, 26, 27, 28, 29, 30, 31, 32, 33, 34, 35, 36] (by decide +kernel) (by decide +kernel)
set_option maxRecDepth 20000 in
theorem gX6_word_X6_byteAt : GoodIn wsX6_word (wsV RX6 192 RX6 yX6_byteAt wsX6_byteAt) := goodIn_app (goodIn_of _ (by decide +kernel)) ggX6_word_X6_byteAt
set_option maxRecDepth 20000 in
theorem ggX6_word_X6_isLetter : GoodIn wsX6_word wsX6_isLetter := goodIn_r _ [15, 16, 17, 18, 19, 10, 20] (by decide +kernel) (by decide +kernel)
set_option maxRecDepth 20000 in
theorem gX6_word_X6_isLetter : GoodIn wsX6_word (va_wsS RX6 195 yX6_isLetter wsX6_isLetter) := goodIn_app (goodIn_of _ (by decide +kernel)) ggX6_word_X6_isLetter
theorem dX6_word_0 : decode cX6_word 0 = .ok (.lconst 0, 1) := by decide +kernel
theorem dX6_word_1 : decode cX6_word 1 = .ok (.lstore_n 1, 1) := by decide +kernel
theorem dX6_word_2 : decode cX6_word 2 = .ok (.aload_n 0, 1) := by decide +kernel
theorem dX6_word_3 : decode cX6_word 3 = .ok (.getfield 189, 3) := by decide +kernel
theorem dX6_word_6 : decode cX6_word 6 = .ok (.istore_n 3, 1) := by decide +kernel
theorem dX6_word_7 : decode cX6_word 7 = .ok (.iload_n 3, 1) := by decide +kernel
theorem dX6_word_8 : decode cX6_word 8 = .ok (.aload_n 0, 1) := by decide +kernel
theorem dX6_word_9 : decode cX6_word 9 = .ok (.getfield 186, 3) := by decide +kernel
theorem dX6_word_12 : decode cX6_word 12 = .ok (.if_icmp .ge 38, 3) := by decide +kernel
theorem dX6_word_15 : decode cX6_word 15 = .ok (.lload_n 1, 1) := by decide +kernel
theorem dX6_word_16 : decode cX6_word 16 = .ok (.ldc2_w 208, 3) := by decide +kernel
theorem dX6_word_19 : decode cX6_word 19 = .ok (.lcmp, 1) := by decide +kernel
theorem dX6_word_20 : decode cX6_word 20 = .ok (.ifCond .le 7, 3) := by decide +kernel
theorem dX6_word_23 : decode cX6_word 23 = .ok (.lload_n 1, 1) := by decide +kernel
theorem dX6_word_24 : decode cX6_word 24 = .ok (.goto 19, 3) := by decide +kernel
theorem dX6_word_27 : decode cX6_word 27 = .ok (.ldc2_w 210, 3) := by decide +kernel
theorem dX6_word_30 : decode cX6_word 30 = .ok (.lload_n 1, 1) := by decide +kernel
theorem dX6_word_31 : decode cX6_word 31 = .ok (.lmul, 1) := by decide +kernel
theorem dX6_word_32 : decode cX6_word 32 = .ok (.aload_n 0, 1) := by decide +kernel
theorem dX6_word_33 : decode cX6_word 33 = .ok (.getfield 25, 3) := by decide +kernel
theorem dX6_word_36 : decode cX6_word 36 = .ok (.iload_n 3, 1) := by decide +kernel
theorem dX6_word_37 : decode cX6_word 37 = .ok (.iaload, 1) := by decide +kernel
theorem dX6_word_38 : decode cX6_word 38 = .ok (.bipush 96, 2) := by decide +kernel
theorem dX6_word_40 : decode cX6_word 40 = .ok (.isub, 1) := by decide +kernel
theorem dX6_word_41 : decode cX6_word 41 = .ok (.i2l, 1) := by decide +kernel
theorem dX6_word_42 : decode cX6_word 42 = .ok (.ladd, 1) := by decide +kernel
theorem dX6_word_43 : decode cX6_word 43 = .ok (.lstore_n 1, 1) := by decide +kernel
theorem dX6_word_44 : decode cX6_word 44 = .ok (.iinc 3 1, 3) := by decide +kernel
theorem dX6_word_47 : decode cX6_word 47 = .ok (.goto (-40), 3) := by decide +kernel
theorem dX6_word_50 : decode cX6_word 50 = .ok (.aload_n 0, 1) := by decide +kernel
theorem dX6_word_51 : decode cX6_word 51 = .ok (.getfield 201, 3) := by decide +kernel
theorem dX6_word_54 : decode cX6_word 54 = .ok (.ifCond .ne 17, 3) := by decide +kernel
theorem dX6_word_57 : decode cX6_word 57 = .ok (.aload_n 0, 1) := by decide +kernel
theorem dX6_word_58 : decode cX6_word 58 = .ok (.aload_n 0, 1) := by decide +kernel
theorem dX6_word_59 : decode cX6_word 59 = .ok (.getfield 189, 3) := by decide +kernel
theorem dX6_word_62 : decode cX6_word 62 = .ok (.invokevirtual 192, 3) := by decide +kernel
theorem dX6_word_65 : decode cX6_word 65 = .ok (.invokestatic 195, 3) := by decide +kernel
theorem dX6_word_68 : decode cX6_word 68 = .ok (.ifCond .ne 7, 3) := by decide +kernel
theorem dX6_word_71 : decode cX6_word 71 = .ok (.lconst 0, 1) := by decide +kernel
theorem dX6_word_72 : decode cX6_word 72 = .ok (.goto 4, 3) := by decide +kernel
theorem dX6_word_75 : decode cX6_word 75 = .ok (.lload_n 1, 1) := by decide +kernel
theorem dX6_word_76 : decode cX6_word 76 = .ok (.lreturn, 1) := by decide +kernel
set_option maxRecDepth 20000 in
theorem ggX6_number_X6_byteAt : GoodIn wsX6_number wsX6_byteAt := goodIn_r _ [10, 11, 4, 33, 34, 35, 36, 37, 38, 39, 40, 41, 42, 43, 44, 45, 46, 47, 48] (by decide +kernel) (by decide +kernel)
set_option maxRecDepth 20000 in
theorem gX6_number_X6_byteAt : GoodIn wsX6_number (wsV RX6 192 RX6 yX6_byteAt wsX6_byteAt) := goodIn_app (goodIn_of _ (by decide +kernel)) ggX6_number_X6_byteAt
set_option maxRecDepth 20000 in
theorem ggX6_number_X6_isDigit : GoodIn wsX6_number wsX6_isDigit := goodIn_r _ [14, 15, 16, 17, 18, 9, 19] (by decide +kernel) (by decide +kernel)
set_option maxRecDepth 20000 in
theorem gX6_number_X6_isDigit : GoodIn wsX6_number (va_wsS RX6 198 yX6_isDigit wsX6_isDigit) := goodIn_app (goodIn_of _ (by decide +kernel)) ggX6_number_X6_isDigit
set_option maxRecDepth 20000 in
theorem ggX6_number_X6_in : GoodIn wsX6_number wsX6_in := goodIn_r _ [19] (by decide +kernel) (by decide +kernel)
set_option maxRecDepth 20000 in
theorem gX6_number_X6_in : GoodIn wsX6_number (va_wsS RX6 48 yX6_in wsX6_in) := goodIn_app (goodIn_of _ (by decide +kernel)) ggX6_number_X6_in
set_option maxRecDepth 20000 in
theorem ggX6_number_X6_must : GoodIn wsX6_number wsX6_must := goodIn_r _ [23, 1, 24, 25, 26, 9, 27, 3, 2, 11, 6, 7, 8, 10, 4, 28, 29, 30, 31, 32, 17, 18, 19, 12, 13, 14, 15, 16, 33, 34, 35, 36, 37, 38, 39, 40, 41, 42, 43, 44, 45, 46, 47, 48] (by decide +kernel) (by decide +kernel)
set_option maxRecDepth 20000 in
theorem gX6_number_X6_must : GoodIn wsX6_number (wsV RX6 215 RX6 yX6_must wsX6_must) := goodIn_app (goodIn_of _ (by decide +kernel)) ggX6_number_X6_must
theorem dX6_number_0 : decode cX6_number 0 = .ok (.aload_n 0, 1) := by decide +kernel
theorem dX6_number_1 : decode cX6_number 1 = .ok (.getfield 201, 3) := by decide +kernel
theorem dX6_number_4 : decode cX6_number 4 = .ok (.ifCond .eq 4, 3) := by decide +kernel
theorem dX6_number_7 : decode cX6_number 7 = .ok (.return_, 1) := by decide +kernel
theorem dX6_number_8 : decode cX6_number 8 = .ok (.aload_n 0, 1) := by decide +kernel
theorem dX6_number_9 : decode cX6_number 9 = .ok (.aload_n 0, 1) := by decide +kernel
theorem dX6_number_10 : decode cX6_number 10 = .ok (.getfield 189, 3) := by decide +kernel
theorem dX6_number_13 : decode cX6_number 13 = .ok (.invokevirtual 192, 3) := by decide +kernel
theorem dX6_number_16 : decode cX6_number 16 = .ok (.invokestatic 198, 3) := by decide +kernel
theorem dX6_number_19 : decode cX6_number 19 = .ok (.istore_n 3, 1) := by decide +kernel
theorem dX6_number_20 : decode cX6_number 20 = .ok (.iconst 0, 1) := by decide +kernel
theorem dX6_number_21 : decode cX6_number 21 = .ok (.istore 4, 2) := by decide +kernel
theorem dX6_number_23 : decode cX6_number 23 = .ok (.aload_n 0, 1) := by decide +kernel
theorem dX6_number_24 : decode cX6_number 24 = .ok (.getfield 189, 3) := by decide +kernel
theorem dX6_number_27 : decode cX6_number 27 = .ok (.istore 5, 2) := by decide +kernel
theorem dX6_number_29 : decode cX6_number 29 = .ok (.iload 5, 2) := by decide +kernel
theorem dX6_number_31 : decode cX6_number 31 = .ok (.aload_n 0, 1) := by decide +kernel
theorem dX6_number_32 : decode cX6_number 32 = .ok (.getfield 186, 3) := by decide +kernel
theorem dX6_number_35 : decode cX6_number 35 = .ok (.if_icmp .ge 44, 3) := by decide +kernel
theorem dX6_number_38 : decode cX6_number 38 = .ok (.iload_n 3, 1) := by decide +kernel
theorem dX6_number_39 : decode cX6_number 39 = .ok (.ifCond .eq 40, 3) := by decide +kernel
theorem dX6_number_42 : decode cX6_number 42 = .ok (.iload 4, 2) := by decide +kernel
theorem dX6_number_44 : decode cX6_number 44 = .ok (.sipush 999, 3) := by decide +kernel
theorem dX6_number_47 : decode cX6_number 47 = .ok (.if_icmp .le 8, 3) := by decide +kernel
theorem dX6_number_50 : decode cX6_number 50 = .ok (.iload 4, 2) := by decide +kernel
theorem dX6_number_52 : decode cX6_number 52 = .ok (.goto 19, 3) := by decide +kernel
theorem dX6_number_55 : decode cX6_number 55 = .ok (.bipush 10, 2) := by decide +kernel
theorem dX6_number_57 : decode cX6_number 57 = .ok (.iload 4, 2) := by decide +kernel
theorem dX6_number_59 : decode cX6_number 59 = .ok (.imul, 1) := by decide +kernel
theorem dX6_number_60 : decode cX6_number 60 = .ok (.aload_n 0, 1) := by decide +kernel
theorem dX6_number_61 : decode cX6_number 61 = .ok (.getfield 25, 3) := by decide +kernel
theorem dX6_number_64 : decode cX6_number 64 = .ok (.iload 5, 2) := by decide +kernel
theorem dX6_number_66 : decode cX6_number 66 = .ok (.iaload, 1) := by decide +kernel
theorem dX6_number_67 : decode cX6_number 67 = .ok (.iadd, 1) := by decide +kernel
theorem dX6_number_68 : decode cX6_number 68 = .ok (.bipush 48, 2) := by decide +kernel
theorem dX6_number_70 : decode cX6_number 70 = .ok (.isub, 1) := by decide +kernel
theorem dX6_number_71 : decode cX6_number 71 = .ok (.istore 4, 2) := by decide +kernel
theorem dX6_number_73 : decode cX6_number 73 = .ok (.iinc 5 1, 3) := by decide +kernel
theorem dX6_number_76 : decode cX6_number 76 = .ok (.goto (-47), 3) := by decide +kernel
theorem dX6_number_79 : decode cX6_number 79 = .ok (.aload_n 0, 1) := by decide +kernel
theorem dX6_number_80 : decode cX6_number 80 = .ok (.iload 4, 2) := by decide +kernel
theorem dX6_number_82 : decode cX6_number 82 = .ok (.putfield 212, 3) := by decide +kernel
theorem dX6_number_85 : decode cX6_number 85 = .ok (.aload_n 0, 1) := by decide +kernel
theorem dX6_number_86 : decode cX6_number 86 = .ok (.iload_n 3, 1) := by decide +kernel
theorem dX6_number_87 : decode cX6_number 87 = .ok (.ifCond .eq 20, 3) := by decide +kernel
theorem dX6_number_90 : decode cX6_number 90 = .ok (.iload 4, 2) := by decide +kernel
theorem dX6_number_92 : decode cX6_number 92 = .ok (.i2l, 1) := by decide +kernel
theorem dX6_number_93 : decode cX6_number 93 = .ok (.iload_n 1, 1) := by decide +kernel
theorem dX6_number_94 : decode cX6_number 94 = .ok (.i2l, 1) := by decide +kernel
theorem dX6_number_95 : decode cX6_number 95 = .ok (.iload_n 2, 1) := by decide +kernel
theorem dX6_number_96 : decode cX6_number 96 = .ok (.i2l, 1) := by decide +kernel
theorem dX6_number_97 : decode cX6_number 97 = .ok (.invokestatic 48, 3) := by decide +kernel
theorem dX6_number_100 : decode cX6_number 100 = .ok (.ifCond .eq 7, 3) := by decide +kernel
theorem dX6_number_103 : decode cX6_number 103 = .ok (.iconst 1, 1) := by decide +kernel
theorem dX6_number_104 : decode cX6_number 104 = .ok (.goto 4, 3) := by decide +kernel
theorem dX6_number_107 : decode cX6_number 107 = .ok (.iconst 0, 1) := by decide +kernel
theorem dX6_number_108 : decode cX6_number 108 = .ok (.invokevirtual 215, 3) := by decide +kernel
theorem dX6_number_111 : decode cX6_number 111 = .ok (.return_, 1) := by decide +kernel
set_option maxRecDepth 20000 in
theorem ggX6_kindHere_X6_word : GoodIn wsX6_kindHere wsX6_word := goodIn_r _ [11, 12, 13, 14, 15, 16, 17, 18, 19, 20, 10, 21, 22, 23, 24, 25, 26, 27, 28, 29, 30, 31, 32, 33, 34, 35, 36, 37, 38, 39, 40, 41, 42, 43, 44, 45, 46] (by decide +kernel) (by decide +kernel)
set_option maxRecDepth 20000 in
theorem gX6_kindHere_X6_word : GoodIn wsX6_kindHere (wsV RX6 219 RX6 yX6_word wsX6_word) := goodIn_app (goodIn_of _ (by decide +kernel)) ggX6_kindHere_X6_word
theorem dX6_kindHere_0 : decode cX6_kindHere 0 = .ok (.aload_n 0, 1) := by decide +kernel
theorem dX6_kindHere_1 : decode cX6_kindHere 1 = .ok (.invokevirtual 219, 3) := by decide +kernel
theorem dX6_kindHere_4 : decode cX6_kindHere 4 = .ok (.lstore_n 1, 1) := by decide +kernel
theorem dX6_kindHere_5 : decode cX6_kindHere 5 = .ok (.lload_n 1, 1) := by decide +kernel
theorem dX6_kindHere_6 : decode cX6_kindHere 6 = .ok (.ldc2_w 223, 3) := by decide +kernel
theorem dX6_kindHere_9 : decode cX6_kindHere 9 = .ok (.lcmp, 1) := by decide +kernel
theorem dX6_kindHere_10 : decode cX6_kindHere 10 = .ok (.ifCond .ne 7, 3) := by decide +kernel
theorem dX6_kindHere_13 : decode cX6_kindHere 13 = .ok (.iconst 0, 1) := by decide +kernel
theorem dX6_kindHere_14 : decode cX6_kindHere 14 = .ok (.goto 64, 3) := by decide +kernel
theorem dX6_kindHere_17 : decode cX6_kindHere 17 = .ok (.lload_n 1, 1) := by decide +kernel
theorem dX6_kindHere_18 : decode cX6_kindHere 18 = .ok (.ldc2_w 225, 3) := by decide +kernel
theorem dX6_kindHere_21 : decode cX6_kindHere 21 = .ok (.lcmp, 1) := by decide +kernel
theorem dX6_kindHere_22 : decode cX6_kindHere 22 = .ok (.ifCond .ne 7, 3) := by decide +kernel
theorem dX6_kindHere_25 : decode cX6_kindHere 25 = .ok (.iconst 1, 1) := by decide +kernel
theorem dX6_kindHere_26 : decode cX6_kindHere 26 = .ok (.goto 52, 3) := by decide +kernel
theorem dX6_kindHere_29 : decode cX6_kindHere 29 = .ok (.lload_n 1, 1) := by decide +kernel
theorem dX6_kindHere_30 : decode cX6_kindHere 30 = .ok (.ldc2_w 227, 3) := by decide +kernel
theorem dX6_kindHere_33 : decode cX6_kindHere 33 = .ok (.lcmp, 1) := by decide +kernel
theorem dX6_kindHere_34 : decode cX6_kindHere 34 = .ok (.ifCond .ne 7, 3) := by decide +kernel
theorem dX6_kindHere_37 : decode cX6_kindHere 37 = .ok (.iconst 2, 1) := by decide +kernel
theorem dX6_kindHere_38 : decode cX6_kindHere 38 = .ok (.goto 40, 3) := by decide +kernel
theorem dX6_kindHere_41 : decode cX6_kindHere 41 = .ok (.lload_n 1, 1) := by decide +kernel
theorem dX6_kindHere_42 : decode cX6_kindHere 42 = .ok (.ldc2_w 229, 3) := by decide +kernel
theorem dX6_kindHere_45 : decode cX6_kindHere 45 = .ok (.lcmp, 1) := by decide +kernel
theorem dX6_kindHere_46 : decode cX6_kindHere 46 = .ok (.ifCond .ne 7, 3) := by decide +kernel
theorem dX6_kindHere_49 : decode cX6_kindHere 49 = .ok (.iconst 3, 1) := by decide +kernel
theorem dX6_kindHere_50 : decode cX6_kindHere 50 = .ok (.goto 28, 3) := by decide +kernel
theorem dX6_kindHere_53 : decode cX6_kindHere 53 = .ok (.lload_n 1, 1) := by decide +kernel
theorem dX6_kindHere_54 : decode cX6_kindHere 54 = .ok (.ldc2_w 231, 3) := by decide +kernel
theorem dX6_kindHere_57 : decode cX6_kindHere 57 = .ok (.lcmp, 1) := by decide +kernel
theorem dX6_kindHere_58 : decode cX6_kindHere 58 = .ok (.ifCond .ne 7, 3) := by decide +kernel
theorem dX6_kindHere_61 : decode cX6_kindHere 61 = .ok (.iconst 4, 1) := by decide +kernel
theorem dX6_kindHere_62 : decode cX6_kindHere 62 = .ok (.goto 16, 3) := by decide +kernel
theorem dX6_kindHere_65 : decode cX6_kindHere 65 = .ok (.lload_n 1, 1) := by decide +kernel
theorem dX6_kindHere_66 : decode cX6_kindHere 66 = .ok (.ldc2_w 233, 3) := by decide +kernel
theorem dX6_kindHere_69 : decode cX6_kindHere 69 = .ok (.lcmp, 1) := by decide +kernel
theorem dX6_kindHere_70 : decode cX6_kindHere 70 = .ok (.ifCond .ne 7, 3) := by decide +kernel
theorem dX6_kindHere_73 : decode cX6_kindHere 73 = .ok (.iconst 5, 1) := by decide +kernel
theorem dX6_kindHere_74 : decode cX6_kindHere 74 = .ok (.goto 4, 3) := by decide +kernel
theorem dX6_kindHere_77 : decode cX6_kindHere 77 = .ok (.iconst (-1), 1) := by decide +kernel
theorem dX6_kindHere_78 : decode cX6_kindHere 78 = .ok (.ireturn, 1) := by decide +kernel
set_option maxRecDepth 20000 in
theorem ggX6_partItem_X6_word : GoodIn wsX6_partItem wsX6_word := goodIn_r _ [8, 9, 10, 11, 12, 13, 2, 14, 15, 16, 7, 17, 18, 19, 20, 21, 22, 23, 24, 25, 26, 44, 45, 46, 47, 48, 49, 50, 51, 52, 53, 54, 55, 56, 57, 58, 59] (by decide +kernel) (by decide +kernel)
set_option maxRecDepth 20000 in
theorem gX6_partItem_X6_word : GoodIn wsX6_partItem (wsV RX6 219 RX6 yX6_word wsX6_word) := goodIn_app (goodIn_of _ (by decide +kernel)) ggX6_partItem_X6_word
set_option maxRecDepth 20000 in
theorem ggX6_partItem_X6_must : GoodIn wsX6_partItem wsX6_must := goodIn_r _ [30, 2, 31, 32, 33, 7, 34, 10, 9, 18, 14, 15, 16, 17, 13, 19, 20, 21, 22, 23, 24, 25, 26, 35, 36, 37, 38, 39, 44, 45, 46, 47, 48, 49, 50, 51, 52, 53, 54, 55, 56, 57, 58, 59] (by decide +kernel) (by decide +kernel)
set_option maxRecDepth 20000 in
theorem gX6_partItem_X6_must : GoodIn wsX6_partItem (wsV RX6 215 RX6 yX6_must wsX6_must) := goodIn_app (goodIn_of _ (by decide +kernel)) ggX6_partItem_X6_must
set_option maxRecDepth 20000 in
theorem ggX6_partItem_X6_number : GoodIn wsX6_partItem wsX6_number := goodIn_r _ [43, 2, 9, 10, 13, 3, 14, 15, 16, 7, 17, 18, 35, 36, 37, 38, 39, 24, 25, 26, 27, 28, 29, 30, 31, 32, 33, 34, 19, 20, 21, 22, 23, 44, 45, 46, 47, 48, 49, 50, 51, 52, 53, 54, 55, 56, 57, 58, 59] (by decide +kernel) (by decide +kernel)
set_option maxRecDepth 20000 in
theorem gX6_partItem_X6_number : GoodIn wsX6_partItem (wsV RX6 235 RX6 yX6_number wsX6_number) := goodIn_app (goodIn_of _ (by decide +kernel)) ggX6_partItem_X6_number
theorem dX6_partItem_0 : decode cX6_partItem 0 = .ok (.aload_n 0, 1) := by decide +kernel
theorem dX6_partItem_1 : decode cX6_partItem 1 = .ok (.invokevirtual 219, 3) := by decide +kernel
theorem dX6_partItem_4 : decode cX6_partItem 4 = .ok (.lload_n 1, 1) := by decide +kernel
theorem dX6_partItem_5 : decode cX6_partItem 5 = .ok (.lcmp, 1) := by decide +kernel
theorem dX6_partItem_6 : decode cX6_partItem 6 = .ok (.ifCond .ne 41, 3) := by decide +kernel
theorem dX6_partItem_9 : decode cX6_partItem 9 = .ok (.aload_n 0, 1) := by decide +kernel
theorem dX6_partItem_10 : decode cX6_partItem 10 = .ok (.iconst 1, 1) := by decide +kernel
theorem dX6_partItem_11 : decode cX6_partItem 11 = .ok (.invokevirtual 215, 3) := by decide +kernel
theorem dX6_partItem_14 : decode cX6_partItem 14 = .ok (.aload_n 0, 1) := by decide +kernel
theorem dX6_partItem_15 : decode cX6_partItem 15 = .ok (.iconst 0, 1) := by decide +kernel
theorem dX6_partItem_16 : decode cX6_partItem 16 = .ok (.iload 4, 2) := by decide +kernel
theorem dX6_partItem_18 : decode cX6_partItem 18 = .ok (.invokevirtual 235, 3) := by decide +kernel
theorem dX6_partItem_21 : decode cX6_partItem 21 = .ok (.aload_n 0, 1) := by decide +kernel
theorem dX6_partItem_22 : decode cX6_partItem 22 = .ok (.getfield 7, 3) := by decide +kernel
theorem dX6_partItem_25 : decode cX6_partItem 25 = .ok (.iload_n 3, 1) := by decide +kernel
theorem dX6_partItem_26 : decode cX6_partItem 26 = .ok (.aload_n 0, 1) := by decide +kernel
theorem dX6_partItem_27 : decode cX6_partItem 27 = .ok (.getfield 201, 3) := by decide +kernel
theorem dX6_partItem_30 : decode cX6_partItem 30 = .ok (.ifCond .eq 12, 3) := by decide +kernel
theorem dX6_partItem_33 : decode cX6_partItem 33 = .ok (.aload_n 0, 1) := by decide +kernel
theorem dX6_partItem_34 : decode cX6_partItem 34 = .ok (.getfield 7, 3) := by decide +kernel
theorem dX6_partItem_37 : decode cX6_partItem 37 = .ok (.iload_n 3, 1) := by decide +kernel
theorem dX6_partItem_38 : decode cX6_partItem 38 = .ok (.iaload, 1) := by decide +kernel
theorem dX6_partItem_39 : decode cX6_partItem 39 = .ok (.goto 7, 3) := by decide +kernel
theorem dX6_partItem_42 : decode cX6_partItem 42 = .ok (.aload_n 0, 1) := by decide +kernel
theorem dX6_partItem_43 : decode cX6_partItem 43 = .ok (.getfield 212, 3) := by decide +kernel
theorem dX6_partItem_46 : decode cX6_partItem 46 = .ok (.iastore, 1) := by decide +kernel
theorem dX6_partItem_47 : decode cX6_partItem 47 = .ok (.return_, 1) := by decide +kernel
set_option maxRecDepth 20000 in
theorem ggX6_houseItem_X6_must : GoodIn wsX6_houseItem wsX6_must := goodIn_r _ [10, 1, 11, 12, 13, 9, 14, 15, 16, 17, 18, 19, 20, 21, 22, 23, 24, 25, 26, 27, 28, 29, 30, 31, 32, 33, 34, 35, 53, 54, 55, 56, 57, 58, 59, 60, 61, 62, 63, 64, 65, 66, 67, 68] (by decide +kernel) (by decide +kernel)
set_option maxRecDepth 20000 in
theorem gX6_houseItem_X6_must : GoodIn wsX6_houseItem (wsV RX6 215 RX6 yX6_must wsX6_must) := goodIn_app (goodIn_of _ (by decide +kernel)) ggX6_houseItem_X6_must
set_option maxRecDepth 20000 in
theorem ggX6_houseItem_X6_number : GoodIn wsX6_houseItem wsX6_number := goodIn_r _ [39, 1, 16, 15, 22, 2, 18, 19, 20, 9, 21, 17, 31, 32, 33, 34, 35, 28, 29, 30, 6, 7, 8, 10, 11, 12, 13, 14, 23, 24, 25, 26, 27, 53, 54, 55, 56, 57, 58, 59, 60, 61, 62, 63, 64, 65, 66, 67, 68] (by decide +kernel) (by decide +kernel)
set_option maxRecDepth 20000 in
theorem gX6_houseItem_X6_number : GoodIn wsX6_houseItem (wsV RX6 235 RX6 yX6_number wsX6_number) := goodIn_app (goodIn_of _ (by decide +kernel)) ggX6_houseItem_X6_number
set_option maxRecDepth 20000 in
theorem ggX6_houseItem_X6_spotOf : GoodIn wsX6_houseItem wsX6_spotOf := goodIn_r _ [42] (by decide +kernel) (by decide +kernel)
set_option maxRecDepth 20000 in
theorem gX6_houseItem_X6_spotOf : GoodIn wsX6_houseItem (va_wsS RX6 41 yX6_spotOf wsX6_spotOf) := goodIn_app (goodIn_of _ (by decide +kernel)) ggX6_houseItem_X6_spotOf
set_option maxRecDepth 20000 in
theorem ggX6_houseItem_X6_partItem : GoodIn wsX6_houseItem wsX6_partItem := goodIn_r _ [46, 3, 1, 2, 47, 48, 49, 9, 50, 16, 15, 51, 52, 22, 18, 19, 20, 21, 17, 23, 24, 25, 26, 27, 28, 29, 30, 6, 7, 8, 10, 11, 12, 13, 14, 31, 32, 33, 34, 35, 36, 37, 38, 39, 53, 54, 55, 56, 57, 58, 59, 60, 61, 62, 63, 64, 65, 66, 67, 68] (by decide +kernel) (by decide +kernel)
set_option maxRecDepth 20000 in
theorem gX6_houseItem_X6_partItem : GoodIn wsX6_houseItem (wsV RX6 240 RX6 yX6_partItem wsX6_partItem) := goodIn_app (goodIn_of _ (by decide +kernel)) ggX6_houseItem_X6_partItem
theorem dX6_houseItem_0 : decode cX6_houseItem 0 = .ok (.aload_n 0, 1) := by decide +kernel
theorem dX6_houseItem_1 : decode cX6_houseItem 1 = .ok (.iconst 1, 1) := by decide +kernel
theorem dX6_houseItem_2 : decode cX6_houseItem 2 = .ok (.invokevirtual 215, 3) := by decide +kernel
theorem dX6_houseItem_5 : decode cX6_houseItem 5 = .ok (.aload_n 0, 1) := by decide +kernel
theorem dX6_houseItem_6 : decode cX6_houseItem 6 = .ok (.iconst 0, 1) := by decide +kernel
theorem dX6_houseItem_7 : decode cX6_houseItem 7 = .ok (.bipush 7, 2) := by decide +kernel
theorem dX6_houseItem_9 : decode cX6_houseItem 9 = .ok (.invokevirtual 235, 3) := by decide +kernel
theorem dX6_houseItem_12 : decode cX6_houseItem 12 = .ok (.aload_n 0, 1) := by decide +kernel
theorem dX6_houseItem_13 : decode cX6_houseItem 13 = .ok (.getfield 201, 3) := by decide +kernel
theorem dX6_houseItem_16 : decode cX6_houseItem 16 = .ok (.ifCond .eq 4, 3) := by decide +kernel
theorem dX6_houseItem_19 : decode cX6_houseItem 19 = .ok (.return_, 1) := by decide +kernel
theorem dX6_houseItem_20 : decode cX6_houseItem 20 = .ok (.aload_n 0, 1) := by decide +kernel
theorem dX6_houseItem_21 : decode cX6_houseItem 21 = .ok (.getfield 212, 3) := by decide +kernel
theorem dX6_houseItem_24 : decode cX6_houseItem 24 = .ok (.istore_n 2, 1) := by decide +kernel
theorem dX6_houseItem_25 : decode cX6_houseItem 25 = .ok (.aload_n 0, 1) := by decide +kernel
theorem dX6_houseItem_26 : decode cX6_houseItem 26 = .ok (.getfield 7, 3) := by decide +kernel
theorem dX6_houseItem_29 : decode cX6_houseItem 29 = .ok (.iload_n 2, 1) := by decide +kernel
theorem dX6_houseItem_30 : decode cX6_houseItem 30 = .ok (.iconst 0, 1) := by decide +kernel
theorem dX6_houseItem_31 : decode cX6_houseItem 31 = .ok (.invokestatic 41, 3) := by decide +kernel
theorem dX6_houseItem_34 : decode cX6_houseItem 34 = .ok (.iload_n 1, 1) := by decide +kernel
theorem dX6_houseItem_35 : decode cX6_houseItem 35 = .ok (.iastore, 1) := by decide +kernel
theorem dX6_houseItem_36 : decode cX6_houseItem 36 = .ok (.aload_n 0, 1) := by decide +kernel
theorem dX6_houseItem_37 : decode cX6_houseItem 37 = .ok (.ldc2_w 238, 3) := by decide +kernel
theorem dX6_houseItem_40 : decode cX6_houseItem 40 = .ok (.iload_n 2, 1) := by decide +kernel
theorem dX6_houseItem_41 : decode cX6_houseItem 41 = .ok (.iconst 1, 1) := by decide +kernel
theorem dX6_houseItem_42 : decode cX6_houseItem 42 = .ok (.invokestatic 41, 3) := by decide +kernel
theorem dX6_houseItem_45 : decode cX6_houseItem 45 = .ok (.bipush 20, 2) := by decide +kernel
theorem dX6_houseItem_47 : decode cX6_houseItem 47 = .ok (.invokevirtual 240, 3) := by decide +kernel
theorem dX6_houseItem_50 : decode cX6_houseItem 50 = .ok (.aload_n 0, 1) := by decide +kernel
theorem dX6_houseItem_51 : decode cX6_houseItem 51 = .ok (.ldc2_w 244, 3) := by decide +kernel
theorem dX6_houseItem_54 : decode cX6_houseItem 54 = .ok (.iload_n 2, 1) := by decide +kernel
theorem dX6_houseItem_55 : decode cX6_houseItem 55 = .ok (.iconst 2, 1) := by decide +kernel
theorem dX6_houseItem_56 : decode cX6_houseItem 56 = .ok (.invokestatic 41, 3) := by decide +kernel
theorem dX6_houseItem_59 : decode cX6_houseItem 59 = .ok (.sipush 999, 3) := by decide +kernel
theorem dX6_houseItem_62 : decode cX6_houseItem 62 = .ok (.invokevirtual 240, 3) := by decide +kernel
theorem dX6_houseItem_65 : decode cX6_houseItem 65 = .ok (.return_, 1) := by decide +kernel
set_option maxRecDepth 20000 in
theorem ggX6_manItem_X6_must : GoodIn wsX6_manItem wsX6_must := goodIn_r _ [9, 1, 10, 11, 12, 8, 13, 14, 15, 16, 17, 18, 19, 20, 21, 22, 23, 24, 25, 26, 27, 28, 29, 30, 31, 32, 33, 34, 45, 46, 47, 48, 49, 50, 51, 52, 53, 54, 55, 56, 57, 58, 59, 60] (by decide +kernel) (by decide +kernel)
set_option maxRecDepth 20000 in
theorem gX6_manItem_X6_must : GoodIn wsX6_manItem (wsV RX6 215 RX6 yX6_must wsX6_must) := goodIn_app (goodIn_of _ (by decide +kernel)) ggX6_manItem_X6_must
set_option maxRecDepth 20000 in
theorem ggX6_manItem_X6_number : GoodIn wsX6_manItem wsX6_number := goodIn_r _ [38, 1, 15, 14, 21, 3, 17, 18, 19, 8, 20, 16, 30, 31, 32, 33, 34, 27, 28, 29, 5, 6, 7, 9, 10, 11, 12, 13, 22, 23, 24, 25, 26, 45, 46, 47, 48, 49, 50, 51, 52, 53, 54, 55, 56, 57, 58, 59, 60] (by decide +kernel) (by decide +kernel)
set_option maxRecDepth 20000 in
theorem gX6_manItem_X6_number : GoodIn wsX6_manItem (wsV RX6 235 RX6 yX6_number wsX6_number) := goodIn_app (goodIn_of _ (by decide +kernel)) ggX6_manItem_X6_number
set_option maxRecDepth 20000 in
theorem ggX6_manItem_X6_word : GoodIn wsX6_manItem wsX6_word := goodIn_r _ [42, 15, 14, 43, 44, 21, 1, 17, 18, 19, 8, 20, 16, 22, 23, 24, 25, 26, 27, 28, 29, 45, 46, 47, 48, 49, 50, 51, 52, 53, 54, 55, 56, 57, 58, 59, 60] (by decide +kernel) (by decide +kernel)
set_option maxRecDepth 20000 in
theorem gX6_manItem_X6_word : GoodIn wsX6_manItem (wsV RX6 219 RX6 yX6_word wsX6_word) := goodIn_app (goodIn_of _ (by decide +kernel)) ggX6_manItem_X6_word
theorem dX6_manItem_0 : decode cX6_manItem 0 = .ok (.aload_n 0, 1) := by decide +kernel
theorem dX6_manItem_1 : decode cX6_manItem 1 = .ok (.iconst 1, 1) := by decide +kernel
theorem dX6_manItem_2 : decode cX6_manItem 2 = .ok (.invokevirtual 215, 3) := by decide +kernel
theorem dX6_manItem_5 : decode cX6_manItem 5 = .ok (.aload_n 0, 1) := by decide +kernel
theorem dX6_manItem_6 : decode cX6_manItem 6 = .ok (.iconst 0, 1) := by decide +kernel
theorem dX6_manItem_7 : decode cX6_manItem 7 = .ok (.bipush 7, 2) := by decide +kernel
theorem dX6_manItem_9 : decode cX6_manItem 9 = .ok (.invokevirtual 235, 3) := by decide +kernel
theorem dX6_manItem_12 : decode cX6_manItem 12 = .ok (.aload_n 0, 1) := by decide +kernel
theorem dX6_manItem_13 : decode cX6_manItem 13 = .ok (.getfield 201, 3) := by decide +kernel
theorem dX6_manItem_16 : decode cX6_manItem 16 = .ok (.ifCond .eq 4, 3) := by decide +kernel
theorem dX6_manItem_19 : decode cX6_manItem 19 = .ok (.return_, 1) := by decide +kernel
theorem dX6_manItem_20 : decode cX6_manItem 20 = .ok (.aload_n 0, 1) := by decide +kernel
theorem dX6_manItem_21 : decode cX6_manItem 21 = .ok (.getfield 7, 3) := by decide +kernel
theorem dX6_manItem_24 : decode cX6_manItem 24 = .ok (.iconst 1, 1) := by decide +kernel
theorem dX6_manItem_25 : decode cX6_manItem 25 = .ok (.aload_n 0, 1) := by decide +kernel
theorem dX6_manItem_26 : decode cX6_manItem 26 = .ok (.getfield 212, 3) := by decide +kernel
theorem dX6_manItem_29 : decode cX6_manItem 29 = .ok (.iastore, 1) := by decide +kernel
theorem dX6_manItem_30 : decode cX6_manItem 30 = .ok (.aload_n 0, 1) := by decide +kernel
theorem dX6_manItem_31 : decode cX6_manItem 31 = .ok (.getfield 7, 3) := by decide +kernel
theorem dX6_manItem_34 : decode cX6_manItem 34 = .ok (.iconst 2, 1) := by decide +kernel
theorem dX6_manItem_35 : decode cX6_manItem 35 = .ok (.iconst 1, 1) := by decide +kernel
theorem dX6_manItem_36 : decode cX6_manItem 36 = .ok (.iastore, 1) := by decide +kernel
theorem dX6_manItem_37 : decode cX6_manItem 37 = .ok (.aload_n 0, 1) := by decide +kernel
theorem dX6_manItem_38 : decode cX6_manItem 38 = .ok (.invokevirtual 219, 3) := by decide +kernel
theorem dX6_manItem_41 : decode cX6_manItem 41 = .ok (.ldc2_w 246, 3) := by decide +kernel
theorem dX6_manItem_44 : decode cX6_manItem 44 = .ok (.lcmp, 1) := by decide +kernel
theorem dX6_manItem_45 : decode cX6_manItem 45 = .ok (.ifCond .ne 15, 3) := by decide +kernel
theorem dX6_manItem_48 : decode cX6_manItem 48 = .ok (.aload_n 0, 1) := by decide +kernel
theorem dX6_manItem_49 : decode cX6_manItem 49 = .ok (.iconst 1, 1) := by decide +kernel
theorem dX6_manItem_50 : decode cX6_manItem 50 = .ok (.invokevirtual 215, 3) := by decide +kernel
theorem dX6_manItem_53 : decode cX6_manItem 53 = .ok (.aload_n 0, 1) := by decide +kernel
theorem dX6_manItem_54 : decode cX6_manItem 54 = .ok (.getfield 7, 3) := by decide +kernel
theorem dX6_manItem_57 : decode cX6_manItem 57 = .ok (.iconst 2, 1) := by decide +kernel
theorem dX6_manItem_58 : decode cX6_manItem 58 = .ok (.iconst 0, 1) := by decide +kernel
theorem dX6_manItem_59 : decode cX6_manItem 59 = .ok (.iastore, 1) := by decide +kernel
theorem dX6_manItem_60 : decode cX6_manItem 60 = .ok (.return_, 1) := by decide +kernel
set_option maxRecDepth 20000 in
theorem ggX6_item_X6_kindHere : GoodIn wsX6_item wsX6_kindHere := goodIn_r _ [11, 12, 13, 14, 15, 16, 17, 18, 19, 20, 10, 21, 22, 23, 24, 25, 26, 5, 27, 28, 29, 30, 31, 32, 33, 34, 35, 36, 37, 38, 39, 75, 76, 77, 78, 79, 80, 81, 82, 83, 84, 85, 86, 87, 88, 89, 90] (by decide +kernel) (by decide +kernel)
set_option maxRecDepth 20000 in
theorem gX6_item_X6_kindHere : GoodIn wsX6_item (wsV RX6 248 RX6 yX6_kindHere wsX6_kindHere) := goodIn_app (goodIn_of _ (by decide +kernel)) ggX6_item_X6_kindHere
set_option maxRecDepth 20000 in
theorem ggX6_item_X6_word : GoodIn wsX6_item wsX6_word := goodIn_r _ [21, 22, 23, 24, 25, 26, 5, 27, 28, 29, 10, 30, 31, 32, 33, 34, 35, 36, 37, 38, 39, 75, 76, 77, 78, 79, 80, 81, 82, 83, 84, 85, 86, 87, 88, 89, 90] (by decide +kernel) (by decide +kernel)
set_option maxRecDepth 20000 in
theorem gX6_item_X6_word : GoodIn wsX6_item (wsV RX6 219 RX6 yX6_word wsX6_word) := goodIn_app (goodIn_of _ (by decide +kernel)) ggX6_item_X6_word
set_option maxRecDepth 20000 in
theorem ggX6_item_X6_houseItem : GoodIn wsX6_item wsX6_houseItem := goodIn_r _ [43, 5, 6, 4, 44, 45, 46, 47, 48, 10, 49, 50, 51, 52, 53, 23, 22, 31, 27, 28, 29, 30, 26, 32, 33, 34, 35, 36, 37, 38, 39, 54, 55, 56, 57, 58, 59, 60, 61, 62, 63, 64, 65, 66, 67, 68, 69, 18, 19, 20, 21, 24, 25, 75, 76, 77, 78, 79, 80, 81, 82, 83, 84, 85, 86, 87, 88, 89, 90] (by decide +kernel) (by decide +kernel)
set_option maxRecDepth 20000 in
theorem gX6_item_X6_houseItem : GoodIn wsX6_item (wsV RX6 254 RX6 yX6_houseItem wsX6_houseItem) := goodIn_app (goodIn_of _ (by decide +kernel)) ggX6_item_X6_houseItem
set_option maxRecDepth 20000 in
theorem ggX6_item_X6_manItem : GoodIn wsX6_item wsX6_manItem := goodIn_r _ [73, 5, 4, 6, 74, 46, 47, 48, 10, 49, 50, 51, 52, 53, 23, 22, 31, 27, 28, 29, 30, 26, 32, 33, 34, 35, 36, 37, 38, 39, 54, 55, 56, 57, 58, 59, 60, 61, 62, 18, 19, 20, 21, 24, 25, 75, 76, 77, 78, 79, 80, 81, 82, 83, 84, 85, 86, 87, 88, 89, 90] (by decide +kernel) (by decide +kernel)
set_option maxRecDepth 20000 in
theorem gX6_item_X6_manItem : GoodIn wsX6_item (wsV RX6 259 RX6 yX6_manItem wsX6_manItem) := goodIn_app (goodIn_of _ (by decide +kernel)) ggX6_item_X6_manItem
set_option maxRecDepth 20000 in
theorem ggX6_item_X6_must : GoodIn wsX6_item wsX6_must := goodIn_r _ [49, 5, 50, 51, 52, 10, 53, 23, 22, 31, 27, 28, 29, 30, 26, 32, 33, 34, 35, 36, 37, 38, 39, 54, 55, 56, 57, 58, 75, 76, 77, 78, 79, 80, 81, 82, 83, 84, 85, 86, 87, 88, 89, 90] (by decide +kernel) (by decide +kernel)
set_option maxRecDepth 20000 in
theorem gX6_item_X6_must : GoodIn wsX6_item (wsV RX6 215 RX6 yX6_must wsX6_must) := goodIn_app (goodIn_of _ (by decide +kernel)) ggX6_item_X6_must
set_option maxRecDepth 20000 in
theorem ggX6_item_X6_number : GoodIn wsX6_item wsX6_number := goodIn_r _ [62, 5, 22, 23, 26, 6, 27, 28, 29, 10, 30, 31, 54, 55, 56, 57, 58, 37, 38, 39, 46, 47, 48, 49, 50, 51, 52, 53, 32, 33, 34, 35, 36, 75, 76, 77, 78, 79, 80, 81, 82, 83, 84, 85, 86, 87, 88, 89, 90] (by decide +kernel) (by decide +kernel)
set_option maxRecDepth 20000 in
theorem gX6_item_X6_number : GoodIn wsX6_item (wsV RX6 235 RX6 yX6_number wsX6_number) := goodIn_app (goodIn_of _ (by decide +kernel)) ggX6_item_X6_number
theorem dX6_item_0 : decode cX6_item 0 = .ok (.aload_n 0, 1) := by decide +kernel
theorem dX6_item_1 : decode cX6_item 1 = .ok (.invokevirtual 248, 3) := by decide +kernel
theorem dX6_item_4 : decode cX6_item 4 = .ok (.istore_n 1, 1) := by decide +kernel
theorem dX6_item_5 : decode cX6_item 5 = .ok (.aload_n 0, 1) := by decide +kernel
theorem dX6_item_6 : decode cX6_item 6 = .ok (.invokevirtual 219, 3) := by decide +kernel
theorem dX6_item_9 : decode cX6_item 9 = .ok (.lstore_n 2, 1) := by decide +kernel
theorem dX6_item_10 : decode cX6_item 10 = .ok (.lload_n 2, 1) := by decide +kernel
theorem dX6_item_11 : decode cX6_item 11 = .ok (.ldc2_w 252, 3) := by decide +kernel
theorem dX6_item_14 : decode cX6_item 14 = .ok (.lcmp, 1) := by decide +kernel
theorem dX6_item_15 : decode cX6_item 15 = .ok (.ifCond .ne 7, 3) := by decide +kernel
theorem dX6_item_18 : decode cX6_item 18 = .ok (.iconst 1, 1) := by decide +kernel
theorem dX6_item_19 : decode cX6_item 19 = .ok (.goto 4, 3) := by decide +kernel
theorem dX6_item_22 : decode cX6_item 22 = .ok (.iconst 0, 1) := by decide +kernel
theorem dX6_item_23 : decode cX6_item 23 = .ok (.istore 4, 2) := by decide +kernel
theorem dX6_item_25 : decode cX6_item 25 = .ok (.iload_n 1, 1) := by decide +kernel
theorem dX6_item_26 : decode cX6_item 26 = .ok (.ifCond .lt 11, 3) := by decide +kernel
theorem dX6_item_29 : decode cX6_item 29 = .ok (.aload_n 0, 1) := by decide +kernel
theorem dX6_item_30 : decode cX6_item 30 = .ok (.iload_n 1, 1) := by decide +kernel
theorem dX6_item_31 : decode cX6_item 31 = .ok (.invokevirtual 254, 3) := by decide +kernel
theorem dX6_item_34 : decode cX6_item 34 = .ok (.goto 98, 3) := by decide +kernel
theorem dX6_item_37 : decode cX6_item 37 = .ok (.lload_n 2, 1) := by decide +kernel
theorem dX6_item_38 : decode cX6_item 38 = .ok (.ldc2_w 257, 3) := by decide +kernel
theorem dX6_item_41 : decode cX6_item 41 = .ok (.lcmp, 1) := by decide +kernel
theorem dX6_item_42 : decode cX6_item 42 = .ok (.ifCond .ne 10, 3) := by decide +kernel
theorem dX6_item_45 : decode cX6_item 45 = .ok (.aload_n 0, 1) := by decide +kernel
theorem dX6_item_46 : decode cX6_item 46 = .ok (.invokevirtual 259, 3) := by decide +kernel
theorem dX6_item_49 : decode cX6_item 49 = .ok (.goto 83, 3) := by decide +kernel
theorem dX6_item_52 : decode cX6_item 52 = .ok (.aload_n 0, 1) := by decide +kernel
theorem dX6_item_53 : decode cX6_item 53 = .ok (.iload 4, 2) := by decide +kernel
theorem dX6_item_55 : decode cX6_item 55 = .ok (.ifCond .ne 11, 3) := by decide +kernel
theorem dX6_item_58 : decode cX6_item 58 = .ok (.lload_n 2, 1) := by decide +kernel
theorem dX6_item_59 : decode cX6_item 59 = .ok (.ldc2_w 262, 3) := by decide +kernel
theorem dX6_item_62 : decode cX6_item 62 = .ok (.lcmp, 1) := by decide +kernel
theorem dX6_item_63 : decode cX6_item 63 = .ok (.ifCond .ne 7, 3) := by decide +kernel
theorem dX6_item_66 : decode cX6_item 66 = .ok (.iconst 1, 1) := by decide +kernel
theorem dX6_item_67 : decode cX6_item 67 = .ok (.goto 4, 3) := by decide +kernel
theorem dX6_item_70 : decode cX6_item 70 = .ok (.iconst 0, 1) := by decide +kernel
theorem dX6_item_71 : decode cX6_item 71 = .ok (.invokevirtual 215, 3) := by decide +kernel
theorem dX6_item_74 : decode cX6_item 74 = .ok (.aload_n 0, 1) := by decide +kernel
theorem dX6_item_75 : decode cX6_item 75 = .ok (.iconst 0, 1) := by decide +kernel
theorem dX6_item_76 : decode cX6_item 76 = .ok (.iload 4, 2) := by decide +kernel
theorem dX6_item_78 : decode cX6_item 78 = .ok (.ifCond .eq 9, 3) := by decide +kernel
theorem dX6_item_81 : decode cX6_item 81 = .ok (.sipush 999, 3) := by decide +kernel
theorem dX6_item_84 : decode cX6_item 84 = .ok (.goto 5, 3) := by decide +kernel
theorem dX6_item_87 : decode cX6_item 87 = .ok (.bipush 99, 2) := by decide +kernel
theorem dX6_item_89 : decode cX6_item 89 = .ok (.invokevirtual 235, 3) := by decide +kernel
theorem dX6_item_92 : decode cX6_item 92 = .ok (.iload 4, 2) := by decide +kernel
theorem dX6_item_94 : decode cX6_item 94 = .ok (.ifCond .eq 7, 3) := by decide +kernel
theorem dX6_item_97 : decode cX6_item 97 = .ok (.iconst 3, 1) := by decide +kernel
theorem dX6_item_98 : decode cX6_item 98 = .ok (.goto 4, 3) := by decide +kernel
theorem dX6_item_101 : decode cX6_item 101 = .ok (.iconst 5, 1) := by decide +kernel
theorem dX6_item_102 : decode cX6_item 102 = .ok (.istore 5, 2) := by decide +kernel
theorem dX6_item_104 : decode cX6_item 104 = .ok (.aload_n 0, 1) := by decide +kernel
theorem dX6_item_105 : decode cX6_item 105 = .ok (.getfield 7, 3) := by decide +kernel
theorem dX6_item_108 : decode cX6_item 108 = .ok (.iload 5, 2) := by decide +kernel
theorem dX6_item_110 : decode cX6_item 110 = .ok (.aload_n 0, 1) := by decide +kernel
theorem dX6_item_111 : decode cX6_item 111 = .ok (.getfield 201, 3) := by decide +kernel
theorem dX6_item_114 : decode cX6_item 114 = .ok (.ifCond .eq 13, 3) := by decide +kernel
theorem dX6_item_117 : decode cX6_item 117 = .ok (.aload_n 0, 1) := by decide +kernel
theorem dX6_item_118 : decode cX6_item 118 = .ok (.getfield 7, 3) := by decide +kernel
theorem dX6_item_121 : decode cX6_item 121 = .ok (.iload 5, 2) := by decide +kernel
theorem dX6_item_123 : decode cX6_item 123 = .ok (.iaload, 1) := by decide +kernel
theorem dX6_item_124 : decode cX6_item 124 = .ok (.goto 7, 3) := by decide +kernel
theorem dX6_item_127 : decode cX6_item 127 = .ok (.aload_n 0, 1) := by decide +kernel
theorem dX6_item_128 : decode cX6_item 128 = .ok (.getfield 212, 3) := by decide +kernel
theorem dX6_item_131 : decode cX6_item 131 = .ok (.iastore, 1) := by decide +kernel
theorem dX6_item_132 : decode cX6_item 132 = .ok (.return_, 1) := by decide +kernel
set_option maxRecDepth 20000 in
theorem ggX6_terrace_X6_saves : GoodIn wsX6_terrace wsX6_saves := goodIn_r _ [9, 10, 11, 88, 89, 90, 91, 92, 93, 94, 95, 96, 97, 98, 99, 100, 101, 102, 103] (by decide +kernel) (by decide +kernel)
set_option maxRecDepth 20000 in
theorem gX6_terrace_X6_saves : GoodIn wsX6_terrace (wsV RX6 264 RX6 yX6_saves wsX6_saves) := goodIn_app (goodIn_of _ (by decide +kernel)) ggX6_terrace_X6_saves
set_option maxRecDepth 20000 in
theorem ggX6_terrace_X6_token : GoodIn wsX6_terrace wsX6_token := goodIn_r _ [15, 2, 3, 4, 16, 17, 18, 8, 19, 20, 21, 22, 23, 24, 25, 26, 27, 28, 29, 30, 31, 32, 33, 88, 89, 90, 91, 92, 93, 94, 95, 96, 97, 98, 99, 100, 101, 102, 103] (by decide +kernel) (by decide +kernel)
set_option maxRecDepth 20000 in
theorem gX6_terrace_X6_token : GoodIn wsX6_terrace (wsV RX6 205 RX6 yX6_token wsX6_token) := goodIn_app (goodIn_of _ (by decide +kernel)) ggX6_terrace_X6_token
set_option maxRecDepth 20000 in
theorem ggX6_terrace_X6_item : GoodIn wsX6_terrace wsX6_item := goodIn_r _ [37, 38, 39, 40, 11, 1, 41, 42, 43, 44, 8, 45, 46, 47, 48, 49, 50, 51, 52, 53, 54, 55, 3, 2, 56, 57, 20, 16, 17, 18, 19, 4, 21, 22, 23, 24, 25, 26, 27, 28, 58, 59, 60, 61, 62, 63, 64, 65, 66, 67, 12, 13, 14, 15, 29, 30, 31, 32, 33, 68, 69, 70, 71, 72, 73, 74, 75, 76, 77, 78, 79, 80, 81, 82, 83, 88, 89, 90, 91, 92, 93, 94, 95, 96, 97, 98, 99, 100, 101, 102, 103] (by decide +kernel) (by decide +kernel)
set_option maxRecDepth 20000 in
theorem gX6_terrace_X6_item : GoodIn wsX6_terrace (wsV RX6 267 RX6 yX6_item wsX6_item) := goodIn_app (goodIn_of _ (by decide +kernel)) ggX6_terrace_X6_item
set_option maxRecDepth 20000 in
theorem ggX6_terrace_X6_byteAt : GoodIn wsX6_terrace wsX6_byteAt := goodIn_r _ [19, 4, 20, 88, 89, 90, 91, 92, 93, 94, 95, 96, 97, 98, 99, 100, 101, 102, 103] (by decide +kernel) (by decide +kernel)
set_option maxRecDepth 20000 in
theorem gX6_terrace_X6_byteAt : GoodIn wsX6_terrace (wsV RX6 192 RX6 yX6_byteAt wsX6_byteAt) := goodIn_app (goodIn_of _ (by decide +kernel)) ggX6_terrace_X6_byteAt
set_option maxRecDepth 20000 in
theorem ggX6_terrace_X6_must : GoodIn wsX6_terrace wsX6_must := goodIn_r _ [67, 1, 12, 13, 14, 8, 15, 2, 3, 4, 16, 17, 18, 19, 20, 21, 22, 23, 24, 25, 26, 27, 28, 29, 30, 31, 32, 33, 88, 89, 90, 91, 92, 93, 94, 95, 96, 97, 98, 99, 100, 101, 102, 103] (by decide +kernel) (by decide +kernel)
set_option maxRecDepth 20000 in
theorem gX6_terrace_X6_must : GoodIn wsX6_terrace (wsV RX6 215 RX6 yX6_must wsX6_must) := goodIn_app (goodIn_of _ (by decide +kernel)) ggX6_terrace_X6_must
set_option maxRecDepth 20000 in
theorem ggX6_terrace_X6_putsBack : GoodIn wsX6_terrace wsX6_putsBack := goodIn_r _ [87, 11, 10, 88, 89, 90, 91, 92, 93, 94, 95, 96, 97, 98, 99, 100, 101, 102, 103] (by decide +kernel) (by decide +kernel)
set_option maxRecDepth 20000 in
theorem gX6_terrace_X6_putsBack : GoodIn wsX6_terrace (wsV RX6 270 RX6 yX6_putsBack wsX6_putsBack) := goodIn_app (goodIn_of _ (by decide +kernel)) ggX6_terrace_X6_putsBack
theorem dX6_terrace_0 : decode cX6_terrace 0 = .ok (.aload_n 0, 1) := by decide +kernel
theorem dX6_terrace_1 : decode cX6_terrace 1 = .ok (.invokevirtual 264, 3) := by decide +kernel
theorem dX6_terrace_4 : decode cX6_terrace 4 = .ok (.aload_n 0, 1) := by decide +kernel
theorem dX6_terrace_5 : decode cX6_terrace 5 = .ok (.iconst 0, 1) := by decide +kernel
theorem dX6_terrace_6 : decode cX6_terrace 6 = .ok (.putfield 201, 3) := by decide +kernel
theorem dX6_terrace_9 : decode cX6_terrace 9 = .ok (.aload_n 0, 1) := by decide +kernel
theorem dX6_terrace_10 : decode cX6_terrace 10 = .ok (.iconst 0, 1) := by decide +kernel
theorem dX6_terrace_11 : decode cX6_terrace 11 = .ok (.putfield 186, 3) := by decide +kernel
theorem dX6_terrace_14 : decode cX6_terrace 14 = .ok (.aload_n 0, 1) := by decide +kernel
theorem dX6_terrace_15 : decode cX6_terrace 15 = .ok (.invokevirtual 205, 3) := by decide +kernel
theorem dX6_terrace_18 : decode cX6_terrace 18 = .ok (.iconst 1, 1) := by decide +kernel
theorem dX6_terrace_19 : decode cX6_terrace 19 = .ok (.istore_n 1, 1) := by decide +kernel
theorem dX6_terrace_20 : decode cX6_terrace 20 = .ok (.aload_n 0, 1) := by decide +kernel
theorem dX6_terrace_21 : decode cX6_terrace 21 = .ok (.invokevirtual 267, 3) := by decide +kernel
theorem dX6_terrace_24 : decode cX6_terrace 24 = .ok (.aload_n 0, 1) := by decide +kernel
theorem dX6_terrace_25 : decode cX6_terrace 25 = .ok (.getfield 201, 3) := by decide +kernel
theorem dX6_terrace_28 : decode cX6_terrace 28 = .ok (.ifCond .ne 31, 3) := by decide +kernel
theorem dX6_terrace_31 : decode cX6_terrace 31 = .ok (.aload_n 0, 1) := by decide +kernel
theorem dX6_terrace_32 : decode cX6_terrace 32 = .ok (.aload_n 0, 1) := by decide +kernel
theorem dX6_terrace_33 : decode cX6_terrace 33 = .ok (.getfield 189, 3) := by decide +kernel
theorem dX6_terrace_36 : decode cX6_terrace 36 = .ok (.invokevirtual 192, 3) := by decide +kernel
theorem dX6_terrace_39 : decode cX6_terrace 39 = .ok (.bipush 59, 2) := by decide +kernel
theorem dX6_terrace_41 : decode cX6_terrace 41 = .ok (.if_icmp .ne 18, 3) := by decide +kernel
theorem dX6_terrace_44 : decode cX6_terrace 44 = .ok (.aload_n 0, 1) := by decide +kernel
theorem dX6_terrace_45 : decode cX6_terrace 45 = .ok (.iconst 1, 1) := by decide +kernel
theorem dX6_terrace_46 : decode cX6_terrace 46 = .ok (.invokevirtual 215, 3) := by decide +kernel
theorem dX6_terrace_49 : decode cX6_terrace 49 = .ok (.aload_n 0, 1) := by decide +kernel
theorem dX6_terrace_50 : decode cX6_terrace 50 = .ok (.invokevirtual 267, 3) := by decide +kernel
theorem dX6_terrace_53 : decode cX6_terrace 53 = .ok (.iinc 1 1, 3) := by decide +kernel
theorem dX6_terrace_56 : decode cX6_terrace 56 = .ok (.goto (-32), 3) := by decide +kernel
theorem dX6_terrace_59 : decode cX6_terrace 59 = .ok (.aload_n 0, 1) := by decide +kernel
theorem dX6_terrace_60 : decode cX6_terrace 60 = .ok (.aload_n 0, 1) := by decide +kernel
theorem dX6_terrace_61 : decode cX6_terrace 61 = .ok (.getfield 201, 3) := by decide +kernel
theorem dX6_terrace_64 : decode cX6_terrace 64 = .ok (.ifCond .ne 14, 3) := by decide +kernel
theorem dX6_terrace_67 : decode cX6_terrace 67 = .ok (.aload_n 0, 1) := by decide +kernel
theorem dX6_terrace_68 : decode cX6_terrace 68 = .ok (.getfield 189, 3) := by decide +kernel
theorem dX6_terrace_71 : decode cX6_terrace 71 = .ok (.aload_n 0, 1) := by decide +kernel
theorem dX6_terrace_72 : decode cX6_terrace 72 = .ok (.getfield 173, 3) := by decide +kernel
theorem dX6_terrace_75 : decode cX6_terrace 75 = .ok (.if_icmp .ge 7, 3) := by decide +kernel
theorem dX6_terrace_78 : decode cX6_terrace 78 = .ok (.iconst 1, 1) := by decide +kernel
theorem dX6_terrace_79 : decode cX6_terrace 79 = .ok (.goto 4, 3) := by decide +kernel
theorem dX6_terrace_82 : decode cX6_terrace 82 = .ok (.iconst 0, 1) := by decide +kernel
theorem dX6_terrace_83 : decode cX6_terrace 83 = .ok (.putfield 201, 3) := by decide +kernel
theorem dX6_terrace_86 : decode cX6_terrace 86 = .ok (.aload_n 0, 1) := by decide +kernel
theorem dX6_terrace_87 : decode cX6_terrace 87 = .ok (.getfield 201, 3) := by decide +kernel
theorem dX6_terrace_90 : decode cX6_terrace 90 = .ok (.ifCond .eq 7, 3) := by decide +kernel
theorem dX6_terrace_93 : decode cX6_terrace 93 = .ok (.aload_n 0, 1) := by decide +kernel
theorem dX6_terrace_94 : decode cX6_terrace 94 = .ok (.invokevirtual 270, 3) := by decide +kernel
theorem dX6_terrace_97 : decode cX6_terrace 97 = .ok (.aload_n 0, 1) := by decide +kernel
theorem dX6_terrace_98 : decode cX6_terrace 98 = .ok (.iconst 0, 1) := by decide +kernel
theorem dX6_terrace_99 : decode cX6_terrace 99 = .ok (.putfield 173, 3) := by decide +kernel
theorem dX6_terrace_102 : decode cX6_terrace 102 = .ok (.aload_n 0, 1) := by decide +kernel
theorem dX6_terrace_103 : decode cX6_terrace 103 = .ok (.getfield 201, 3) := by decide +kernel
theorem dX6_terrace_106 : decode cX6_terrace 106 = .ok (.ifCond .eq 12, 3) := by decide +kernel
theorem dX6_terrace_109 : decode cX6_terrace 109 = .ok (.iconst (-1), 1) := by decide +kernel
theorem dX6_terrace_110 : decode cX6_terrace 110 = .ok (.aload_n 0, 1) := by decide +kernel
theorem dX6_terrace_111 : decode cX6_terrace 111 = .ok (.getfield 189, 3) := by decide +kernel
theorem dX6_terrace_114 : decode cX6_terrace 114 = .ok (.isub, 1) := by decide +kernel
theorem dX6_terrace_115 : decode cX6_terrace 115 = .ok (.goto 4, 3) := by decide +kernel
theorem dX6_terrace_118 : decode cX6_terrace 118 = .ok (.iload_n 1, 1) := by decide +kernel
theorem dX6_terrace_119 : decode cX6_terrace 119 = .ok (.ireturn, 1) := by decide +kernel
set_option maxRecDepth 20000 in
theorem ggX6_isOne_X6_in : GoodIn wsX6_isOne wsX6_in := goodIn_r _ [5] (by decide +kernel) (by decide +kernel)
set_option maxRecDepth 20000 in
theorem gX6_isOne_X6_in : GoodIn wsX6_isOne (va_wsS RX6 48 yX6_in wsX6_in) := goodIn_app (goodIn_of _ (by decide +kernel)) ggX6_isOne_X6_in
theorem dX6_isOne_0 : decode cX6_isOne 0 = .ok (.iload_n 0, 1) := by decide +kernel
theorem dX6_isOne_1 : decode cX6_isOne 1 = .ok (.i2l, 1) := by decide +kernel
theorem dX6_isOne_2 : decode cX6_isOne 2 = .ok (.lconst 0, 1) := by decide +kernel
theorem dX6_isOne_3 : decode cX6_isOne 3 = .ok (.ldc2_w 107, 3) := by decide +kernel
theorem dX6_isOne_6 : decode cX6_isOne 6 = .ok (.invokestatic 48, 3) := by decide +kernel
theorem dX6_isOne_9 : decode cX6_isOne 9 = .ok (.ireturn, 1) := by decide +kernel
set_option maxRecDepth 20000 in
theorem ggX6_sheet_X6_isOne : GoodIn wsX6_sheet wsX6_isOne := goodIn_r _ [9, 10, 11, 12, 8, 13] (by decide +kernel) (by decide +kernel)
set_option maxRecDepth 20000 in
theorem gX6_sheet_X6_isOne : GoodIn wsX6_sheet (va_wsS RX6 273 yX6_isOne wsX6_isOne) := goodIn_app (goodIn_of _ (by decide +kernel)) ggX6_sheet_X6_isOne
set_option maxRecDepth 20000 in
theorem ggX6_sheet_X6_finds : GoodIn wsX6_sheet wsX6_finds := goodIn_r _ [17, 18, 1, 19, 20, 21, 22, 23, 24, 25, 26, 27, 28, 29, 30, 31, 32, 33, 34] (by decide +kernel) (by decide +kernel)
set_option maxRecDepth 20000 in
theorem gX6_sheet_X6_finds : GoodIn wsX6_sheet (wsV RX6 73 RX6 yX6_finds wsX6_finds) := goodIn_app (goodIn_of _ (by decide +kernel)) ggX6_sheet_X6_finds
theorem dX6_sheet_0 : decode cX6_sheet 0 = .ok (.iload_n 1, 1) := by decide +kernel
theorem dX6_sheet_1 : decode cX6_sheet 1 = .ok (.invokestatic 273, 3) := by decide +kernel
theorem dX6_sheet_4 : decode cX6_sheet 4 = .ok (.ifCond .eq 25, 3) := by decide +kernel
theorem dX6_sheet_7 : decode cX6_sheet 7 = .ok (.iload_n 2, 1) := by decide +kernel
theorem dX6_sheet_8 : decode cX6_sheet 8 = .ok (.ifCond .eq 28, 3) := by decide +kernel
theorem dX6_sheet_11 : decode cX6_sheet 11 = .ok (.iload_n 2, 1) := by decide +kernel
theorem dX6_sheet_12 : decode cX6_sheet 12 = .ok (.bipush 8, 2) := by decide +kernel
theorem dX6_sheet_14 : decode cX6_sheet 14 = .ok (.if_icmp .eq 22, 3) := by decide +kernel
theorem dX6_sheet_17 : decode cX6_sheet 17 = .ok (.iload_n 2, 1) := by decide +kernel
theorem dX6_sheet_18 : decode cX6_sheet 18 = .ok (.bipush 16, 2) := by decide +kernel
theorem dX6_sheet_20 : decode cX6_sheet 20 = .ok (.if_icmp .eq 16, 3) := by decide +kernel
theorem dX6_sheet_23 : decode cX6_sheet 23 = .ok (.iload_n 2, 1) := by decide +kernel
theorem dX6_sheet_24 : decode cX6_sheet 24 = .ok (.bipush 64, 2) := by decide +kernel
theorem dX6_sheet_26 : decode cX6_sheet 26 = .ok (.if_icmp .eq 10, 3) := by decide +kernel
theorem dX6_sheet_29 : decode cX6_sheet 29 = .ok (.aload_n 0, 1) := by decide +kernel
theorem dX6_sheet_30 : decode cX6_sheet 30 = .ok (.ldc 45, 2) := by decide +kernel
theorem dX6_sheet_32 : decode cX6_sheet 32 = .ok (.invokevirtual 73, 3) := by decide +kernel
theorem dX6_sheet_35 : decode cX6_sheet 35 = .ok (.ireturn, 1) := by decide +kernel
theorem dX6_sheet_36 : decode cX6_sheet 36 = .ok (.iload_n 3, 1) := by decide +kernel
theorem dX6_sheet_37 : decode cX6_sheet 37 = .ok (.ifCond .ge 11, 3) := by decide +kernel
theorem dX6_sheet_40 : decode cX6_sheet 40 = .ok (.aload_n 0, 1) := by decide +kernel
theorem dX6_sheet_41 : decode cX6_sheet 41 = .ok (.ldc_w 276, 3) := by decide +kernel
theorem dX6_sheet_44 : decode cX6_sheet 44 = .ok (.invokevirtual 73, 3) := by decide +kernel
theorem dX6_sheet_47 : decode cX6_sheet 47 = .ok (.ireturn, 1) := by decide +kernel
theorem dX6_sheet_48 : decode cX6_sheet 48 = .ok (.iload_n 3, 1) := by decide +kernel
theorem dX6_sheet_49 : decode cX6_sheet 49 = .ok (.bipush 40, 2) := by decide +kernel
theorem dX6_sheet_51 : decode cX6_sheet 51 = .ok (.if_icmp .le 10, 3) := by decide +kernel
theorem dX6_sheet_54 : decode cX6_sheet 54 = .ok (.aload_n 0, 1) := by decide +kernel
theorem dX6_sheet_55 : decode cX6_sheet 55 = .ok (.ldc 45, 2) := by decide +kernel
theorem dX6_sheet_57 : decode cX6_sheet 57 = .ok (.invokevirtual 73, 3) := by decide +kernel
theorem dX6_sheet_60 : decode cX6_sheet 60 = .ok (.ireturn, 1) := by decide +kernel
theorem dX6_sheet_61 : decode cX6_sheet 61 = .ok (.aload_n 0, 1) := by decide +kernel
theorem dX6_sheet_62 : decode cX6_sheet 62 = .ok (.getfield 28, 3) := by decide +kernel
theorem dX6_sheet_65 : decode cX6_sheet 65 = .ok (.iload_n 1, 1) := by decide +kernel
theorem dX6_sheet_66 : decode cX6_sheet 66 = .ok (.iload_n 2, 1) := by decide +kernel
theorem dX6_sheet_67 : decode cX6_sheet 67 = .ok (.iastore, 1) := by decide +kernel
theorem dX6_sheet_68 : decode cX6_sheet 68 = .ok (.aload_n 0, 1) := by decide +kernel
theorem dX6_sheet_69 : decode cX6_sheet 69 = .ok (.getfield 31, 3) := by decide +kernel
theorem dX6_sheet_72 : decode cX6_sheet 72 = .ok (.iload_n 1, 1) := by decide +kernel
theorem dX6_sheet_73 : decode cX6_sheet 73 = .ok (.iload_n 2, 1) := by decide +kernel
theorem dX6_sheet_74 : decode cX6_sheet 74 = .ok (.ifCond .ne 7, 3) := by decide +kernel
theorem dX6_sheet_77 : decode cX6_sheet 77 = .ok (.iconst 0, 1) := by decide +kernel
theorem dX6_sheet_78 : decode cX6_sheet 78 = .ok (.goto 4, 3) := by decide +kernel
theorem dX6_sheet_81 : decode cX6_sheet 81 = .ok (.iload_n 3, 1) := by decide +kernel
theorem dX6_sheet_82 : decode cX6_sheet 82 = .ok (.iastore, 1) := by decide +kernel
theorem dX6_sheet_83 : decode cX6_sheet 83 = .ok (.iconst 0, 1) := by decide +kernel
theorem dX6_sheet_84 : decode cX6_sheet 84 = .ok (.istore 4, 2) := by decide +kernel
theorem dX6_sheet_86 : decode cX6_sheet 86 = .ok (.iload 4, 2) := by decide +kernel
theorem dX6_sheet_88 : decode cX6_sheet 88 = .ok (.bipush 40, 2) := by decide +kernel
theorem dX6_sheet_90 : decode cX6_sheet 90 = .ok (.if_icmp .ge 22, 3) := by decide +kernel
theorem dX6_sheet_93 : decode cX6_sheet 93 = .ok (.aload_n 0, 1) := by decide +kernel
theorem dX6_sheet_94 : decode cX6_sheet 94 = .ok (.getfield 34, 3) := by decide +kernel
theorem dX6_sheet_97 : decode cX6_sheet 97 = .ok (.bipush 40, 2) := by decide +kernel
theorem dX6_sheet_99 : decode cX6_sheet 99 = .ok (.iload_n 1, 1) := by decide +kernel
theorem dX6_sheet_100 : decode cX6_sheet 100 = .ok (.imul, 1) := by decide +kernel
theorem dX6_sheet_101 : decode cX6_sheet 101 = .ok (.iload 4, 2) := by decide +kernel
theorem dX6_sheet_103 : decode cX6_sheet 103 = .ok (.iadd, 1) := by decide +kernel
theorem dX6_sheet_104 : decode cX6_sheet 104 = .ok (.lconst 0, 1) := by decide +kernel
theorem dX6_sheet_105 : decode cX6_sheet 105 = .ok (.lastore, 1) := by decide +kernel
theorem dX6_sheet_106 : decode cX6_sheet 106 = .ok (.iinc 4 1, 3) := by decide +kernel
theorem dX6_sheet_109 : decode cX6_sheet 109 = .ok (.goto (-23), 3) := by decide +kernel
theorem dX6_sheet_112 : decode cX6_sheet 112 = .ok (.aload_n 0, 1) := by decide +kernel
theorem dX6_sheet_113 : decode cX6_sheet 113 = .ok (.getfield 31, 3) := by decide +kernel
theorem dX6_sheet_116 : decode cX6_sheet 116 = .ok (.iload_n 1, 1) := by decide +kernel
theorem dX6_sheet_117 : decode cX6_sheet 117 = .ok (.iaload, 1) := by decide +kernel
theorem dX6_sheet_118 : decode cX6_sheet 118 = .ok (.ireturn, 1) := by decide +kernel
theorem dX6_narrowed_0 : decode cX6_narrowed 0 = .ok (.iload_n 0, 1) := by decide +kernel
theorem dX6_narrowed_1 : decode cX6_narrowed 1 = .ok (.bipush 8, 2) := by decide +kernel
theorem dX6_narrowed_3 : decode cX6_narrowed 3 = .ok (.if_icmp .ne 10, 3) := by decide +kernel
theorem dX6_narrowed_6 : decode cX6_narrowed 6 = .ok (.lload_n 1, 1) := by decide +kernel
theorem dX6_narrowed_7 : decode cX6_narrowed 7 = .ok (.l2i, 1) := by decide +kernel
theorem dX6_narrowed_8 : decode cX6_narrowed 8 = .ok (.i2b, 1) := by decide +kernel
theorem dX6_narrowed_9 : decode cX6_narrowed 9 = .ok (.i2l, 1) := by decide +kernel
theorem dX6_narrowed_10 : decode cX6_narrowed 10 = .ok (.goto 17, 3) := by decide +kernel
theorem dX6_narrowed_13 : decode cX6_narrowed 13 = .ok (.iload_n 0, 1) := by decide +kernel
theorem dX6_narrowed_14 : decode cX6_narrowed 14 = .ok (.bipush 16, 2) := by decide +kernel
theorem dX6_narrowed_16 : decode cX6_narrowed 16 = .ok (.if_icmp .ne 10, 3) := by decide +kernel
theorem dX6_narrowed_19 : decode cX6_narrowed 19 = .ok (.lload_n 1, 1) := by decide +kernel
theorem dX6_narrowed_20 : decode cX6_narrowed 20 = .ok (.l2i, 1) := by decide +kernel
theorem dX6_narrowed_21 : decode cX6_narrowed 21 = .ok (.i2s, 1) := by decide +kernel
theorem dX6_narrowed_22 : decode cX6_narrowed 22 = .ok (.i2l, 1) := by decide +kernel
theorem dX6_narrowed_23 : decode cX6_narrowed 23 = .ok (.goto 4, 3) := by decide +kernel
theorem dX6_narrowed_26 : decode cX6_narrowed 26 = .ok (.lload_n 1, 1) := by decide +kernel
theorem dX6_narrowed_27 : decode cX6_narrowed 27 = .ok (.lreturn, 1) := by decide +kernel
set_option maxRecDepth 20000 in
theorem ggX6_wrongSheet_X6_isOne : GoodIn wsX6_wrongSheet wsX6_isOne := goodIn_r _ [7, 8, 9, 10, 6, 11] (by decide +kernel) (by decide +kernel)
set_option maxRecDepth 20000 in
theorem gX6_wrongSheet_X6_isOne : GoodIn wsX6_wrongSheet (va_wsS RX6 273 yX6_isOne wsX6_isOne) := goodIn_app (goodIn_of _ (by decide +kernel)) ggX6_wrongSheet_X6_isOne
theorem dX6_wrongSheet_0 : decode cX6_wrongSheet 0 = .ok (.iload_n 1, 1) := by decide +kernel
theorem dX6_wrongSheet_1 : decode cX6_wrongSheet 1 = .ok (.invokestatic 273, 3) := by decide +kernel
theorem dX6_wrongSheet_4 : decode cX6_wrongSheet 4 = .ok (.ifCond .ne 8, 3) := by decide +kernel
theorem dX6_wrongSheet_7 : decode cX6_wrongSheet 7 = .ok (.ldc 45, 2) := by decide +kernel
theorem dX6_wrongSheet_9 : decode cX6_wrongSheet 9 = .ok (.goto 19, 3) := by decide +kernel
theorem dX6_wrongSheet_12 : decode cX6_wrongSheet 12 = .ok (.aload_n 0, 1) := by decide +kernel
theorem dX6_wrongSheet_13 : decode cX6_wrongSheet 13 = .ok (.getfield 28, 3) := by decide +kernel
theorem dX6_wrongSheet_16 : decode cX6_wrongSheet 16 = .ok (.iload_n 1, 1) := by decide +kernel
theorem dX6_wrongSheet_17 : decode cX6_wrongSheet 17 = .ok (.iaload, 1) := by decide +kernel
theorem dX6_wrongSheet_18 : decode cX6_wrongSheet 18 = .ok (.ifCond .ne 9, 3) := by decide +kernel
theorem dX6_wrongSheet_21 : decode cX6_wrongSheet 21 = .ok (.ldc_w 277, 3) := by decide +kernel
theorem dX6_wrongSheet_24 : decode cX6_wrongSheet 24 = .ok (.goto 4, 3) := by decide +kernel
theorem dX6_wrongSheet_27 : decode cX6_wrongSheet 27 = .ok (.iconst 0, 1) := by decide +kernel
theorem dX6_wrongSheet_28 : decode cX6_wrongSheet 28 = .ok (.ireturn, 1) := by decide +kernel
set_option maxRecDepth 20000 in
theorem ggX6_write_X6_wrongSheet : GoodIn wsX6_write wsX6_wrongSheet := goodIn_r _ [9, 2, 4, 10, 11, 12, 8, 13, 14, 15, 16, 17, 26, 27, 28, 29, 30, 31, 32, 33, 34, 35, 36, 37, 38, 39, 40, 41] (by decide +kernel) (by decide +kernel)
set_option maxRecDepth 20000 in
theorem gX6_write_X6_wrongSheet : GoodIn wsX6_write (wsV RX6 278 RX6 yX6_wrongSheet wsX6_wrongSheet) := goodIn_app (goodIn_of _ (by decide +kernel)) ggX6_write_X6_wrongSheet
set_option maxRecDepth 20000 in
theorem ggX6_write_X6_finds : GoodIn wsX6_write wsX6_finds := goodIn_r _ [21, 22, 2, 26, 27, 28, 29, 30, 31, 32, 33, 34, 35, 36, 37, 38, 39, 40, 41] (by decide +kernel) (by decide +kernel)
set_option maxRecDepth 20000 in
theorem gX6_write_X6_finds : GoodIn wsX6_write (wsV RX6 73 RX6 yX6_finds wsX6_finds) := goodIn_app (goodIn_of _ (by decide +kernel)) ggX6_write_X6_finds
set_option maxRecDepth 20000 in
theorem ggX6_write_X6_in : GoodIn wsX6_write wsX6_in := goodIn_r _ [17] (by decide +kernel) (by decide +kernel)
set_option maxRecDepth 20000 in
theorem gX6_write_X6_in : GoodIn wsX6_write (va_wsS RX6 48 yX6_in wsX6_in) := goodIn_app (goodIn_of _ (by decide +kernel)) ggX6_write_X6_in
set_option maxRecDepth 20000 in
theorem ggX6_write_X6_narrowed : GoodIn wsX6_write wsX6_narrowed := goodIn_r _ [25] (by decide +kernel) (by decide +kernel)
set_option maxRecDepth 20000 in
theorem gX6_write_X6_narrowed : GoodIn wsX6_write (va_wsS RX6 281 yX6_narrowed wsX6_narrowed) := goodIn_app (goodIn_of _ (by decide +kernel)) ggX6_write_X6_narrowed
theorem dX6_write_0 : decode cX6_write 0 = .ok (.aload_n 0, 1) := by decide +kernel
theorem dX6_write_1 : decode cX6_write 1 = .ok (.iload_n 1, 1) := by decide +kernel
theorem dX6_write_2 : decode cX6_write 2 = .ok (.invokevirtual 278, 3) := by decide +kernel
theorem dX6_write_5 : decode cX6_write 5 = .ok (.istore 5, 2) := by decide +kernel
theorem dX6_write_7 : decode cX6_write 7 = .ok (.iload 5, 2) := by decide +kernel
theorem dX6_write_9 : decode cX6_write 9 = .ok (.ifCond .eq 11, 3) := by decide +kernel
theorem dX6_write_12 : decode cX6_write 12 = .ok (.aload_n 0, 1) := by decide +kernel
theorem dX6_write_13 : decode cX6_write 13 = .ok (.iload 5, 2) := by decide +kernel
theorem dX6_write_15 : decode cX6_write 15 = .ok (.invokevirtual 73, 3) := by decide +kernel
theorem dX6_write_18 : decode cX6_write 18 = .ok (.i2l, 1) := by decide +kernel
theorem dX6_write_19 : decode cX6_write 19 = .ok (.lreturn, 1) := by decide +kernel
theorem dX6_write_20 : decode cX6_write 20 = .ok (.iload_n 2, 1) := by decide +kernel
theorem dX6_write_21 : decode cX6_write 21 = .ok (.i2l, 1) := by decide +kernel
theorem dX6_write_22 : decode cX6_write 22 = .ok (.lconst 0, 1) := by decide +kernel
theorem dX6_write_23 : decode cX6_write 23 = .ok (.aload_n 0, 1) := by decide +kernel
theorem dX6_write_24 : decode cX6_write 24 = .ok (.getfield 31, 3) := by decide +kernel
theorem dX6_write_27 : decode cX6_write 27 = .ok (.iload_n 1, 1) := by decide +kernel
theorem dX6_write_28 : decode cX6_write 28 = .ok (.iaload, 1) := by decide +kernel
theorem dX6_write_29 : decode cX6_write 29 = .ok (.iconst 1, 1) := by decide +kernel
theorem dX6_write_30 : decode cX6_write 30 = .ok (.isub, 1) := by decide +kernel
theorem dX6_write_31 : decode cX6_write 31 = .ok (.i2l, 1) := by decide +kernel
theorem dX6_write_32 : decode cX6_write 32 = .ok (.invokestatic 48, 3) := by decide +kernel
theorem dX6_write_35 : decode cX6_write 35 = .ok (.ifCond .ne 11, 3) := by decide +kernel
theorem dX6_write_38 : decode cX6_write 38 = .ok (.aload_n 0, 1) := by decide +kernel
theorem dX6_write_39 : decode cX6_write 39 = .ok (.ldc 45, 2) := by decide +kernel
theorem dX6_write_41 : decode cX6_write 41 = .ok (.invokevirtual 73, 3) := by decide +kernel
theorem dX6_write_44 : decode cX6_write 44 = .ok (.i2l, 1) := by decide +kernel
theorem dX6_write_45 : decode cX6_write 45 = .ok (.lreturn, 1) := by decide +kernel
theorem dX6_write_46 : decode cX6_write 46 = .ok (.aload_n 0, 1) := by decide +kernel
theorem dX6_write_47 : decode cX6_write 47 = .ok (.getfield 34, 3) := by decide +kernel
theorem dX6_write_50 : decode cX6_write 50 = .ok (.bipush 40, 2) := by decide +kernel
theorem dX6_write_52 : decode cX6_write 52 = .ok (.iload_n 1, 1) := by decide +kernel
theorem dX6_write_53 : decode cX6_write 53 = .ok (.imul, 1) := by decide +kernel
theorem dX6_write_54 : decode cX6_write 54 = .ok (.iload_n 2, 1) := by decide +kernel
theorem dX6_write_55 : decode cX6_write 55 = .ok (.iadd, 1) := by decide +kernel
theorem dX6_write_56 : decode cX6_write 56 = .ok (.laload, 1) := by decide +kernel
theorem dX6_write_57 : decode cX6_write 57 = .ok (.lstore 6, 2) := by decide +kernel
theorem dX6_write_59 : decode cX6_write 59 = .ok (.aload_n 0, 1) := by decide +kernel
theorem dX6_write_60 : decode cX6_write 60 = .ok (.getfield 34, 3) := by decide +kernel
theorem dX6_write_63 : decode cX6_write 63 = .ok (.bipush 40, 2) := by decide +kernel
theorem dX6_write_65 : decode cX6_write 65 = .ok (.iload_n 1, 1) := by decide +kernel
theorem dX6_write_66 : decode cX6_write 66 = .ok (.imul, 1) := by decide +kernel
theorem dX6_write_67 : decode cX6_write 67 = .ok (.iload_n 2, 1) := by decide +kernel
theorem dX6_write_68 : decode cX6_write 68 = .ok (.iadd, 1) := by decide +kernel
theorem dX6_write_69 : decode cX6_write 69 = .ok (.aload_n 0, 1) := by decide +kernel
theorem dX6_write_70 : decode cX6_write 70 = .ok (.getfield 28, 3) := by decide +kernel
theorem dX6_write_73 : decode cX6_write 73 = .ok (.iload_n 1, 1) := by decide +kernel
theorem dX6_write_74 : decode cX6_write 74 = .ok (.iaload, 1) := by decide +kernel
theorem dX6_write_75 : decode cX6_write 75 = .ok (.lload_n 3, 1) := by decide +kernel
theorem dX6_write_76 : decode cX6_write 76 = .ok (.invokestatic 281, 3) := by decide +kernel
theorem dX6_write_79 : decode cX6_write 79 = .ok (.lastore, 1) := by decide +kernel
theorem dX6_write_80 : decode cX6_write 80 = .ok (.lload 6, 2) := by decide +kernel
theorem dX6_write_82 : decode cX6_write 82 = .ok (.lreturn, 1) := by decide +kernel
set_option maxRecDepth 20000 in
theorem ggX6_copy_X6_isOne : GoodIn wsX6_copy wsX6_isOne := goodIn_r _ [11, 12, 13, 14, 10, 15] (by decide +kernel) (by decide +kernel)
set_option maxRecDepth 20000 in
theorem gX6_copy_X6_isOne : GoodIn wsX6_copy (va_wsS RX6 273 yX6_isOne wsX6_isOne) := goodIn_app (goodIn_of _ (by decide +kernel)) ggX6_copy_X6_isOne
set_option maxRecDepth 20000 in
theorem ggX6_copy_X6_finds : GoodIn wsX6_copy wsX6_finds := goodIn_r _ [19, 20, 1, 21, 22, 23, 24, 25, 26, 27, 28, 29, 30, 31, 32, 33, 34, 35, 36] (by decide +kernel) (by decide +kernel)
set_option maxRecDepth 20000 in
theorem gX6_copy_X6_finds : GoodIn wsX6_copy (wsV RX6 73 RX6 yX6_finds wsX6_finds) := goodIn_app (goodIn_of _ (by decide +kernel)) ggX6_copy_X6_finds
theorem dX6_copy_0 : decode cX6_copy 0 = .ok (.iload_n 1, 1) := by decide +kernel
theorem dX6_copy_1 : decode cX6_copy 1 = .ok (.invokestatic 273, 3) := by decide +kernel
theorem dX6_copy_4 : decode cX6_copy 4 = .ok (.ifCond .eq 10, 3) := by decide +kernel
theorem dX6_copy_7 : decode cX6_copy 7 = .ok (.iload_n 3, 1) := by decide +kernel
theorem dX6_copy_8 : decode cX6_copy 8 = .ok (.invokestatic 273, 3) := by decide +kernel
theorem dX6_copy_11 : decode cX6_copy 11 = .ok (.ifCond .ne 10, 3) := by decide +kernel
theorem dX6_copy_14 : decode cX6_copy 14 = .ok (.aload_n 0, 1) := by decide +kernel
theorem dX6_copy_15 : decode cX6_copy 15 = .ok (.ldc 45, 2) := by decide +kernel
theorem dX6_copy_17 : decode cX6_copy 17 = .ok (.invokevirtual 73, 3) := by decide +kernel
theorem dX6_copy_20 : decode cX6_copy 20 = .ok (.ireturn, 1) := by decide +kernel
theorem dX6_copy_21 : decode cX6_copy 21 = .ok (.aload_n 0, 1) := by decide +kernel
theorem dX6_copy_22 : decode cX6_copy 22 = .ok (.getfield 28, 3) := by decide +kernel
theorem dX6_copy_25 : decode cX6_copy 25 = .ok (.iload_n 1, 1) := by decide +kernel
theorem dX6_copy_26 : decode cX6_copy 26 = .ok (.iaload, 1) := by decide +kernel
theorem dX6_copy_27 : decode cX6_copy 27 = .ok (.ifCond .eq 12, 3) := by decide +kernel
theorem dX6_copy_30 : decode cX6_copy 30 = .ok (.aload_n 0, 1) := by decide +kernel
theorem dX6_copy_31 : decode cX6_copy 31 = .ok (.getfield 28, 3) := by decide +kernel
theorem dX6_copy_34 : decode cX6_copy 34 = .ok (.iload_n 3, 1) := by decide +kernel
theorem dX6_copy_35 : decode cX6_copy 35 = .ok (.iaload, 1) := by decide +kernel
theorem dX6_copy_36 : decode cX6_copy 36 = .ok (.ifCond .ne 11, 3) := by decide +kernel
theorem dX6_copy_39 : decode cX6_copy 39 = .ok (.aload_n 0, 1) := by decide +kernel
theorem dX6_copy_40 : decode cX6_copy 40 = .ok (.ldc_w 277, 3) := by decide +kernel
theorem dX6_copy_43 : decode cX6_copy 43 = .ok (.invokevirtual 73, 3) := by decide +kernel
theorem dX6_copy_46 : decode cX6_copy 46 = .ok (.ireturn, 1) := by decide +kernel
theorem dX6_copy_47 : decode cX6_copy 47 = .ok (.aload_n 0, 1) := by decide +kernel
theorem dX6_copy_48 : decode cX6_copy 48 = .ok (.getfield 28, 3) := by decide +kernel
theorem dX6_copy_51 : decode cX6_copy 51 = .ok (.iload_n 1, 1) := by decide +kernel
theorem dX6_copy_52 : decode cX6_copy 52 = .ok (.iaload, 1) := by decide +kernel
theorem dX6_copy_53 : decode cX6_copy 53 = .ok (.aload_n 0, 1) := by decide +kernel
theorem dX6_copy_54 : decode cX6_copy 54 = .ok (.getfield 28, 3) := by decide +kernel
theorem dX6_copy_57 : decode cX6_copy 57 = .ok (.iload_n 3, 1) := by decide +kernel
theorem dX6_copy_58 : decode cX6_copy 58 = .ok (.iaload, 1) := by decide +kernel
theorem dX6_copy_59 : decode cX6_copy 59 = .ok (.if_icmp .eq 10, 3) := by decide +kernel
theorem dX6_copy_62 : decode cX6_copy 62 = .ok (.aload_n 0, 1) := by decide +kernel
theorem dX6_copy_63 : decode cX6_copy 63 = .ok (.ldc 119, 2) := by decide +kernel
theorem dX6_copy_65 : decode cX6_copy 65 = .ok (.invokevirtual 73, 3) := by decide +kernel
theorem dX6_copy_68 : decode cX6_copy 68 = .ok (.ireturn, 1) := by decide +kernel
theorem dX6_copy_69 : decode cX6_copy 69 = .ok (.iload_n 2, 1) := by decide +kernel
theorem dX6_copy_70 : decode cX6_copy 70 = .ok (.ifCond .lt 40, 3) := by decide +kernel
theorem dX6_copy_73 : decode cX6_copy 73 = .ok (.iload 4, 2) := by decide +kernel
theorem dX6_copy_75 : decode cX6_copy 75 = .ok (.ifCond .lt 35, 3) := by decide +kernel
theorem dX6_copy_78 : decode cX6_copy 78 = .ok (.iload 5, 2) := by decide +kernel
theorem dX6_copy_80 : decode cX6_copy 80 = .ok (.ifCond .lt 30, 3) := by decide +kernel
theorem dX6_copy_83 : decode cX6_copy 83 = .ok (.iload 5, 2) := by decide +kernel
theorem dX6_copy_85 : decode cX6_copy 85 = .ok (.aload_n 0, 1) := by decide +kernel
theorem dX6_copy_86 : decode cX6_copy 86 = .ok (.getfield 31, 3) := by decide +kernel
theorem dX6_copy_89 : decode cX6_copy 89 = .ok (.iload_n 1, 1) := by decide +kernel
theorem dX6_copy_90 : decode cX6_copy 90 = .ok (.iaload, 1) := by decide +kernel
theorem dX6_copy_91 : decode cX6_copy 91 = .ok (.iload_n 2, 1) := by decide +kernel
theorem dX6_copy_92 : decode cX6_copy 92 = .ok (.isub, 1) := by decide +kernel
theorem dX6_copy_93 : decode cX6_copy 93 = .ok (.if_icmp .gt 17, 3) := by decide +kernel
theorem dX6_copy_96 : decode cX6_copy 96 = .ok (.iload 5, 2) := by decide +kernel
theorem dX6_copy_98 : decode cX6_copy 98 = .ok (.aload_n 0, 1) := by decide +kernel
theorem dX6_copy_99 : decode cX6_copy 99 = .ok (.getfield 31, 3) := by decide +kernel
theorem dX6_copy_102 : decode cX6_copy 102 = .ok (.iload_n 3, 1) := by decide +kernel
theorem dX6_copy_103 : decode cX6_copy 103 = .ok (.iaload, 1) := by decide +kernel
theorem dX6_copy_104 : decode cX6_copy 104 = .ok (.iload 4, 2) := by decide +kernel
theorem dX6_copy_106 : decode cX6_copy 106 = .ok (.isub, 1) := by decide +kernel
theorem dX6_copy_107 : decode cX6_copy 107 = .ok (.if_icmp .le 10, 3) := by decide +kernel
theorem dX6_copy_110 : decode cX6_copy 110 = .ok (.aload_n 0, 1) := by decide +kernel
theorem dX6_copy_111 : decode cX6_copy 111 = .ok (.ldc 45, 2) := by decide +kernel
theorem dX6_copy_113 : decode cX6_copy 113 = .ok (.invokevirtual 73, 3) := by decide +kernel
theorem dX6_copy_116 : decode cX6_copy 116 = .ok (.ireturn, 1) := by decide +kernel
theorem dX6_copy_117 : decode cX6_copy 117 = .ok (.iconst 0, 1) := by decide +kernel
theorem dX6_copy_118 : decode cX6_copy 118 = .ok (.istore 6, 2) := by decide +kernel
theorem dX6_copy_120 : decode cX6_copy 120 = .ok (.iload 6, 2) := by decide +kernel
theorem dX6_copy_122 : decode cX6_copy 122 = .ok (.iload 5, 2) := by decide +kernel
theorem dX6_copy_124 : decode cX6_copy 124 = .ok (.if_icmp .ge 30, 3) := by decide +kernel
theorem dX6_copy_127 : decode cX6_copy 127 = .ok (.aload_n 0, 1) := by decide +kernel
theorem dX6_copy_128 : decode cX6_copy 128 = .ok (.getfield 38, 3) := by decide +kernel
theorem dX6_copy_131 : decode cX6_copy 131 = .ok (.iload 6, 2) := by decide +kernel
theorem dX6_copy_133 : decode cX6_copy 133 = .ok (.aload_n 0, 1) := by decide +kernel
theorem dX6_copy_134 : decode cX6_copy 134 = .ok (.getfield 34, 3) := by decide +kernel
theorem dX6_copy_137 : decode cX6_copy 137 = .ok (.bipush 40, 2) := by decide +kernel
theorem dX6_copy_139 : decode cX6_copy 139 = .ok (.iload_n 1, 1) := by decide +kernel
theorem dX6_copy_140 : decode cX6_copy 140 = .ok (.imul, 1) := by decide +kernel
theorem dX6_copy_141 : decode cX6_copy 141 = .ok (.iload_n 2, 1) := by decide +kernel
theorem dX6_copy_142 : decode cX6_copy 142 = .ok (.iadd, 1) := by decide +kernel
theorem dX6_copy_143 : decode cX6_copy 143 = .ok (.iload 6, 2) := by decide +kernel
theorem dX6_copy_145 : decode cX6_copy 145 = .ok (.iadd, 1) := by decide +kernel
theorem dX6_copy_146 : decode cX6_copy 146 = .ok (.laload, 1) := by decide +kernel
theorem dX6_copy_147 : decode cX6_copy 147 = .ok (.lastore, 1) := by decide +kernel
theorem dX6_copy_148 : decode cX6_copy 148 = .ok (.iinc 6 1, 3) := by decide +kernel
theorem dX6_copy_151 : decode cX6_copy 151 = .ok (.goto (-31), 3) := by decide +kernel
theorem dX6_copy_154 : decode cX6_copy 154 = .ok (.iconst 0, 1) := by decide +kernel
theorem dX6_copy_155 : decode cX6_copy 155 = .ok (.istore 6, 2) := by decide +kernel
theorem dX6_copy_157 : decode cX6_copy 157 = .ok (.iload 6, 2) := by decide +kernel
theorem dX6_copy_159 : decode cX6_copy 159 = .ok (.iload 5, 2) := by decide +kernel
theorem dX6_copy_161 : decode cX6_copy 161 = .ok (.if_icmp .ge 31, 3) := by decide +kernel
theorem dX6_copy_164 : decode cX6_copy 164 = .ok (.aload_n 0, 1) := by decide +kernel
theorem dX6_copy_165 : decode cX6_copy 165 = .ok (.getfield 34, 3) := by decide +kernel
theorem dX6_copy_168 : decode cX6_copy 168 = .ok (.bipush 40, 2) := by decide +kernel
theorem dX6_copy_170 : decode cX6_copy 170 = .ok (.iload_n 3, 1) := by decide +kernel
theorem dX6_copy_171 : decode cX6_copy 171 = .ok (.imul, 1) := by decide +kernel
theorem dX6_copy_172 : decode cX6_copy 172 = .ok (.iload 4, 2) := by decide +kernel
theorem dX6_copy_174 : decode cX6_copy 174 = .ok (.iadd, 1) := by decide +kernel
theorem dX6_copy_175 : decode cX6_copy 175 = .ok (.iload 6, 2) := by decide +kernel
theorem dX6_copy_177 : decode cX6_copy 177 = .ok (.iadd, 1) := by decide +kernel
theorem dX6_copy_178 : decode cX6_copy 178 = .ok (.aload_n 0, 1) := by decide +kernel
theorem dX6_copy_179 : decode cX6_copy 179 = .ok (.getfield 38, 3) := by decide +kernel
theorem dX6_copy_182 : decode cX6_copy 182 = .ok (.iload 6, 2) := by decide +kernel
theorem dX6_copy_184 : decode cX6_copy 184 = .ok (.laload, 1) := by decide +kernel
theorem dX6_copy_185 : decode cX6_copy 185 = .ok (.lastore, 1) := by decide +kernel
theorem dX6_copy_186 : decode cX6_copy 186 = .ok (.iinc 6 1, 3) := by decide +kernel
theorem dX6_copy_189 : decode cX6_copy 189 = .ok (.goto (-32), 3) := by decide +kernel
theorem dX6_copy_192 : decode cX6_copy 192 = .ok (.iload 5, 2) := by decide +kernel
theorem dX6_copy_194 : decode cX6_copy 194 = .ok (.ireturn, 1) := by decide +kernel
set_option maxRecDepth 20000 in
theorem ggX6_lays_X6_wrongSheet : GoodIn wsX6_lays wsX6_wrongSheet := goodIn_r _ [9, 10, 11, 12, 13, 14, 8, 15, 16, 17, 18, 19, 32, 33, 34, 35, 36, 37, 38, 39, 40, 41, 42, 43, 44, 45, 46, 47] (by decide +kernel) (by decide +kernel)
set_option maxRecDepth 20000 in
theorem gX6_lays_X6_wrongSheet : GoodIn wsX6_lays (wsV RX6 278 RX6 yX6_wrongSheet wsX6_wrongSheet) := goodIn_app (goodIn_of _ (by decide +kernel)) ggX6_lays_X6_wrongSheet
set_option maxRecDepth 20000 in
theorem ggX6_lays_X6_finds : GoodIn wsX6_lays wsX6_finds := goodIn_r _ [23, 24, 10, 32, 33, 34, 35, 36, 37, 38, 39, 40, 41, 42, 43, 44, 45, 46, 47] (by decide +kernel) (by decide +kernel)
set_option maxRecDepth 20000 in
theorem gX6_lays_X6_finds : GoodIn wsX6_lays (wsV RX6 73 RX6 yX6_finds wsX6_finds) := goodIn_app (goodIn_of _ (by decide +kernel)) ggX6_lays_X6_finds
set_option maxRecDepth 20000 in
theorem ggX6_lays_X6_in : GoodIn wsX6_lays wsX6_in := goodIn_r _ [19] (by decide +kernel) (by decide +kernel)
set_option maxRecDepth 20000 in
theorem gX6_lays_X6_in : GoodIn wsX6_lays (va_wsS RX6 48 yX6_in wsX6_in) := goodIn_app (goodIn_of _ (by decide +kernel)) ggX6_lays_X6_in
set_option maxRecDepth 20000 in
theorem ggX6_lays_X6_spotOf : GoodIn wsX6_lays wsX6_spotOf := goodIn_r _ [27] (by decide +kernel) (by decide +kernel)
set_option maxRecDepth 20000 in
theorem gX6_lays_X6_spotOf : GoodIn wsX6_lays (va_wsS RX6 41 yX6_spotOf wsX6_spotOf) := goodIn_app (goodIn_of _ (by decide +kernel)) ggX6_lays_X6_spotOf
set_option maxRecDepth 20000 in
theorem ggX6_lays_X6_its : GoodIn wsX6_lays wsX6_its := goodIn_r _ [31, 4, 25, 26, 8, 27, 32, 33, 34, 35, 36, 37, 38, 39, 40, 41, 42, 43, 44, 45, 46, 47] (by decide +kernel) (by decide +kernel)
set_option maxRecDepth 20000 in
theorem gX6_lays_X6_its : GoodIn wsX6_lays (wsV RX6 81 RX6 yX6_its wsX6_its) := goodIn_app (goodIn_of _ (by decide +kernel)) ggX6_lays_X6_its
theorem dX6_lays_0 : decode cX6_lays 0 = .ok (.aload_n 0, 1) := by decide +kernel
theorem dX6_lays_1 : decode cX6_lays 1 = .ok (.iload_n 1, 1) := by decide +kernel
theorem dX6_lays_2 : decode cX6_lays 2 = .ok (.invokevirtual 278, 3) := by decide +kernel
theorem dX6_lays_5 : decode cX6_lays 5 = .ok (.istore_n 2, 1) := by decide +kernel
theorem dX6_lays_6 : decode cX6_lays 6 = .ok (.iload_n 2, 1) := by decide +kernel
theorem dX6_lays_7 : decode cX6_lays 7 = .ok (.ifCond .eq 9, 3) := by decide +kernel
theorem dX6_lays_10 : decode cX6_lays 10 = .ok (.aload_n 0, 1) := by decide +kernel
theorem dX6_lays_11 : decode cX6_lays 11 = .ok (.iload_n 2, 1) := by decide +kernel
theorem dX6_lays_12 : decode cX6_lays 12 = .ok (.invokevirtual 73, 3) := by decide +kernel
theorem dX6_lays_15 : decode cX6_lays 15 = .ok (.ireturn, 1) := by decide +kernel
theorem dX6_lays_16 : decode cX6_lays 16 = .ok (.iconst 0, 1) := by decide +kernel
theorem dX6_lays_17 : decode cX6_lays 17 = .ok (.istore_n 3, 1) := by decide +kernel
theorem dX6_lays_18 : decode cX6_lays 18 = .ok (.iconst 0, 1) := by decide +kernel
theorem dX6_lays_19 : decode cX6_lays 19 = .ok (.istore 4, 2) := by decide +kernel
theorem dX6_lays_21 : decode cX6_lays 21 = .ok (.iload 4, 2) := by decide +kernel
theorem dX6_lays_23 : decode cX6_lays 23 = .ok (.aload_n 0, 1) := by decide +kernel
theorem dX6_lays_24 : decode cX6_lays 24 = .ok (.getfield 31, 3) := by decide +kernel
theorem dX6_lays_27 : decode cX6_lays 27 = .ok (.iload_n 1, 1) := by decide +kernel
theorem dX6_lays_28 : decode cX6_lays 28 = .ok (.iaload, 1) := by decide +kernel
theorem dX6_lays_29 : decode cX6_lays 29 = .ok (.if_icmp .ge 89, 3) := by decide +kernel
theorem dX6_lays_32 : decode cX6_lays 32 = .ok (.iload 4, 2) := by decide +kernel
theorem dX6_lays_34 : decode cX6_lays 34 = .ok (.bipush 8, 2) := by decide +kernel
theorem dX6_lays_36 : decode cX6_lays 36 = .ok (.if_icmp .ge 82, 3) := by decide +kernel
theorem dX6_lays_39 : decode cX6_lays 39 = .ok (.aload_n 0, 1) := by decide +kernel
theorem dX6_lays_40 : decode cX6_lays 40 = .ok (.getfield 34, 3) := by decide +kernel
theorem dX6_lays_43 : decode cX6_lays 43 = .ok (.bipush 40, 2) := by decide +kernel
theorem dX6_lays_45 : decode cX6_lays 45 = .ok (.iload_n 1, 1) := by decide +kernel
theorem dX6_lays_46 : decode cX6_lays 46 = .ok (.imul, 1) := by decide +kernel
theorem dX6_lays_47 : decode cX6_lays 47 = .ok (.iload 4, 2) := by decide +kernel
theorem dX6_lays_49 : decode cX6_lays 49 = .ok (.iadd, 1) := by decide +kernel
theorem dX6_lays_50 : decode cX6_lays 50 = .ok (.laload, 1) := by decide +kernel
theorem dX6_lays_51 : decode cX6_lays 51 = .ok (.lconst 0, 1) := by decide +kernel
theorem dX6_lays_52 : decode cX6_lays 52 = .ok (.ldc2_w 109, 3) := by decide +kernel
theorem dX6_lays_55 : decode cX6_lays 55 = .ok (.invokestatic 48, 3) := by decide +kernel
theorem dX6_lays_58 : decode cX6_lays 58 = .ok (.istore 5, 2) := by decide +kernel
theorem dX6_lays_60 : decode cX6_lays 60 = .ok (.aload_n 0, 1) := by decide +kernel
theorem dX6_lays_61 : decode cX6_lays 61 = .ok (.getfield 7, 3) := by decide +kernel
theorem dX6_lays_64 : decode cX6_lays 64 = .ok (.iload 4, 2) := by decide +kernel
theorem dX6_lays_66 : decode cX6_lays 66 = .ok (.iconst 1, 1) := by decide +kernel
theorem dX6_lays_67 : decode cX6_lays 67 = .ok (.invokestatic 41, 3) := by decide +kernel
theorem dX6_lays_70 : decode cX6_lays 70 = .ok (.iload 5, 2) := by decide +kernel
theorem dX6_lays_72 : decode cX6_lays 72 = .ok (.ifCond .eq 19, 3) := by decide +kernel
theorem dX6_lays_75 : decode cX6_lays 75 = .ok (.aload_n 0, 1) := by decide +kernel
theorem dX6_lays_76 : decode cX6_lays 76 = .ok (.getfield 34, 3) := by decide +kernel
theorem dX6_lays_79 : decode cX6_lays 79 = .ok (.bipush 40, 2) := by decide +kernel
theorem dX6_lays_81 : decode cX6_lays 81 = .ok (.iload_n 1, 1) := by decide +kernel
theorem dX6_lays_82 : decode cX6_lays 82 = .ok (.imul, 1) := by decide +kernel
theorem dX6_lays_83 : decode cX6_lays 83 = .ok (.iload 4, 2) := by decide +kernel
theorem dX6_lays_85 : decode cX6_lays 85 = .ok (.iadd, 1) := by decide +kernel
theorem dX6_lays_86 : decode cX6_lays 86 = .ok (.laload, 1) := by decide +kernel
theorem dX6_lays_87 : decode cX6_lays 87 = .ok (.l2i, 1) := by decide +kernel
theorem dX6_lays_88 : decode cX6_lays 88 = .ok (.goto 10, 3) := by decide +kernel
theorem dX6_lays_91 : decode cX6_lays 91 = .ok (.aload_n 0, 1) := by decide +kernel
theorem dX6_lays_92 : decode cX6_lays 92 = .ok (.iload 4, 2) := by decide +kernel
theorem dX6_lays_94 : decode cX6_lays 94 = .ok (.iconst 1, 1) := by decide +kernel
theorem dX6_lays_95 : decode cX6_lays 95 = .ok (.invokevirtual 81, 3) := by decide +kernel
theorem dX6_lays_98 : decode cX6_lays 98 = .ok (.iastore, 1) := by decide +kernel
theorem dX6_lays_99 : decode cX6_lays 99 = .ok (.iload_n 3, 1) := by decide +kernel
theorem dX6_lays_100 : decode cX6_lays 100 = .ok (.iload 5, 2) := by decide +kernel
theorem dX6_lays_102 : decode cX6_lays 102 = .ok (.ifCond .eq 7, 3) := by decide +kernel
theorem dX6_lays_105 : decode cX6_lays 105 = .ok (.iconst 1, 1) := by decide +kernel
theorem dX6_lays_106 : decode cX6_lays 106 = .ok (.goto 4, 3) := by decide +kernel
theorem dX6_lays_109 : decode cX6_lays 109 = .ok (.iconst 0, 1) := by decide +kernel
theorem dX6_lays_110 : decode cX6_lays 110 = .ok (.iadd, 1) := by decide +kernel
theorem dX6_lays_111 : decode cX6_lays 111 = .ok (.istore_n 3, 1) := by decide +kernel
theorem dX6_lays_112 : decode cX6_lays 112 = .ok (.iinc 4 1, 3) := by decide +kernel
theorem dX6_lays_115 : decode cX6_lays 115 = .ok (.goto (-94), 3) := by decide +kernel
theorem dX6_lays_118 : decode cX6_lays 118 = .ok (.iload_n 3, 1) := by decide +kernel
theorem dX6_lays_119 : decode cX6_lays 119 = .ok (.ireturn, 1) := by decide +kernel
set_option maxRecDepth 20000 in
theorem ggX6_book_X6_wrongSheet : GoodIn wsX6_book wsX6_wrongSheet := goodIn_r _ [9, 10, 3, 11, 12, 13, 8, 14, 15, 16, 17, 18, 78, 79, 80, 81, 82, 83, 84, 85, 86, 87, 88, 89, 90, 91, 92, 93] (by decide +kernel) (by decide +kernel)
set_option maxRecDepth 20000 in
theorem gX6_book_X6_wrongSheet : GoodIn wsX6_book (wsV RX6 278 RX6 yX6_wrongSheet wsX6_wrongSheet) := goodIn_app (goodIn_of _ (by decide +kernel)) ggX6_book_X6_wrongSheet
set_option maxRecDepth 20000 in
theorem ggX6_book_X6_finds : GoodIn wsX6_book wsX6_finds := goodIn_r _ [22, 23, 10, 78, 79, 80, 81, 82, 83, 84, 85, 86, 87, 88, 89, 90, 91, 92, 93] (by decide +kernel) (by decide +kernel)
set_option maxRecDepth 20000 in
theorem gX6_book_X6_finds : GoodIn wsX6_book (wsV RX6 73 RX6 yX6_finds wsX6_finds) := goodIn_app (goodIn_of _ (by decide +kernel)) ggX6_book_X6_finds
set_option maxRecDepth 20000 in
theorem ggX6_book_X6_laysAside : GoodIn wsX6_book wsX6_laysAside := goodIn_r _ [27, 28, 4, 78, 79, 80, 81, 82, 83, 84, 85, 86, 87, 88, 89, 90, 91, 92, 93] (by decide +kernel) (by decide +kernel)
set_option maxRecDepth 20000 in
theorem gX6_book_X6_laysAside : GoodIn wsX6_book (wsV RX6 140 RX6 yX6_laysAside wsX6_laysAside) := goodIn_app (goodIn_of _ (by decide +kernel)) ggX6_book_X6_laysAside
set_option maxRecDepth 20000 in
theorem ggX6_book_X6_narrowed : GoodIn wsX6_book wsX6_narrowed := goodIn_r _ [31] (by decide +kernel) (by decide +kernel)
set_option maxRecDepth 20000 in
theorem gX6_book_X6_narrowed : GoodIn wsX6_book (va_wsS RX6 281 yX6_narrowed wsX6_narrowed) := goodIn_app (goodIn_of _ (by decide +kernel)) ggX6_book_X6_narrowed
set_option maxRecDepth 20000 in
theorem ggX6_book_X6_hour : GoodIn wsX6_book wsX6_hour := goodIn_r _ [35, 4, 36, 37, 38, 8, 39, 40, 41, 42, 43, 44, 45, 46, 47, 48, 49, 50, 51, 52, 53, 54, 55, 56, 57, 58, 59, 60, 61, 62, 63, 64, 65, 66, 67, 68, 69, 70, 71, 72, 73, 78, 79, 80, 81, 82, 83, 84, 85, 86, 87, 88, 89, 90, 91, 92, 93] (by decide +kernel) (by decide +kernel)
set_option maxRecDepth 20000 in
theorem gX6_book_X6_hour : GoodIn wsX6_book (wsV RX6 129 RX6 yX6_hour wsX6_hour) := goodIn_app (goodIn_of _ (by decide +kernel)) ggX6_book_X6_hour
set_option maxRecDepth 20000 in
theorem ggX6_book_X6_takesBack : GoodIn wsX6_book wsX6_takesBack := goodIn_r _ [77, 4, 28, 78, 79, 80, 81, 82, 83, 84, 85, 86, 87, 88, 89, 90, 91, 92, 93] (by decide +kernel) (by decide +kernel)
set_option maxRecDepth 20000 in
theorem gX6_book_X6_takesBack : GoodIn wsX6_book (wsV RX6 143 RX6 yX6_takesBack wsX6_takesBack) := goodIn_app (goodIn_of _ (by decide +kernel)) ggX6_book_X6_takesBack
theorem dX6_book_0 : decode cX6_book 0 = .ok (.aload_n 0, 1) := by decide +kernel
theorem dX6_book_1 : decode cX6_book 1 = .ok (.iload_n 1, 1) := by decide +kernel
theorem dX6_book_2 : decode cX6_book 2 = .ok (.invokevirtual 278, 3) := by decide +kernel
theorem dX6_book_5 : decode cX6_book 5 = .ok (.istore_n 2, 1) := by decide +kernel
theorem dX6_book_6 : decode cX6_book 6 = .ok (.iload_n 2, 1) := by decide +kernel
theorem dX6_book_7 : decode cX6_book 7 = .ok (.ifCond .eq 9, 3) := by decide +kernel
theorem dX6_book_10 : decode cX6_book 10 = .ok (.aload_n 0, 1) := by decide +kernel
theorem dX6_book_11 : decode cX6_book 11 = .ok (.iload_n 2, 1) := by decide +kernel
theorem dX6_book_12 : decode cX6_book 12 = .ok (.invokevirtual 73, 3) := by decide +kernel
theorem dX6_book_15 : decode cX6_book 15 = .ok (.ireturn, 1) := by decide +kernel
theorem dX6_book_16 : decode cX6_book 16 = .ok (.aload_n 0, 1) := by decide +kernel
theorem dX6_book_17 : decode cX6_book 17 = .ok (.invokevirtual 140, 3) := by decide +kernel
theorem dX6_book_20 : decode cX6_book 20 = .ok (.iconst 0, 1) := by decide +kernel
theorem dX6_book_21 : decode cX6_book 21 = .ok (.istore_n 3, 1) := by decide +kernel
theorem dX6_book_22 : decode cX6_book 22 = .ok (.iload_n 3, 1) := by decide +kernel
theorem dX6_book_23 : decode cX6_book 23 = .ok (.aload_n 0, 1) := by decide +kernel
theorem dX6_book_24 : decode cX6_book 24 = .ok (.getfield 31, 3) := by decide +kernel
theorem dX6_book_27 : decode cX6_book 27 = .ok (.iload_n 1, 1) := by decide +kernel
theorem dX6_book_28 : decode cX6_book 28 = .ok (.iaload, 1) := by decide +kernel
theorem dX6_book_29 : decode cX6_book 29 = .ok (.if_icmp .ge 40, 3) := by decide +kernel
theorem dX6_book_32 : decode cX6_book 32 = .ok (.aload_n 0, 1) := by decide +kernel
theorem dX6_book_33 : decode cX6_book 33 = .ok (.getfield 34, 3) := by decide +kernel
theorem dX6_book_36 : decode cX6_book 36 = .ok (.bipush 40, 2) := by decide +kernel
theorem dX6_book_38 : decode cX6_book 38 = .ok (.iload_n 1, 1) := by decide +kernel
theorem dX6_book_39 : decode cX6_book 39 = .ok (.imul, 1) := by decide +kernel
theorem dX6_book_40 : decode cX6_book 40 = .ok (.iload_n 3, 1) := by decide +kernel
theorem dX6_book_41 : decode cX6_book 41 = .ok (.iadd, 1) := by decide +kernel
theorem dX6_book_42 : decode cX6_book 42 = .ok (.aload_n 0, 1) := by decide +kernel
theorem dX6_book_43 : decode cX6_book 43 = .ok (.getfield 28, 3) := by decide +kernel
theorem dX6_book_46 : decode cX6_book 46 = .ok (.iload_n 1, 1) := by decide +kernel
theorem dX6_book_47 : decode cX6_book 47 = .ok (.iaload, 1) := by decide +kernel
theorem dX6_book_48 : decode cX6_book 48 = .ok (.aload_n 0, 1) := by decide +kernel
theorem dX6_book_49 : decode cX6_book 49 = .ok (.getfield 7, 3) := by decide +kernel
theorem dX6_book_52 : decode cX6_book 52 = .ok (.iconst 4, 1) := by decide +kernel
theorem dX6_book_53 : decode cX6_book 53 = .ok (.iaload, 1) := by decide +kernel
theorem dX6_book_54 : decode cX6_book 54 = .ok (.i2l, 1) := by decide +kernel
theorem dX6_book_55 : decode cX6_book 55 = .ok (.invokestatic 281, 3) := by decide +kernel
theorem dX6_book_58 : decode cX6_book 58 = .ok (.lastore, 1) := by decide +kernel
theorem dX6_book_59 : decode cX6_book 59 = .ok (.aload_n 0, 1) := by decide +kernel
theorem dX6_book_60 : decode cX6_book 60 = .ok (.invokevirtual 129, 3) := by decide +kernel
theorem dX6_book_63 : decode cX6_book 63 = .ok (.iinc 3 1, 3) := by decide +kernel
theorem dX6_book_66 : decode cX6_book 66 = .ok (.goto (-44), 3) := by decide +kernel
theorem dX6_book_69 : decode cX6_book 69 = .ok (.aload_n 0, 1) := by decide +kernel
theorem dX6_book_70 : decode cX6_book 70 = .ok (.aload_n 0, 1) := by decide +kernel
theorem dX6_book_71 : decode cX6_book 71 = .ok (.getfield 31, 3) := by decide +kernel
theorem dX6_book_74 : decode cX6_book 74 = .ok (.iload_n 1, 1) := by decide +kernel
theorem dX6_book_75 : decode cX6_book 75 = .ok (.iaload, 1) := by decide +kernel
theorem dX6_book_76 : decode cX6_book 76 = .ok (.invokevirtual 143, 3) := by decide +kernel
theorem dX6_book_79 : decode cX6_book 79 = .ok (.ireturn, 1) := by decide +kernel
set_option maxRecDepth 20000 in
theorem ggX6_isBook_X6_hour : GoodIn wsX6_isBook wsX6_hour := goodIn_r _ [8, 3, 9, 10, 11, 7, 12, 13, 14, 15, 16, 17, 18, 19, 20, 21, 22, 23, 24, 25, 26, 27, 28, 29, 30, 31, 32, 33, 34, 35, 36, 37, 38, 39, 40, 41, 42, 43, 44, 45, 46, 47, 48, 49, 50, 51, 52, 53, 54, 55, 56, 57, 58, 59, 60, 61, 62] (by decide +kernel) (by decide +kernel)
set_option maxRecDepth 20000 in
theorem gX6_isBook_X6_hour : GoodIn wsX6_isBook (wsV RX6 129 RX6 yX6_hour wsX6_hour) := goodIn_app (goodIn_of _ (by decide +kernel)) ggX6_isBook_X6_hour
theorem dX6_isBook_0 : decode cX6_isBook 0 = .ok (.iconst 0, 1) := by decide +kernel
theorem dX6_isBook_1 : decode cX6_isBook 1 = .ok (.istore_n 2, 1) := by decide +kernel
theorem dX6_isBook_2 : decode cX6_isBook 2 = .ok (.iload_n 2, 1) := by decide +kernel
theorem dX6_isBook_3 : decode cX6_isBook 3 = .ok (.aload_n 0, 1) := by decide +kernel
theorem dX6_isBook_4 : decode cX6_isBook 4 = .ok (.getfield 31, 3) := by decide +kernel
theorem dX6_isBook_7 : decode cX6_isBook 7 = .ok (.iload_n 1, 1) := by decide +kernel
theorem dX6_isBook_8 : decode cX6_isBook 8 = .ok (.iaload, 1) := by decide +kernel
theorem dX6_isBook_9 : decode cX6_isBook 9 = .ok (.if_icmp .ge 37, 3) := by decide +kernel
theorem dX6_isBook_12 : decode cX6_isBook 12 = .ok (.aload_n 0, 1) := by decide +kernel
theorem dX6_isBook_13 : decode cX6_isBook 13 = .ok (.getfield 34, 3) := by decide +kernel
theorem dX6_isBook_16 : decode cX6_isBook 16 = .ok (.bipush 40, 2) := by decide +kernel
theorem dX6_isBook_18 : decode cX6_isBook 18 = .ok (.iload_n 1, 1) := by decide +kernel
theorem dX6_isBook_19 : decode cX6_isBook 19 = .ok (.imul, 1) := by decide +kernel
theorem dX6_isBook_20 : decode cX6_isBook 20 = .ok (.iload_n 2, 1) := by decide +kernel
theorem dX6_isBook_21 : decode cX6_isBook 21 = .ok (.iadd, 1) := by decide +kernel
theorem dX6_isBook_22 : decode cX6_isBook 22 = .ok (.laload, 1) := by decide +kernel
theorem dX6_isBook_23 : decode cX6_isBook 23 = .ok (.aload_n 0, 1) := by decide +kernel
theorem dX6_isBook_24 : decode cX6_isBook 24 = .ok (.getfield 7, 3) := by decide +kernel
theorem dX6_isBook_27 : decode cX6_isBook 27 = .ok (.iconst 4, 1) := by decide +kernel
theorem dX6_isBook_28 : decode cX6_isBook 28 = .ok (.iaload, 1) := by decide +kernel
theorem dX6_isBook_29 : decode cX6_isBook 29 = .ok (.i2l, 1) := by decide +kernel
theorem dX6_isBook_30 : decode cX6_isBook 30 = .ok (.lcmp, 1) := by decide +kernel
theorem dX6_isBook_31 : decode cX6_isBook 31 = .ok (.ifCond .eq 5, 3) := by decide +kernel
theorem dX6_isBook_34 : decode cX6_isBook 34 = .ok (.iconst 0, 1) := by decide +kernel
theorem dX6_isBook_35 : decode cX6_isBook 35 = .ok (.ireturn, 1) := by decide +kernel
theorem dX6_isBook_36 : decode cX6_isBook 36 = .ok (.aload_n 0, 1) := by decide +kernel
theorem dX6_isBook_37 : decode cX6_isBook 37 = .ok (.invokevirtual 129, 3) := by decide +kernel
theorem dX6_isBook_40 : decode cX6_isBook 40 = .ok (.iinc 2 1, 3) := by decide +kernel
theorem dX6_isBook_43 : decode cX6_isBook 43 = .ok (.goto (-41), 3) := by decide +kernel
theorem dX6_isBook_46 : decode cX6_isBook 46 = .ok (.iconst 1, 1) := by decide +kernel
theorem dX6_isBook_47 : decode cX6_isBook 47 = .ok (.ireturn, 1) := by decide +kernel
set_option maxRecDepth 20000 in
theorem ggX6_read_X6_wrongSheet : GoodIn wsX6_read wsX6_wrongSheet := goodIn_r _ [7, 1, 8, 9, 10, 11, 6, 12, 13, 14, 15, 16, 83, 84, 85, 86, 87, 88, 89, 90, 91, 92, 93, 94, 95, 96, 97, 98] (by decide +kernel) (by decide +kernel)
set_option maxRecDepth 20000 in
theorem gX6_read_X6_wrongSheet : GoodIn wsX6_read (wsV RX6 278 RX6 yX6_wrongSheet wsX6_wrongSheet) := goodIn_app (goodIn_of _ (by decide +kernel)) ggX6_read_X6_wrongSheet
set_option maxRecDepth 20000 in
theorem ggX6_read_X6_finds : GoodIn wsX6_read wsX6_finds := goodIn_r _ [20, 21, 1, 83, 84, 85, 86, 87, 88, 89, 90, 91, 92, 93, 94, 95, 96, 97, 98] (by decide +kernel) (by decide +kernel)
set_option maxRecDepth 20000 in
theorem gX6_read_X6_finds : GoodIn wsX6_read (wsV RX6 73 RX6 yX6_finds wsX6_finds) := goodIn_app (goodIn_of _ (by decide +kernel)) ggX6_read_X6_finds
set_option maxRecDepth 20000 in
theorem ggX6_read_X6_isHouse : GoodIn wsX6_read wsX6_isHouse := goodIn_r _ [24, 25, 14, 15, 6, 16] (by decide +kernel) (by decide +kernel)
set_option maxRecDepth 20000 in
theorem gX6_read_X6_isHouse : GoodIn wsX6_read (va_wsS RX6 56 yX6_isHouse wsX6_isHouse) := goodIn_app (goodIn_of _ (by decide +kernel)) ggX6_read_X6_isHouse
set_option maxRecDepth 20000 in
theorem ggX6_read_X6_laysAside : GoodIn wsX6_read wsX6_laysAside := goodIn_r _ [29, 30, 2, 83, 84, 85, 86, 87, 88, 89, 90, 91, 92, 93, 94, 95, 96, 97, 98] (by decide +kernel) (by decide +kernel)
set_option maxRecDepth 20000 in
theorem gX6_read_X6_laysAside : GoodIn wsX6_read (wsV RX6 140 RX6 yX6_laysAside wsX6_laysAside) := goodIn_app (goodIn_of _ (by decide +kernel)) ggX6_read_X6_laysAside
set_option maxRecDepth 20000 in
theorem ggX6_read_X6_spotOf : GoodIn wsX6_read wsX6_spotOf := goodIn_r _ [33] (by decide +kernel) (by decide +kernel)
set_option maxRecDepth 20000 in
theorem gX6_read_X6_spotOf : GoodIn wsX6_read (va_wsS RX6 41 yX6_spotOf wsX6_spotOf) := goodIn_app (goodIn_of _ (by decide +kernel)) ggX6_read_X6_spotOf
set_option maxRecDepth 20000 in
theorem ggX6_read_X6_isBook : GoodIn wsX6_read wsX6_isBook := goodIn_r _ [37, 38, 39, 2, 40, 41, 42, 6, 43, 44, 45, 46, 47, 48, 49, 50, 51, 52, 53, 54, 55, 56, 31, 32, 33, 57, 58, 59, 60, 61, 62, 63, 64, 65, 66, 67, 68, 69, 70, 71, 72, 73, 74, 75, 76, 77, 78, 83, 84, 85, 86, 87, 88, 89, 90, 91, 92, 93, 94, 95, 96, 97, 98] (by decide +kernel) (by decide +kernel)
set_option maxRecDepth 20000 in
theorem gX6_read_X6_isBook : GoodIn wsX6_read (wsV RX6 285 RX6 yX6_isBook wsX6_isBook) := goodIn_app (goodIn_of _ (by decide +kernel)) ggX6_read_X6_isBook
set_option maxRecDepth 20000 in
theorem ggX6_read_X6_takesBack : GoodIn wsX6_read wsX6_takesBack := goodIn_r _ [82, 2, 30, 83, 84, 85, 86, 87, 88, 89, 90, 91, 92, 93, 94, 95, 96, 97, 98] (by decide +kernel) (by decide +kernel)
set_option maxRecDepth 20000 in
theorem gX6_read_X6_takesBack : GoodIn wsX6_read (wsV RX6 143 RX6 yX6_takesBack wsX6_takesBack) := goodIn_app (goodIn_of _ (by decide +kernel)) ggX6_read_X6_takesBack
theorem dX6_read_0 : decode cX6_read 0 = .ok (.aload_n 0, 1) := by decide +kernel
theorem dX6_read_1 : decode cX6_read 1 = .ok (.iload_n 1, 1) := by decide +kernel
theorem dX6_read_2 : decode cX6_read 2 = .ok (.invokevirtual 278, 3) := by decide +kernel
theorem dX6_read_5 : decode cX6_read 5 = .ok (.istore_n 3, 1) := by decide +kernel
theorem dX6_read_6 : decode cX6_read 6 = .ok (.iload_n 3, 1) := by decide +kernel
theorem dX6_read_7 : decode cX6_read 7 = .ok (.ifCond .eq 9, 3) := by decide +kernel
theorem dX6_read_10 : decode cX6_read 10 = .ok (.aload_n 0, 1) := by decide +kernel
theorem dX6_read_11 : decode cX6_read 11 = .ok (.iload_n 3, 1) := by decide +kernel
theorem dX6_read_12 : decode cX6_read 12 = .ok (.invokevirtual 73, 3) := by decide +kernel
theorem dX6_read_15 : decode cX6_read 15 = .ok (.ireturn, 1) := by decide +kernel
theorem dX6_read_16 : decode cX6_read 16 = .ok (.iload_n 2, 1) := by decide +kernel
theorem dX6_read_17 : decode cX6_read 17 = .ok (.invokestatic 56, 3) := by decide +kernel
theorem dX6_read_20 : decode cX6_read 20 = .ok (.ifCond .ne 10, 3) := by decide +kernel
theorem dX6_read_23 : decode cX6_read 23 = .ok (.aload_n 0, 1) := by decide +kernel
theorem dX6_read_24 : decode cX6_read 24 = .ok (.ldc 45, 2) := by decide +kernel
theorem dX6_read_26 : decode cX6_read 26 = .ok (.invokevirtual 73, 3) := by decide +kernel
theorem dX6_read_29 : decode cX6_read 29 = .ok (.ireturn, 1) := by decide +kernel
theorem dX6_read_30 : decode cX6_read 30 = .ok (.aload_n 0, 1) := by decide +kernel
theorem dX6_read_31 : decode cX6_read 31 = .ok (.invokevirtual 140, 3) := by decide +kernel
theorem dX6_read_34 : decode cX6_read 34 = .ok (.iconst 0, 1) := by decide +kernel
theorem dX6_read_35 : decode cX6_read 35 = .ok (.istore 4, 2) := by decide +kernel
theorem dX6_read_37 : decode cX6_read 37 = .ok (.iconst 0, 1) := by decide +kernel
theorem dX6_read_38 : decode cX6_read 38 = .ok (.istore 5, 2) := by decide +kernel
theorem dX6_read_40 : decode cX6_read 40 = .ok (.iload 5, 2) := by decide +kernel
theorem dX6_read_42 : decode cX6_read 42 = .ok (.bipush 126, 2) := by decide +kernel
theorem dX6_read_44 : decode cX6_read 44 = .ok (.if_icmp .ge 61, 3) := by decide +kernel
theorem dX6_read_47 : decode cX6_read 47 = .ok (.aload_n 0, 1) := by decide +kernel
theorem dX6_read_48 : decode cX6_read 48 = .ok (.getfield 7, 3) := by decide +kernel
theorem dX6_read_51 : decode cX6_read 51 = .ok (.iload_n 2, 1) := by decide +kernel
theorem dX6_read_52 : decode cX6_read 52 = .ok (.iconst 0, 1) := by decide +kernel
theorem dX6_read_53 : decode cX6_read 53 = .ok (.invokestatic 41, 3) := by decide +kernel
theorem dX6_read_56 : decode cX6_read 56 = .ok (.iload 5, 2) := by decide +kernel
theorem dX6_read_58 : decode cX6_read 58 = .ok (.bipush 21, 2) := by decide +kernel
theorem dX6_read_60 : decode cX6_read 60 = .ok (.idiv, 1) := by decide +kernel
theorem dX6_read_61 : decode cX6_read 61 = .ok (.iastore, 1) := by decide +kernel
theorem dX6_read_62 : decode cX6_read 62 = .ok (.aload_n 0, 1) := by decide +kernel
theorem dX6_read_63 : decode cX6_read 63 = .ok (.getfield 7, 3) := by decide +kernel
theorem dX6_read_66 : decode cX6_read 66 = .ok (.iload_n 2, 1) := by decide +kernel
theorem dX6_read_67 : decode cX6_read 67 = .ok (.iconst 1, 1) := by decide +kernel
theorem dX6_read_68 : decode cX6_read 68 = .ok (.invokestatic 41, 3) := by decide +kernel
theorem dX6_read_71 : decode cX6_read 71 = .ok (.iload 5, 2) := by decide +kernel
theorem dX6_read_73 : decode cX6_read 73 = .ok (.bipush 21, 2) := by decide +kernel
theorem dX6_read_75 : decode cX6_read 75 = .ok (.irem, 1) := by decide +kernel
theorem dX6_read_76 : decode cX6_read 76 = .ok (.iastore, 1) := by decide +kernel
theorem dX6_read_77 : decode cX6_read 77 = .ok (.aload_n 0, 1) := by decide +kernel
theorem dX6_read_78 : decode cX6_read 78 = .ok (.iload 4, 2) := by decide +kernel
theorem dX6_read_80 : decode cX6_read 80 = .ok (.aload_n 0, 1) := by decide +kernel
theorem dX6_read_81 : decode cX6_read 81 = .ok (.iload_n 1, 1) := by decide +kernel
theorem dX6_read_82 : decode cX6_read 82 = .ok (.invokevirtual 285, 3) := by decide +kernel
theorem dX6_read_85 : decode cX6_read 85 = .ok (.ifCond .eq 7, 3) := by decide +kernel
theorem dX6_read_88 : decode cX6_read 88 = .ok (.iconst 1, 1) := by decide +kernel
theorem dX6_read_89 : decode cX6_read 89 = .ok (.goto 4, 3) := by decide +kernel
theorem dX6_read_92 : decode cX6_read 92 = .ok (.iconst 0, 1) := by decide +kernel
theorem dX6_read_93 : decode cX6_read 93 = .ok (.iadd, 1) := by decide +kernel
theorem dX6_read_94 : decode cX6_read 94 = .ok (.invokevirtual 143, 3) := by decide +kernel
theorem dX6_read_97 : decode cX6_read 97 = .ok (.istore 4, 2) := by decide +kernel
theorem dX6_read_99 : decode cX6_read 99 = .ok (.iinc 5 1, 3) := by decide +kernel
theorem dX6_read_102 : decode cX6_read 102 = .ok (.goto (-62), 3) := by decide +kernel
theorem dX6_read_105 : decode cX6_read 105 = .ok (.iload 4, 2) := by decide +kernel
theorem dX6_read_107 : decode cX6_read 107 = .ok (.ireturn, 1) := by decide +kernel
theorem dX6_image_0 : decode cX6_image 0 = .ok (.iconst 0, 1) := by decide +kernel
theorem dX6_image_1 : decode cX6_image 1 = .ok (.istore_n 1, 1) := by decide +kernel
theorem dX6_image_2 : decode cX6_image 2 = .ok (.iload_n 1, 1) := by decide +kernel
theorem dX6_image_3 : decode cX6_image 3 = .ok (.bipush 39, 2) := by decide +kernel
theorem dX6_image_5 : decode cX6_image 5 = .ok (.if_icmp .ge 21, 3) := by decide +kernel
theorem dX6_image_8 : decode cX6_image 8 = .ok (.aload_n 0, 1) := by decide +kernel
theorem dX6_image_9 : decode cX6_image 9 = .ok (.getfield 13, 3) := by decide +kernel
theorem dX6_image_12 : decode cX6_image 12 = .ok (.iload_n 1, 1) := by decide +kernel
theorem dX6_image_13 : decode cX6_image 13 = .ok (.aload_n 0, 1) := by decide +kernel
theorem dX6_image_14 : decode cX6_image 14 = .ok (.getfield 7, 3) := by decide +kernel
theorem dX6_image_17 : decode cX6_image 17 = .ok (.iload_n 1, 1) := by decide +kernel
theorem dX6_image_18 : decode cX6_image 18 = .ok (.iaload, 1) := by decide +kernel
theorem dX6_image_19 : decode cX6_image 19 = .ok (.iastore, 1) := by decide +kernel
theorem dX6_image_20 : decode cX6_image 20 = .ok (.iinc 1 1, 3) := by decide +kernel
theorem dX6_image_23 : decode cX6_image 23 = .ok (.goto (-21), 3) := by decide +kernel
theorem dX6_image_26 : decode cX6_image 26 = .ok (.aload_n 0, 1) := by decide +kernel
theorem dX6_image_27 : decode cX6_image 27 = .ok (.iconst 1, 1) := by decide +kernel
theorem dX6_image_28 : decode cX6_image 28 = .ok (.putfield 288, 3) := by decide +kernel
theorem dX6_image_31 : decode cX6_image 31 = .ok (.iconst 1, 1) := by decide +kernel
theorem dX6_image_32 : decode cX6_image 32 = .ok (.ireturn, 1) := by decide +kernel
set_option maxRecDepth 20000 in
theorem ggX6_undo_X6_finds : GoodIn wsX6_undo wsX6_finds := goodIn_r _ [9, 10, 11, 12, 13, 14, 15, 16, 17, 18, 19, 20, 21, 22, 23, 24, 25, 26, 27] (by decide +kernel) (by decide +kernel)
set_option maxRecDepth 20000 in
theorem gX6_undo_X6_finds : GoodIn wsX6_undo (wsV RX6 73 RX6 yX6_finds wsX6_finds) := goodIn_app (goodIn_of _ (by decide +kernel)) ggX6_undo_X6_finds
theorem dX6_undo_0 : decode cX6_undo 0 = .ok (.aload_n 0, 1) := by decide +kernel
theorem dX6_undo_1 : decode cX6_undo 1 = .ok (.getfield 288, 3) := by decide +kernel
theorem dX6_undo_4 : decode cX6_undo 4 = .ok (.ifCond .ne 10, 3) := by decide +kernel
theorem dX6_undo_7 : decode cX6_undo 7 = .ok (.aload_n 0, 1) := by decide +kernel
theorem dX6_undo_8 : decode cX6_undo 8 = .ok (.ldc 158, 2) := by decide +kernel
theorem dX6_undo_10 : decode cX6_undo 10 = .ok (.invokevirtual 73, 3) := by decide +kernel
theorem dX6_undo_13 : decode cX6_undo 13 = .ok (.ireturn, 1) := by decide +kernel
theorem dX6_undo_14 : decode cX6_undo 14 = .ok (.iconst 0, 1) := by decide +kernel
theorem dX6_undo_15 : decode cX6_undo 15 = .ok (.istore_n 1, 1) := by decide +kernel
theorem dX6_undo_16 : decode cX6_undo 16 = .ok (.iload_n 1, 1) := by decide +kernel
theorem dX6_undo_17 : decode cX6_undo 17 = .ok (.bipush 39, 2) := by decide +kernel
theorem dX6_undo_19 : decode cX6_undo 19 = .ok (.if_icmp .ge 21, 3) := by decide +kernel
theorem dX6_undo_22 : decode cX6_undo 22 = .ok (.aload_n 0, 1) := by decide +kernel
theorem dX6_undo_23 : decode cX6_undo 23 = .ok (.getfield 7, 3) := by decide +kernel
theorem dX6_undo_26 : decode cX6_undo 26 = .ok (.iload_n 1, 1) := by decide +kernel
theorem dX6_undo_27 : decode cX6_undo 27 = .ok (.aload_n 0, 1) := by decide +kernel
theorem dX6_undo_28 : decode cX6_undo 28 = .ok (.getfield 13, 3) := by decide +kernel
theorem dX6_undo_31 : decode cX6_undo 31 = .ok (.iload_n 1, 1) := by decide +kernel
theorem dX6_undo_32 : decode cX6_undo 32 = .ok (.iaload, 1) := by decide +kernel
theorem dX6_undo_33 : decode cX6_undo 33 = .ok (.iastore, 1) := by decide +kernel
theorem dX6_undo_34 : decode cX6_undo 34 = .ok (.iinc 1 1, 3) := by decide +kernel
theorem dX6_undo_37 : decode cX6_undo 37 = .ok (.goto (-21), 3) := by decide +kernel
theorem dX6_undo_40 : decode cX6_undo 40 = .ok (.aload_n 0, 1) := by decide +kernel
theorem dX6_undo_41 : decode cX6_undo 41 = .ok (.getfield 7, 3) := by decide +kernel
theorem dX6_undo_44 : decode cX6_undo 44 = .ok (.iconst 0, 1) := by decide +kernel
theorem dX6_undo_45 : decode cX6_undo 45 = .ok (.iaload, 1) := by decide +kernel
theorem dX6_undo_46 : decode cX6_undo 46 = .ok (.ireturn, 1) := by decide +kernel
theorem dX6_tear_0 : decode cX6_tear 0 = .ok (.aload_n 0, 1) := by decide +kernel
theorem dX6_tear_1 : decode cX6_tear 1 = .ok (.getfield 288, 3) := by decide +kernel
theorem dX6_tear_4 : decode cX6_tear 4 = .ok (.ifCond .eq 7, 3) := by decide +kernel
theorem dX6_tear_7 : decode cX6_tear 7 = .ok (.iconst 1, 1) := by decide +kernel
theorem dX6_tear_8 : decode cX6_tear 8 = .ok (.goto 4, 3) := by decide +kernel
theorem dX6_tear_11 : decode cX6_tear 11 = .ok (.iconst 0, 1) := by decide +kernel
theorem dX6_tear_12 : decode cX6_tear 12 = .ok (.istore_n 1, 1) := by decide +kernel
theorem dX6_tear_13 : decode cX6_tear 13 = .ok (.aload_n 0, 1) := by decide +kernel
theorem dX6_tear_14 : decode cX6_tear 14 = .ok (.iconst 0, 1) := by decide +kernel
theorem dX6_tear_15 : decode cX6_tear 15 = .ok (.putfield 288, 3) := by decide +kernel
theorem dX6_tear_18 : decode cX6_tear 18 = .ok (.iload_n 1, 1) := by decide +kernel
theorem dX6_tear_19 : decode cX6_tear 19 = .ok (.ireturn, 1) := by decide +kernel
set_option maxRecDepth 20000 in
theorem ggX6_others_X6_its : GoodIn wsX6_others wsX6_its := goodIn_r _ [5, 6, 7, 8, 4, 9, 10, 11, 12, 13, 14, 15, 16, 17, 18, 19, 20, 21, 22, 23, 24, 25] (by decide +kernel) (by decide +kernel)
set_option maxRecDepth 20000 in
theorem gX6_others_X6_its : GoodIn wsX6_others (wsV RX6 81 RX6 yX6_its wsX6_its) := goodIn_app (goodIn_of _ (by decide +kernel)) ggX6_others_X6_its
theorem dX6_others_0 : decode cX6_others 0 = .ok (.iconst 0, 1) := by decide +kernel
theorem dX6_others_1 : decode cX6_others 1 = .ok (.istore_n 1, 1) := by decide +kernel
theorem dX6_others_2 : decode cX6_others 2 = .ok (.iconst 0, 1) := by decide +kernel
theorem dX6_others_3 : decode cX6_others 3 = .ok (.istore_n 2, 1) := by decide +kernel
theorem dX6_others_4 : decode cX6_others 4 = .ok (.iload_n 2, 1) := by decide +kernel
theorem dX6_others_5 : decode cX6_others 5 = .ok (.bipush 8, 2) := by decide +kernel
theorem dX6_others_7 : decode cX6_others 7 = .ok (.if_icmp .ge 26, 3) := by decide +kernel
theorem dX6_others_10 : decode cX6_others 10 = .ok (.iload_n 1, 1) := by decide +kernel
theorem dX6_others_11 : decode cX6_others 11 = .ok (.aload_n 0, 1) := by decide +kernel
theorem dX6_others_12 : decode cX6_others 12 = .ok (.iload_n 2, 1) := by decide +kernel
theorem dX6_others_13 : decode cX6_others 13 = .ok (.iconst 0, 1) := by decide +kernel
theorem dX6_others_14 : decode cX6_others 14 = .ok (.invokevirtual 81, 3) := by decide +kernel
theorem dX6_others_17 : decode cX6_others 17 = .ok (.ifCond .eq 7, 3) := by decide +kernel
theorem dX6_others_20 : decode cX6_others 20 = .ok (.iconst 1, 1) := by decide +kernel
theorem dX6_others_21 : decode cX6_others 21 = .ok (.goto 4, 3) := by decide +kernel
theorem dX6_others_24 : decode cX6_others 24 = .ok (.iconst 0, 1) := by decide +kernel
theorem dX6_others_25 : decode cX6_others 25 = .ok (.iadd, 1) := by decide +kernel
theorem dX6_others_26 : decode cX6_others 26 = .ok (.istore_n 1, 1) := by decide +kernel
theorem dX6_others_27 : decode cX6_others 27 = .ok (.iinc 2 1, 3) := by decide +kernel
theorem dX6_others_30 : decode cX6_others 30 = .ok (.goto (-26), 3) := by decide +kernel
theorem dX6_others_33 : decode cX6_others 33 = .ok (.iload_n 1, 1) := by decide +kernel
theorem dX6_others_34 : decode cX6_others 34 = .ok (.ireturn, 1) := by decide +kernel
set_option maxRecDepth 20000 in
theorem ggX6_count_X6_others : GoodIn wsX6_count wsX6_others := goodIn_r _ [7, 8, 9, 10, 6, 11, 12, 13, 14, 15, 25, 26, 27, 28, 29, 30, 31, 32, 33, 34, 35, 36, 37, 38, 39, 40] (by decide +kernel) (by decide +kernel)
set_option maxRecDepth 20000 in
theorem gX6_count_X6_others : GoodIn wsX6_count (wsV RX6 291 RX6 yX6_others wsX6_others) := goodIn_app (goodIn_of _ (by decide +kernel)) ggX6_count_X6_others
set_option maxRecDepth 20000 in
theorem ggX6_count_X6_together : GoodIn wsX6_count wsX6_together := goodIn_r _ [19, 8, 9, 10, 6, 11, 12, 13, 14, 15, 25, 26, 27, 28, 29, 30, 31, 32, 33, 34, 35, 36, 37, 38, 39, 40] (by decide +kernel) (by decide +kernel)
set_option maxRecDepth 20000 in
theorem gX6_count_X6_together : GoodIn wsX6_count (wsV RX6 152 RX6 yX6_together wsX6_together) := goodIn_app (goodIn_of _ (by decide +kernel)) ggX6_count_X6_together
set_option maxRecDepth 20000 in
theorem ggX6_count_X6_finds : GoodIn wsX6_count wsX6_finds := goodIn_r _ [23, 24, 2, 25, 26, 27, 28, 29, 30, 31, 32, 33, 34, 35, 36, 37, 38, 39, 40] (by decide +kernel) (by decide +kernel)
set_option maxRecDepth 20000 in
theorem gX6_count_X6_finds : GoodIn wsX6_count (wsV RX6 73 RX6 yX6_finds wsX6_finds) := goodIn_app (goodIn_of _ (by decide +kernel)) ggX6_count_X6_finds
theorem dX6_count_0 : decode cX6_count 0 = .ok (.iload_n 1, 1) := by decide +kernel
theorem dX6_count_1 : decode cX6_count 1 = .ok (.tableswitch 53 0 3 #[31, 36, 41, 47], 31) := by decide +kernel
theorem dX6_count_32 : decode cX6_count 32 = .ok (.aload_n 0, 1) := by decide +kernel
theorem dX6_count_33 : decode cX6_count 33 = .ok (.invokevirtual 291, 3) := by decide +kernel
theorem dX6_count_36 : decode cX6_count 36 = .ok (.ireturn, 1) := by decide +kernel
theorem dX6_count_37 : decode cX6_count 37 = .ok (.aload_n 0, 1) := by decide +kernel
theorem dX6_count_38 : decode cX6_count 38 = .ok (.getfield 173, 3) := by decide +kernel
theorem dX6_count_41 : decode cX6_count 41 = .ok (.ireturn, 1) := by decide +kernel
theorem dX6_count_42 : decode cX6_count 42 = .ok (.aload_n 0, 1) := by decide +kernel
theorem dX6_count_43 : decode cX6_count 43 = .ok (.iconst 1, 1) := by decide +kernel
theorem dX6_count_44 : decode cX6_count 44 = .ok (.invokevirtual 152, 3) := by decide +kernel
theorem dX6_count_47 : decode cX6_count 47 = .ok (.ireturn, 1) := by decide +kernel
theorem dX6_count_48 : decode cX6_count 48 = .ok (.aload_n 0, 1) := by decide +kernel
theorem dX6_count_49 : decode cX6_count 49 = .ok (.iconst 3, 1) := by decide +kernel
theorem dX6_count_50 : decode cX6_count 50 = .ok (.invokevirtual 152, 3) := by decide +kernel
theorem dX6_count_53 : decode cX6_count 53 = .ok (.ireturn, 1) := by decide +kernel
theorem dX6_count_54 : decode cX6_count 54 = .ok (.aload_n 0, 1) := by decide +kernel
theorem dX6_count_55 : decode cX6_count 55 = .ok (.ldc 45, 2) := by decide +kernel
theorem dX6_count_57 : decode cX6_count 57 = .ok (.invokevirtual 73, 3) := by decide +kernel
theorem dX6_count_60 : decode cX6_count 60 = .ok (.ireturn, 1) := by decide +kernel
set_option maxRecDepth 20000 in
theorem ggX6_status_X6_in : GoodIn wsX6_status wsX6_in := goodIn_r _ [8] (by decide +kernel) (by decide +kernel)
set_option maxRecDepth 20000 in
theorem gX6_status_X6_in : GoodIn wsX6_status (va_wsS RX6 48 yX6_in wsX6_in) := goodIn_app (goodIn_of _ (by decide +kernel)) ggX6_status_X6_in
set_option maxRecDepth 20000 in
theorem ggX6_status_X6_finds : GoodIn wsX6_status wsX6_finds := goodIn_r _ [12, 4, 3, 13, 14, 15, 16, 17, 18, 19, 20, 21, 22, 23, 24, 25, 26, 27, 28] (by decide +kernel) (by decide +kernel)
set_option maxRecDepth 20000 in
theorem gX6_status_X6_finds : GoodIn wsX6_status (wsV RX6 73 RX6 yX6_finds wsX6_finds) := goodIn_app (goodIn_of _ (by decide +kernel)) ggX6_status_X6_finds
theorem dX6_status_0 : decode cX6_status 0 = .ok (.iload_n 1, 1) := by decide +kernel
theorem dX6_status_1 : decode cX6_status 1 = .ok (.i2l, 1) := by decide +kernel
theorem dX6_status_2 : decode cX6_status 2 = .ok (.ldc2_w 62, 3) := by decide +kernel
theorem dX6_status_5 : decode cX6_status 5 = .ok (.ldc2_w 52, 3) := by decide +kernel
theorem dX6_status_8 : decode cX6_status 8 = .ok (.invokestatic 48, 3) := by decide +kernel
theorem dX6_status_11 : decode cX6_status 11 = .ok (.ifCond .ne 10, 3) := by decide +kernel
theorem dX6_status_14 : decode cX6_status 14 = .ok (.aload_n 0, 1) := by decide +kernel
theorem dX6_status_15 : decode cX6_status 15 = .ok (.ldc 45, 2) := by decide +kernel
theorem dX6_status_17 : decode cX6_status 17 = .ok (.invokevirtual 73, 3) := by decide +kernel
theorem dX6_status_20 : decode cX6_status 20 = .ok (.ireturn, 1) := by decide +kernel
theorem dX6_status_21 : decode cX6_status 21 = .ok (.iconst 0, 1) := by decide +kernel
theorem dX6_status_22 : decode cX6_status 22 = .ok (.istore_n 2, 1) := by decide +kernel
theorem dX6_status_23 : decode cX6_status 23 = .ok (.iconst 0, 1) := by decide +kernel
theorem dX6_status_24 : decode cX6_status 24 = .ok (.istore_n 3, 1) := by decide +kernel
theorem dX6_status_25 : decode cX6_status 25 = .ok (.iload_n 3, 1) := by decide +kernel
theorem dX6_status_26 : decode cX6_status 26 = .ok (.bipush 7, 2) := by decide +kernel
theorem dX6_status_28 : decode cX6_status 28 = .ok (.if_icmp .ge 31, 3) := by decide +kernel
theorem dX6_status_31 : decode cX6_status 31 = .ok (.iload_n 2, 1) := by decide +kernel
theorem dX6_status_32 : decode cX6_status 32 = .ok (.iload_n 1, 1) := by decide +kernel
theorem dX6_status_33 : decode cX6_status 33 = .ok (.ifCond .lt 8, 3) := by decide +kernel
theorem dX6_status_36 : decode cX6_status 36 = .ok (.iload_n 3, 1) := by decide +kernel
theorem dX6_status_37 : decode cX6_status 37 = .ok (.iload_n 1, 1) := by decide +kernel
theorem dX6_status_38 : decode cX6_status 38 = .ok (.if_icmp .ne 12, 3) := by decide +kernel
theorem dX6_status_41 : decode cX6_status 41 = .ok (.aload_n 0, 1) := by decide +kernel
theorem dX6_status_42 : decode cX6_status 42 = .ok (.getfield 22, 3) := by decide +kernel
theorem dX6_status_45 : decode cX6_status 45 = .ok (.iload_n 3, 1) := by decide +kernel
theorem dX6_status_46 : decode cX6_status 46 = .ok (.iaload, 1) := by decide +kernel
theorem dX6_status_47 : decode cX6_status 47 = .ok (.goto 4, 3) := by decide +kernel
theorem dX6_status_50 : decode cX6_status 50 = .ok (.iconst 0, 1) := by decide +kernel
theorem dX6_status_51 : decode cX6_status 51 = .ok (.iadd, 1) := by decide +kernel
theorem dX6_status_52 : decode cX6_status 52 = .ok (.istore_n 2, 1) := by decide +kernel
theorem dX6_status_53 : decode cX6_status 53 = .ok (.iinc 3 1, 3) := by decide +kernel
theorem dX6_status_56 : decode cX6_status 56 = .ok (.goto (-31), 3) := by decide +kernel
theorem dX6_status_59 : decode cX6_status 59 = .ok (.iload_n 2, 1) := by decide +kernel
theorem dX6_status_60 : decode cX6_status 60 = .ok (.ireturn, 1) := by decide +kernel
theorem dJ9_max_7cf53_0 : decode cJ9_max_7cf53 0 = .ok (.iload_n 0, 1) := by decide +kernel
theorem dJ9_max_7cf53_1 : decode cJ9_max_7cf53 1 = .ok (.iload_n 1, 1) := by decide +kernel
theorem dJ9_max_7cf53_2 : decode cJ9_max_7cf53 2 = .ok (.if_icmp .lt 7, 3) := by decide +kernel
theorem dJ9_max_7cf53_5 : decode cJ9_max_7cf53 5 = .ok (.iload_n 0, 1) := by decide +kernel
theorem dJ9_max_7cf53_6 : decode cJ9_max_7cf53 6 = .ok (.goto 4, 3) := by decide +kernel
theorem dJ9_max_7cf53_9 : decode cJ9_max_7cf53 9 = .ok (.iload_n 1, 1) := by decide +kernel
theorem dJ9_max_7cf53_10 : decode cJ9_max_7cf53 10 = .ok (.ireturn, 1) := by decide +kernel
theorem dJ9_min_7cf53_0 : decode cJ9_min_7cf53 0 = .ok (.iload_n 0, 1) := by decide +kernel
theorem dJ9_min_7cf53_1 : decode cJ9_min_7cf53 1 = .ok (.iload_n 1, 1) := by decide +kernel
theorem dJ9_min_7cf53_2 : decode cJ9_min_7cf53 2 = .ok (.if_icmp .gt 7, 3) := by decide +kernel
theorem dJ9_min_7cf53_5 : decode cJ9_min_7cf53 5 = .ok (.iload_n 0, 1) := by decide +kernel
theorem dJ9_min_7cf53_6 : decode cJ9_min_7cf53 6 = .ok (.goto 4, 3) := by decide +kernel
theorem dJ9_min_7cf53_9 : decode cJ9_min_7cf53 9 = .ok (.iload_n 1, 1) := by decide +kernel
theorem dJ9_min_7cf53_10 : decode cJ9_min_7cf53 10 = .ok (.ireturn, 1) := by decide +kernel
set_option maxRecDepth 20000 in
theorem ggJ0_length_8abf5_J0_coder_7d493 : GoodIn wsJ0_length_8abf5 wsJ0_coder_7d493 := goodIn_r _ [6, 7, 8] (by decide +kernel) (by decide +kernel)
set_option maxRecDepth 20000 in
theorem gJ0_length_8abf5_J0_coder_7d493 : GoodIn wsJ0_length_8abf5 (wsV RJ0 335 RJ0 yJ0_coder_7d493 wsJ0_coder_7d493) := goodIn_app (goodIn_of _ (by decide +kernel)) ggJ0_length_8abf5_J0_coder_7d493
theorem dJ0_length_8abf5_0 : decode cJ0_length_8abf5 0 = .ok (.aload_n 0, 1) := by decide +kernel
theorem dJ0_length_8abf5_1 : decode cJ0_length_8abf5 1 = .ok (.getfield 9, 3) := by decide +kernel
theorem dJ0_length_8abf5_4 : decode cJ0_length_8abf5 4 = .ok (.arraylength, 1) := by decide +kernel
theorem dJ0_length_8abf5_5 : decode cJ0_length_8abf5 5 = .ok (.aload_n 0, 1) := by decide +kernel
theorem dJ0_length_8abf5_6 : decode cJ0_length_8abf5 6 = .ok (.invokevirtual 335, 3) := by decide +kernel
theorem dJ0_length_8abf5_9 : decode cJ0_length_8abf5 9 = .ok (.ishr, 1) := by decide +kernel
theorem dJ0_length_8abf5_10 : decode cJ0_length_8abf5 10 = .ok (.ireturn, 1) := by decide +kernel
set_option maxRecDepth 20000 in
theorem ggJ0_charAt_5068e_J0_isLatin1_aae02 : GoodIn wsJ0_charAt_5068e wsJ0_isLatin1_aae02 := goodIn_r _ [6, 7, 8] (by decide +kernel) (by decide +kernel)
set_option maxRecDepth 20000 in
theorem gJ0_charAt_5068e_J0_isLatin1_aae02 : GoodIn wsJ0_charAt_5068e (wsV RJ0 492 RJ0 yJ0_isLatin1_aae02 wsJ0_isLatin1_aae02) := goodIn_app (goodIn_of _ (by decide +kernel)) ggJ0_charAt_5068e_J0_isLatin1_aae02
set_option maxRecDepth 20000 in
theorem ggJ0_charAt_5068e_J1_charAt_3b067 : GoodIn wsJ0_charAt_5068e wsJ1_charAt_3b067 := goodIn_r _ [12, 13, 14, 5, 15, 16, 17, 18, 19, 20] (by decide +kernel) (by decide +kernel)
set_option maxRecDepth 20000 in
theorem gJ0_charAt_5068e_J1_charAt_3b067 : GoodIn wsJ0_charAt_5068e (va_wsS RJ0 495 yJ1_charAt_3b067 wsJ1_charAt_3b067) := goodIn_app (goodIn_of _ (by decide +kernel)) ggJ0_charAt_5068e_J1_charAt_3b067
set_option maxRecDepth 20000 in
theorem ggJ0_charAt_5068e_J2_charAt_3b067 : GoodIn wsJ0_charAt_5068e wsJ2_charAt_3b067 := goodIn_r _ [24, 25, 26, 23, 27, 28, 29, 30, 31, 14, 5, 15, 16, 17, 18, 19, 20, 32, 33, 34, 35, 36, 37] (by decide +kernel) (by decide +kernel)
set_option maxRecDepth 20000 in
theorem gJ0_charAt_5068e_J2_charAt_3b067 : GoodIn wsJ0_charAt_5068e (va_wsS RJ0 498 yJ2_charAt_3b067 wsJ2_charAt_3b067) := goodIn_app (goodIn_of _ (by decide +kernel)) ggJ0_charAt_5068e_J2_charAt_3b067
theorem dJ0_charAt_5068e_0 : decode cJ0_charAt_5068e 0 = .ok (.aload_n 0, 1) := by decide +kernel
theorem dJ0_charAt_5068e_1 : decode cJ0_charAt_5068e 1 = .ok (.invokevirtual 492, 3) := by decide +kernel
theorem dJ0_charAt_5068e_4 : decode cJ0_charAt_5068e 4 = .ok (.ifCond .eq 12, 3) := by decide +kernel
theorem dJ0_charAt_5068e_7 : decode cJ0_charAt_5068e 7 = .ok (.aload_n 0, 1) := by decide +kernel
theorem dJ0_charAt_5068e_8 : decode cJ0_charAt_5068e 8 = .ok (.getfield 9, 3) := by decide +kernel
theorem dJ0_charAt_5068e_11 : decode cJ0_charAt_5068e 11 = .ok (.iload_n 1, 1) := by decide +kernel
theorem dJ0_charAt_5068e_12 : decode cJ0_charAt_5068e 12 = .ok (.invokestatic 495, 3) := by decide +kernel
theorem dJ0_charAt_5068e_15 : decode cJ0_charAt_5068e 15 = .ok (.ireturn, 1) := by decide +kernel
theorem dJ0_charAt_5068e_16 : decode cJ0_charAt_5068e 16 = .ok (.aload_n 0, 1) := by decide +kernel
theorem dJ0_charAt_5068e_17 : decode cJ0_charAt_5068e 17 = .ok (.getfield 9, 3) := by decide +kernel
theorem dJ0_charAt_5068e_20 : decode cJ0_charAt_5068e 20 = .ok (.iload_n 1, 1) := by decide +kernel
theorem dJ0_charAt_5068e_21 : decode cJ0_charAt_5068e 21 = .ok (.invokestatic 498, 3) := by decide +kernel
theorem dJ0_charAt_5068e_24 : decode cJ0_charAt_5068e 24 = .ok (.ireturn, 1) := by decide +kernel
theorem dJ0_coder_7d493_0 : decode cJ0_coder_7d493 0 = .ok (.getstatic 38, 3) := by decide +kernel
theorem dJ0_coder_7d493_3 : decode cJ0_coder_7d493 3 = .ok (.ifCond .eq 10, 3) := by decide +kernel
theorem dJ0_coder_7d493_6 : decode cJ0_coder_7d493 6 = .ok (.aload_n 0, 1) := by decide +kernel
theorem dJ0_coder_7d493_7 : decode cJ0_coder_7d493 7 = .ok (.getfield 15, 3) := by decide +kernel
theorem dJ0_coder_7d493_10 : decode cJ0_coder_7d493 10 = .ok (.goto 4, 3) := by decide +kernel
theorem dJ0_coder_7d493_13 : decode cJ0_coder_7d493 13 = .ok (.iconst 1, 1) := by decide +kernel
theorem dJ0_coder_7d493_14 : decode cJ0_coder_7d493 14 = .ok (.ireturn, 1) := by decide +kernel
theorem dJ0_isLatin1_aae02_0 : decode cJ0_isLatin1_aae02 0 = .ok (.getstatic 38, 3) := by decide +kernel
theorem dJ0_isLatin1_aae02_3 : decode cJ0_isLatin1_aae02 3 = .ok (.ifCond .eq 14, 3) := by decide +kernel
theorem dJ0_isLatin1_aae02_6 : decode cJ0_isLatin1_aae02 6 = .ok (.aload_n 0, 1) := by decide +kernel
theorem dJ0_isLatin1_aae02_7 : decode cJ0_isLatin1_aae02 7 = .ok (.getfield 15, 3) := by decide +kernel
theorem dJ0_isLatin1_aae02_10 : decode cJ0_isLatin1_aae02 10 = .ok (.ifCond .ne 7, 3) := by decide +kernel
theorem dJ0_isLatin1_aae02_13 : decode cJ0_isLatin1_aae02 13 = .ok (.iconst 1, 1) := by decide +kernel
theorem dJ0_isLatin1_aae02_14 : decode cJ0_isLatin1_aae02 14 = .ok (.goto 4, 3) := by decide +kernel
theorem dJ0_isLatin1_aae02_17 : decode cJ0_isLatin1_aae02 17 = .ok (.iconst 0, 1) := by decide +kernel
theorem dJ0_isLatin1_aae02_18 : decode cJ0_isLatin1_aae02 18 = .ok (.ireturn, 1) := by decide +kernel
set_option maxRecDepth 20000 in
theorem ggJ0_checkIndex_df160_J3_checkIndex_8e157 : GoodIn wsJ0_checkIndex_df160 wsJ3_checkIndex_8e157 := goodIn_r _ [5] (by decide +kernel) (by decide +kernel)
set_option maxRecDepth 20000 in
theorem gJ0_checkIndex_df160_J3_checkIndex_8e157 : GoodIn wsJ0_checkIndex_df160 (va_wsS RJ0 1059 yJ3_checkIndex_8e157 wsJ3_checkIndex_8e157) := goodIn_app (goodIn_of _ (by decide +kernel)) ggJ0_checkIndex_df160_J3_checkIndex_8e157
theorem dJ0_checkIndex_df160_0 : decode cJ0_checkIndex_df160 0 = .ok (.iload_n 0, 1) := by decide +kernel
theorem dJ0_checkIndex_df160_1 : decode cJ0_checkIndex_df160 1 = .ok (.iload_n 1, 1) := by decide +kernel
theorem dJ0_checkIndex_df160_2 : decode cJ0_checkIndex_df160 2 = .ok (.getstatic 1053, 3) := by decide +kernel
theorem dJ0_checkIndex_df160_5 : decode cJ0_checkIndex_df160 5 = .ok (.invokestatic 1059, 3) := by decide +kernel
theorem dJ0_checkIndex_df160_8 : decode cJ0_checkIndex_df160 8 = .ok (.pop, 1) := by decide +kernel
theorem dJ0_checkIndex_df160_9 : decode cJ0_checkIndex_df160 9 = .ok (.return_, 1) := by decide +kernel
set_option maxRecDepth 20000 in
theorem ggJ1_charAt_3b067_J0_checkIndex_df160 : GoodIn wsJ1_charAt_3b067 wsJ0_checkIndex_df160 := goodIn_r _ [4, 5, 6, 7, 8, 9] (by decide +kernel) (by decide +kernel)
set_option maxRecDepth 20000 in
theorem gJ1_charAt_3b067_J0_checkIndex_df160 : GoodIn wsJ1_charAt_3b067 (va_wsS RJ1 9 yJ0_checkIndex_df160 wsJ0_checkIndex_df160) := goodIn_app (goodIn_of _ (by decide +kernel)) ggJ1_charAt_3b067_J0_checkIndex_df160
theorem dJ1_charAt_3b067_0 : decode cJ1_charAt_3b067 0 = .ok (.iload_n 1, 1) := by decide +kernel
theorem dJ1_charAt_3b067_1 : decode cJ1_charAt_3b067 1 = .ok (.aload_n 0, 1) := by decide +kernel
theorem dJ1_charAt_3b067_2 : decode cJ1_charAt_3b067 2 = .ok (.arraylength, 1) := by decide +kernel
theorem dJ1_charAt_3b067_3 : decode cJ1_charAt_3b067 3 = .ok (.invokestatic 9, 3) := by decide +kernel
theorem dJ1_charAt_3b067_6 : decode cJ1_charAt_3b067 6 = .ok (.aload_n 0, 1) := by decide +kernel
theorem dJ1_charAt_3b067_7 : decode cJ1_charAt_3b067 7 = .ok (.iload_n 1, 1) := by decide +kernel
theorem dJ1_charAt_3b067_8 : decode cJ1_charAt_3b067 8 = .ok (.baload, 1) := by decide +kernel
theorem dJ1_charAt_3b067_9 : decode cJ1_charAt_3b067 9 = .ok (.sipush 255, 3) := by decide +kernel
theorem dJ1_charAt_3b067_12 : decode cJ1_charAt_3b067 12 = .ok (.iand, 1) := by decide +kernel
theorem dJ1_charAt_3b067_13 : decode cJ1_charAt_3b067 13 = .ok (.i2c, 1) := by decide +kernel
theorem dJ1_charAt_3b067_14 : decode cJ1_charAt_3b067 14 = .ok (.ireturn, 1) := by decide +kernel
set_option maxRecDepth 20000 in
theorem ggJ2_getChar_3b067_J2_length_9d52b : GoodIn wsJ2_getChar_3b067 wsJ2_length_9d52b := goodIn_r _ [7] (by decide +kernel) (by decide +kernel)
set_option maxRecDepth 20000 in
theorem gJ2_getChar_3b067_J2_length_9d52b : GoodIn wsJ2_getChar_3b067 (va_wsS RJ2 48 yJ2_length_9d52b wsJ2_length_9d52b) := goodIn_app (goodIn_of _ (by decide +kernel)) ggJ2_getChar_3b067_J2_length_9d52b
theorem dJ2_getChar_3b067_0 : decode cJ2_getChar_3b067 0 = .ok (.getstatic 44, 3) := by decide +kernel
theorem dJ2_getChar_3b067_3 : decode cJ2_getChar_3b067 3 = .ok (.ifCond .ne 25, 3) := by decide +kernel
theorem dJ2_getChar_3b067_6 : decode cJ2_getChar_3b067 6 = .ok (.iload_n 1, 1) := by decide +kernel
theorem dJ2_getChar_3b067_7 : decode cJ2_getChar_3b067 7 = .ok (.ifCond .lt 11, 3) := by decide +kernel
theorem dJ2_getChar_3b067_10 : decode cJ2_getChar_3b067 10 = .ok (.iload_n 1, 1) := by decide +kernel
theorem dJ2_getChar_3b067_11 : decode cJ2_getChar_3b067 11 = .ok (.aload_n 0, 1) := by decide +kernel
theorem dJ2_getChar_3b067_12 : decode cJ2_getChar_3b067 12 = .ok (.invokestatic 48, 3) := by decide +kernel
theorem dJ2_getChar_3b067_15 : decode cJ2_getChar_3b067 15 = .ok (.if_icmp .lt 13, 3) := by decide +kernel
theorem dJ2_getChar_3b067_18 : decode cJ2_getChar_3b067 18 = .ok (.new 52, 3) := by decide +kernel
theorem dJ2_getChar_3b067_21 : decode cJ2_getChar_3b067 21 = .ok (.dup, 1) := by decide +kernel
theorem dJ2_getChar_3b067_22 : decode cJ2_getChar_3b067 22 = .ok (.ldc 54, 2) := by decide +kernel
theorem dJ2_getChar_3b067_24 : decode cJ2_getChar_3b067 24 = .ok (.invokespecial 56, 3) := by decide +kernel
theorem dJ2_getChar_3b067_27 : decode cJ2_getChar_3b067 27 = .ok (.athrow, 1) := by decide +kernel
theorem dJ2_getChar_3b067_28 : decode cJ2_getChar_3b067 28 = .ok (.iload_n 1, 1) := by decide +kernel
theorem dJ2_getChar_3b067_29 : decode cJ2_getChar_3b067 29 = .ok (.iconst 1, 1) := by decide +kernel
theorem dJ2_getChar_3b067_30 : decode cJ2_getChar_3b067 30 = .ok (.ishl, 1) := by decide +kernel
theorem dJ2_getChar_3b067_31 : decode cJ2_getChar_3b067 31 = .ok (.istore_n 1, 1) := by decide +kernel
