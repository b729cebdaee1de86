theorem dX5_sheet_56 : decode cX5_sheet 56 = .ok (.aload_n 0, 1) := by decide +kernel
theorem dX5_sheet_57 : decode cX5_sheet 57 = .ok (.getfield 44, 3) := by decide +kernel
theorem dX5_sheet_60 : decode cX5_sheet 60 = .ok (.iload_n 1, 1) := by decide +kernel
theorem dX5_sheet_61 : decode cX5_sheet 61 = .ok (.aaload, 1) := by decide +kernel
theorem dX5_sheet_62 : decode cX5_sheet 62 = .ok (.getfield 205, 3) := by decide +kernel
theorem dX5_sheet_65 : decode cX5_sheet 65 = .ok (.ireturn, 1) := by decide +kernel
set_option maxRecDepth 20000 in
theorem ggX5_write_X5_isSheet : GoodIn wsX5_write wsX5_isSheet := goodIn_r _ [9, 10, 11, 8, 12] (by decide +kernel) (by decide +kernel)
set_option maxRecDepth 20000 in
theorem gX5_write_X5_isSheet : GoodIn wsX5_write (va_wsS RX5 195 yX5_isSheet wsX5_isSheet) := goodIn_app (goodIn_of _ (by decide +kernel)) ggX5_write_X5_isSheet
set_option maxRecDepth 20000 in
theorem ggX5_write_X5_finding : GoodIn wsX5_write wsX5_finding := goodIn_r _ [16, 1, 17, 10, 11, 8, 12, 29, 30, 31, 32, 33, 34, 35, 36] (by decide +kernel) (by decide +kernel)
set_option maxRecDepth 20000 in
theorem gX5_write_X5_finding : GoodIn wsX5_write (wsV RX5 62 RX5 yX5_finding wsX5_finding) := goodIn_app (goodIn_of _ (by decide +kernel)) ggX5_write_X5_finding
set_option maxRecDepth 20000 in
theorem ggX5_write_X1_isMissing : GoodIn wsX5_write wsX1_isMissing := goodIn_r _ [22, 23, 37, 38, 39] (by decide +kernel) (by decide +kernel)
set_option maxRecDepth 20000 in
theorem gX5_write_X1_isMissing : GoodIn wsX5_write (wsV RX5 208 RX1 yX1_isMissing wsX1_isMissing) := goodIn_app (goodIn_of _ (by decide +kernel)) ggX5_write_X1_isMissing
set_option maxRecDepth 20000 in
theorem ggX5_write_X1_put : GoodIn wsX5_write wsX1_put := goodIn_r _ [27, 23, 28, 37, 38, 39] (by decide +kernel) (by decide +kernel)
set_option maxRecDepth 20000 in
theorem gX5_write_X1_put : GoodIn wsX5_write (wsV RX5 216 RX1 yX1_put wsX1_put) := goodIn_app (goodIn_of _ (by decide +kernel)) ggX5_write_X1_put
theorem dX5_write_0 : decode cX5_write 0 = .ok (.iload_n 1, 1) := by decide +kernel
theorem dX5_write_1 : decode cX5_write 1 = .ok (.invokestatic 195, 3) := by decide +kernel
theorem dX5_write_4 : decode cX5_write 4 = .ok (.ifCond .ne 11, 3) := by decide +kernel
theorem dX5_write_7 : decode cX5_write 7 = .ok (.aload_n 0, 1) := by decide +kernel
theorem dX5_write_8 : decode cX5_write 8 = .ok (.ldc 61, 2) := by decide +kernel
theorem dX5_write_10 : decode cX5_write 10 = .ok (.invokevirtual 62, 3) := by decide +kernel
theorem dX5_write_13 : decode cX5_write 13 = .ok (.i2l, 1) := by decide +kernel
theorem dX5_write_14 : decode cX5_write 14 = .ok (.lreturn, 1) := by decide +kernel
theorem dX5_write_15 : decode cX5_write 15 = .ok (.aload_n 0, 1) := by decide +kernel
theorem dX5_write_16 : decode cX5_write 16 = .ok (.getfield 44, 3) := by decide +kernel
theorem dX5_write_19 : decode cX5_write 19 = .ok (.iload_n 1, 1) := by decide +kernel
theorem dX5_write_20 : decode cX5_write 20 = .ok (.aaload, 1) := by decide +kernel
theorem dX5_write_21 : decode cX5_write 21 = .ok (.astore 5, 2) := by decide +kernel
theorem dX5_write_23 : decode cX5_write 23 = .ok (.aload 5, 2) := by decide +kernel
theorem dX5_write_25 : decode cX5_write 25 = .ok (.invokevirtual 208, 3) := by decide +kernel
theorem dX5_write_28 : decode cX5_write 28 = .ok (.ifCond .eq 11, 3) := by decide +kernel
theorem dX5_write_31 : decode cX5_write 31 = .ok (.aload_n 0, 1) := by decide +kernel
theorem dX5_write_32 : decode cX5_write 32 = .ok (.ldc 211, 2) := by decide +kernel
theorem dX5_write_34 : decode cX5_write 34 = .ok (.invokevirtual 62, 3) := by decide +kernel
theorem dX5_write_37 : decode cX5_write 37 = .ok (.i2l, 1) := by decide +kernel
theorem dX5_write_38 : decode cX5_write 38 = .ok (.lreturn, 1) := by decide +kernel
theorem dX5_write_39 : decode cX5_write 39 = .ok (.iload_n 2, 1) := by decide +kernel
theorem dX5_write_40 : decode cX5_write 40 = .ok (.ifCond .lt 12, 3) := by decide +kernel
theorem dX5_write_43 : decode cX5_write 43 = .ok (.iload_n 2, 1) := by decide +kernel
theorem dX5_write_44 : decode cX5_write 44 = .ok (.aload 5, 2) := by decide +kernel
theorem dX5_write_46 : decode cX5_write 46 = .ok (.getfield 205, 3) := by decide +kernel
theorem dX5_write_49 : decode cX5_write 49 = .ok (.if_icmp .lt 11, 3) := by decide +kernel
theorem dX5_write_52 : decode cX5_write 52 = .ok (.aload_n 0, 1) := by decide +kernel
theorem dX5_write_53 : decode cX5_write 53 = .ok (.ldc 61, 2) := by decide +kernel
theorem dX5_write_55 : decode cX5_write 55 = .ok (.invokevirtual 62, 3) := by decide +kernel
theorem dX5_write_58 : decode cX5_write 58 = .ok (.i2l, 1) := by decide +kernel
theorem dX5_write_59 : decode cX5_write 59 = .ok (.lreturn, 1) := by decide +kernel
theorem dX5_write_60 : decode cX5_write 60 = .ok (.aload 5, 2) := by decide +kernel
theorem dX5_write_62 : decode cX5_write 62 = .ok (.getfield 212, 3) := by decide +kernel
theorem dX5_write_65 : decode cX5_write 65 = .ok (.iload_n 2, 1) := by decide +kernel
theorem dX5_write_66 : decode cX5_write 66 = .ok (.laload, 1) := by decide +kernel
theorem dX5_write_67 : decode cX5_write 67 = .ok (.lstore 6, 2) := by decide +kernel
theorem dX5_write_69 : decode cX5_write 69 = .ok (.aload 5, 2) := by decide +kernel
theorem dX5_write_71 : decode cX5_write 71 = .ok (.iload_n 2, 1) := by decide +kernel
theorem dX5_write_72 : decode cX5_write 72 = .ok (.lload_n 3, 1) := by decide +kernel
theorem dX5_write_73 : decode cX5_write 73 = .ok (.invokevirtual 216, 3) := by decide +kernel
theorem dX5_write_76 : decode cX5_write 76 = .ok (.lload 6, 2) := by decide +kernel
theorem dX5_write_78 : decode cX5_write 78 = .ok (.lreturn, 1) := by decide +kernel
set_option maxRecDepth 20000 in
theorem ggX5_copy_X5_isSheet : GoodIn wsX5_copy wsX5_isSheet := goodIn_r _ [14, 15, 16, 13, 17] (by decide +kernel) (by decide +kernel)
set_option maxRecDepth 20000 in
theorem gX5_copy_X5_isSheet : GoodIn wsX5_copy (va_wsS RX5 195 yX5_isSheet wsX5_isSheet) := goodIn_app (goodIn_of _ (by decide +kernel)) ggX5_copy_X5_isSheet
set_option maxRecDepth 20000 in
theorem ggX5_copy_X5_finding : GoodIn wsX5_copy wsX5_finding := goodIn_r _ [21, 1, 22, 15, 16, 13, 17, 34, 35, 36, 37, 38, 39, 40, 41] (by decide +kernel) (by decide +kernel)
set_option maxRecDepth 20000 in
theorem gX5_copy_X5_finding : GoodIn wsX5_copy (wsV RX5 62 RX5 yX5_finding wsX5_finding) := goodIn_app (goodIn_of _ (by decide +kernel)) ggX5_copy_X5_finding
set_option maxRecDepth 20000 in
theorem ggX5_copy_X1_isMissing : GoodIn wsX5_copy wsX1_isMissing := goodIn_r _ [27, 28, 42, 43, 44] (by decide +kernel) (by decide +kernel)
set_option maxRecDepth 20000 in
theorem gX5_copy_X1_isMissing : GoodIn wsX5_copy (wsV RX5 208 RX1 yX1_isMissing wsX1_isMissing) := goodIn_app (goodIn_of _ (by decide +kernel)) ggX5_copy_X1_isMissing
set_option maxRecDepth 20000 in
theorem ggX5_copy_X1_hasSpan : GoodIn wsX5_copy wsX1_hasSpan := goodIn_r _ [32, 33, 42, 43, 44] (by decide +kernel) (by decide +kernel)
set_option maxRecDepth 20000 in
theorem gX5_copy_X1_hasSpan : GoodIn wsX5_copy (wsV RX5 223 RX1 yX1_hasSpan wsX1_hasSpan) := goodIn_app (goodIn_of _ (by decide +kernel)) ggX5_copy_X1_hasSpan
theorem dX5_copy_0 : decode cX5_copy 0 = .ok (.iload_n 1, 1) := by decide +kernel
theorem dX5_copy_1 : decode cX5_copy 1 = .ok (.invokestatic 195, 3) := by decide +kernel
theorem dX5_copy_4 : decode cX5_copy 4 = .ok (.ifCond .eq 10, 3) := by decide +kernel
theorem dX5_copy_7 : decode cX5_copy 7 = .ok (.iload_n 3, 1) := by decide +kernel
theorem dX5_copy_8 : decode cX5_copy 8 = .ok (.invokestatic 195, 3) := by decide +kernel
theorem dX5_copy_11 : decode cX5_copy 11 = .ok (.ifCond .ne 10, 3) := by decide +kernel
theorem dX5_copy_14 : decode cX5_copy 14 = .ok (.aload_n 0, 1) := by decide +kernel
theorem dX5_copy_15 : decode cX5_copy 15 = .ok (.ldc 61, 2) := by decide +kernel
theorem dX5_copy_17 : decode cX5_copy 17 = .ok (.invokevirtual 62, 3) := by decide +kernel
theorem dX5_copy_20 : decode cX5_copy 20 = .ok (.ireturn, 1) := by decide +kernel
theorem dX5_copy_21 : decode cX5_copy 21 = .ok (.aload_n 0, 1) := by decide +kernel
theorem dX5_copy_22 : decode cX5_copy 22 = .ok (.getfield 44, 3) := by decide +kernel
theorem dX5_copy_25 : decode cX5_copy 25 = .ok (.iload_n 1, 1) := by decide +kernel
theorem dX5_copy_26 : decode cX5_copy 26 = .ok (.aaload, 1) := by decide +kernel
theorem dX5_copy_27 : decode cX5_copy 27 = .ok (.astore 6, 2) := by decide +kernel
theorem dX5_copy_29 : decode cX5_copy 29 = .ok (.aload_n 0, 1) := by decide +kernel
theorem dX5_copy_30 : decode cX5_copy 30 = .ok (.getfield 44, 3) := by decide +kernel
theorem dX5_copy_33 : decode cX5_copy 33 = .ok (.iload_n 3, 1) := by decide +kernel
theorem dX5_copy_34 : decode cX5_copy 34 = .ok (.aaload, 1) := by decide +kernel
theorem dX5_copy_35 : decode cX5_copy 35 = .ok (.astore 7, 2) := by decide +kernel
theorem dX5_copy_37 : decode cX5_copy 37 = .ok (.aload 6, 2) := by decide +kernel
theorem dX5_copy_39 : decode cX5_copy 39 = .ok (.invokevirtual 208, 3) := by decide +kernel
theorem dX5_copy_42 : decode cX5_copy 42 = .ok (.ifCond .ne 11, 3) := by decide +kernel
theorem dX5_copy_45 : decode cX5_copy 45 = .ok (.aload 7, 2) := by decide +kernel
theorem dX5_copy_47 : decode cX5_copy 47 = .ok (.invokevirtual 208, 3) := by decide +kernel
theorem dX5_copy_50 : decode cX5_copy 50 = .ok (.ifCond .eq 10, 3) := by decide +kernel
theorem dX5_copy_53 : decode cX5_copy 53 = .ok (.aload_n 0, 1) := by decide +kernel
theorem dX5_copy_54 : decode cX5_copy 54 = .ok (.ldc 211, 2) := by decide +kernel
theorem dX5_copy_56 : decode cX5_copy 56 = .ok (.invokevirtual 62, 3) := by decide +kernel
theorem dX5_copy_59 : decode cX5_copy 59 = .ok (.ireturn, 1) := by decide +kernel
theorem dX5_copy_60 : decode cX5_copy 60 = .ok (.aload 6, 2) := by decide +kernel
theorem dX5_copy_62 : decode cX5_copy 62 = .ok (.getfield 220, 3) := by decide +kernel
theorem dX5_copy_65 : decode cX5_copy 65 = .ok (.aload 7, 2) := by decide +kernel
theorem dX5_copy_67 : decode cX5_copy 67 = .ok (.getfield 220, 3) := by decide +kernel
theorem dX5_copy_70 : decode cX5_copy 70 = .ok (.if_icmp .eq 10, 3) := by decide +kernel
theorem dX5_copy_73 : decode cX5_copy 73 = .ok (.aload_n 0, 1) := by decide +kernel
theorem dX5_copy_74 : decode cX5_copy 74 = .ok (.ldc 145, 2) := by decide +kernel
theorem dX5_copy_76 : decode cX5_copy 76 = .ok (.invokevirtual 62, 3) := by decide +kernel
theorem dX5_copy_79 : decode cX5_copy 79 = .ok (.ireturn, 1) := by decide +kernel
theorem dX5_copy_80 : decode cX5_copy 80 = .ok (.aload 6, 2) := by decide +kernel
theorem dX5_copy_82 : decode cX5_copy 82 = .ok (.iload_n 2, 1) := by decide +kernel
theorem dX5_copy_83 : decode cX5_copy 83 = .ok (.iload 5, 2) := by decide +kernel
theorem dX5_copy_85 : decode cX5_copy 85 = .ok (.invokevirtual 223, 3) := by decide +kernel
theorem dX5_copy_88 : decode cX5_copy 88 = .ok (.ifCond .eq 15, 3) := by decide +kernel
theorem dX5_copy_91 : decode cX5_copy 91 = .ok (.aload 7, 2) := by decide +kernel
theorem dX5_copy_93 : decode cX5_copy 93 = .ok (.iload 4, 2) := by decide +kernel
theorem dX5_copy_95 : decode cX5_copy 95 = .ok (.iload 5, 2) := by decide +kernel
theorem dX5_copy_97 : decode cX5_copy 97 = .ok (.invokevirtual 223, 3) := by decide +kernel
theorem dX5_copy_100 : decode cX5_copy 100 = .ok (.ifCond .ne 10, 3) := by decide +kernel
theorem dX5_copy_103 : decode cX5_copy 103 = .ok (.aload_n 0, 1) := by decide +kernel
theorem dX5_copy_104 : decode cX5_copy 104 = .ok (.ldc 61, 2) := by decide +kernel
theorem dX5_copy_106 : decode cX5_copy 106 = .ok (.invokevirtual 62, 3) := by decide +kernel
theorem dX5_copy_109 : decode cX5_copy 109 = .ok (.ireturn, 1) := by decide +kernel
theorem dX5_copy_110 : decode cX5_copy 110 = .ok (.aload 6, 2) := by decide +kernel
theorem dX5_copy_112 : decode cX5_copy 112 = .ok (.getfield 212, 3) := by decide +kernel
theorem dX5_copy_115 : decode cX5_copy 115 = .ok (.iload_n 2, 1) := by decide +kernel
theorem dX5_copy_116 : decode cX5_copy 116 = .ok (.aload 7, 2) := by decide +kernel
theorem dX5_copy_118 : decode cX5_copy 118 = .ok (.getfield 212, 3) := by decide +kernel
theorem dX5_copy_121 : decode cX5_copy 121 = .ok (.iload 4, 2) := by decide +kernel
theorem dX5_copy_123 : decode cX5_copy 123 = .ok (.iload 5, 2) := by decide +kernel
theorem dX5_copy_125 : decode cX5_copy 125 = .ok (.invokestatic 226, 3) := by decide +kernel
theorem dX5_copy_128 : decode cX5_copy 128 = .ok (.iload 5, 2) := by decide +kernel
theorem dX5_copy_130 : decode cX5_copy 130 = .ok (.ireturn, 1) := by decide +kernel
set_option maxRecDepth 20000 in
theorem ggX5_lays_X5_isSheet : GoodIn wsX5_lays wsX5_isSheet := goodIn_r _ [12, 13, 14, 11, 15] (by decide +kernel) (by decide +kernel)
set_option maxRecDepth 20000 in
theorem gX5_lays_X5_isSheet : GoodIn wsX5_lays (va_wsS RX5 195 yX5_isSheet wsX5_isSheet) := goodIn_app (goodIn_of _ (by decide +kernel)) ggX5_lays_X5_isSheet
set_option maxRecDepth 20000 in
theorem ggX5_lays_X5_finding : GoodIn wsX5_lays wsX5_finding := goodIn_r _ [19, 1, 20, 13, 14, 11, 15, 27, 28, 29, 30, 31, 32, 33, 34] (by decide +kernel) (by decide +kernel)
set_option maxRecDepth 20000 in
theorem gX5_lays_X5_finding : GoodIn wsX5_lays (wsV RX5 62 RX5 yX5_finding wsX5_finding) := goodIn_app (goodIn_of _ (by decide +kernel)) ggX5_lays_X5_finding
set_option maxRecDepth 20000 in
theorem ggX5_lays_X1_isMissing : GoodIn wsX5_lays wsX1_isMissing := goodIn_r _ [25, 26, 35, 36, 37] (by decide +kernel) (by decide +kernel)
set_option maxRecDepth 20000 in
theorem gX5_lays_X1_isMissing : GoodIn wsX5_lays (wsV RX5 208 RX1 yX1_isMissing wsX1_isMissing) := goodIn_app (goodIn_of _ (by decide +kernel)) ggX5_lays_X1_isMissing
theorem dX5_lays_0 : decode cX5_lays 0 = .ok (.iload_n 1, 1) := by decide +kernel
theorem dX5_lays_1 : decode cX5_lays 1 = .ok (.invokestatic 195, 3) := by decide +kernel
theorem dX5_lays_4 : decode cX5_lays 4 = .ok (.ifCond .ne 10, 3) := by decide +kernel
theorem dX5_lays_7 : decode cX5_lays 7 = .ok (.aload_n 0, 1) := by decide +kernel
theorem dX5_lays_8 : decode cX5_lays 8 = .ok (.ldc 61, 2) := by decide +kernel
theorem dX5_lays_10 : decode cX5_lays 10 = .ok (.invokevirtual 62, 3) := by decide +kernel
theorem dX5_lays_13 : decode cX5_lays 13 = .ok (.ireturn, 1) := by decide +kernel
theorem dX5_lays_14 : decode cX5_lays 14 = .ok (.aload_n 0, 1) := by decide +kernel
theorem dX5_lays_15 : decode cX5_lays 15 = .ok (.getfield 44, 3) := by decide +kernel
theorem dX5_lays_18 : decode cX5_lays 18 = .ok (.iload_n 1, 1) := by decide +kernel
theorem dX5_lays_19 : decode cX5_lays 19 = .ok (.aaload, 1) := by decide +kernel
theorem dX5_lays_20 : decode cX5_lays 20 = .ok (.astore_n 2, 1) := by decide +kernel
theorem dX5_lays_21 : decode cX5_lays 21 = .ok (.aload_n 2, 1) := by decide +kernel
theorem dX5_lays_22 : decode cX5_lays 22 = .ok (.invokevirtual 208, 3) := by decide +kernel
theorem dX5_lays_25 : decode cX5_lays 25 = .ok (.ifCond .eq 10, 3) := by decide +kernel
theorem dX5_lays_28 : decode cX5_lays 28 = .ok (.aload_n 0, 1) := by decide +kernel
theorem dX5_lays_29 : decode cX5_lays 29 = .ok (.ldc 211, 2) := by decide +kernel
theorem dX5_lays_31 : decode cX5_lays 31 = .ok (.invokevirtual 62, 3) := by decide +kernel
theorem dX5_lays_34 : decode cX5_lays 34 = .ok (.ireturn, 1) := by decide +kernel
theorem dX5_lays_35 : decode cX5_lays 35 = .ok (.iconst 0, 1) := by decide +kernel
theorem dX5_lays_36 : decode cX5_lays 36 = .ok (.istore_n 3, 1) := by decide +kernel
theorem dX5_lays_37 : decode cX5_lays 37 = .ok (.iconst 0, 1) := by decide +kernel
theorem dX5_lays_38 : decode cX5_lays 38 = .ok (.istore 4, 2) := by decide +kernel
theorem dX5_lays_40 : decode cX5_lays 40 = .ok (.iload 4, 2) := by decide +kernel
theorem dX5_lays_42 : decode cX5_lays 42 = .ok (.bipush 8, 2) := by decide +kernel
theorem dX5_lays_44 : decode cX5_lays 44 = .ok (.if_icmp .ge 59, 3) := by decide +kernel
theorem dX5_lays_47 : decode cX5_lays 47 = .ok (.iload 4, 2) := by decide +kernel
theorem dX5_lays_49 : decode cX5_lays 49 = .ok (.aload_n 2, 1) := by decide +kernel
theorem dX5_lays_50 : decode cX5_lays 50 = .ok (.getfield 205, 3) := by decide +kernel
theorem dX5_lays_53 : decode cX5_lays 53 = .ok (.if_icmp .ge 50, 3) := by decide +kernel
theorem dX5_lays_56 : decode cX5_lays 56 = .ok (.aload_n 2, 1) := by decide +kernel
theorem dX5_lays_57 : decode cX5_lays 57 = .ok (.getfield 212, 3) := by decide +kernel
theorem dX5_lays_60 : decode cX5_lays 60 = .ok (.iload 4, 2) := by decide +kernel
theorem dX5_lays_62 : decode cX5_lays 62 = .ok (.laload, 1) := by decide +kernel
theorem dX5_lays_63 : decode cX5_lays 63 = .ok (.lstore 5, 2) := by decide +kernel
theorem dX5_lays_65 : decode cX5_lays 65 = .ok (.lload 5, 2) := by decide +kernel
theorem dX5_lays_67 : decode cX5_lays 67 = .ok (.lconst 0, 1) := by decide +kernel
theorem dX5_lays_68 : decode cX5_lays 68 = .ok (.lcmp, 1) := by decide +kernel
theorem dX5_lays_69 : decode cX5_lays 69 = .ok (.ifCond .lt 28, 3) := by decide +kernel
theorem dX5_lays_72 : decode cX5_lays 72 = .ok (.lload 5, 2) := by decide +kernel
theorem dX5_lays_74 : decode cX5_lays 74 = .ok (.ldc2_w 232, 3) := by decide +kernel
theorem dX5_lays_77 : decode cX5_lays 77 = .ok (.lcmp, 1) := by decide +kernel
theorem dX5_lays_78 : decode cX5_lays 78 = .ok (.ifCond .gt 19, 3) := by decide +kernel
theorem dX5_lays_81 : decode cX5_lays 81 = .ok (.aload_n 0, 1) := by decide +kernel
theorem dX5_lays_82 : decode cX5_lays 82 = .ok (.getfield 10, 3) := by decide +kernel
theorem dX5_lays_85 : decode cX5_lays 85 = .ok (.getfield 113, 3) := by decide +kernel
theorem dX5_lays_88 : decode cX5_lays 88 = .ok (.iload 4, 2) := by decide +kernel
theorem dX5_lays_90 : decode cX5_lays 90 = .ok (.lload 5, 2) := by decide +kernel
theorem dX5_lays_92 : decode cX5_lays 92 = .ok (.l2i, 1) := by decide +kernel
theorem dX5_lays_93 : decode cX5_lays 93 = .ok (.iastore, 1) := by decide +kernel
theorem dX5_lays_94 : decode cX5_lays 94 = .ok (.iinc 3 1, 3) := by decide +kernel
theorem dX5_lays_97 : decode cX5_lays 97 = .ok (.iinc 4 1, 3) := by decide +kernel
theorem dX5_lays_100 : decode cX5_lays 100 = .ok (.goto (-60), 3) := by decide +kernel
theorem dX5_lays_103 : decode cX5_lays 103 = .ok (.iload_n 3, 1) := by decide +kernel
theorem dX5_lays_104 : decode cX5_lays 104 = .ok (.ireturn, 1) := by decide +kernel
set_option maxRecDepth 20000 in
theorem ggX5_book_X5_isSheet : GoodIn wsX5_book wsX5_isSheet := goodIn_r _ [11, 12, 13, 10, 14] (by decide +kernel) (by decide +kernel)
set_option maxRecDepth 20000 in
theorem gX5_book_X5_isSheet : GoodIn wsX5_book (va_wsS RX5 195 yX5_isSheet wsX5_isSheet) := goodIn_app (goodIn_of _ (by decide +kernel)) ggX5_book_X5_isSheet
set_option maxRecDepth 20000 in
theorem ggX5_book_X5_finding : GoodIn wsX5_book wsX5_finding := goodIn_r _ [18, 1, 19, 12, 13, 10, 14, 104, 105, 106, 107, 108, 109, 110, 111] (by decide +kernel) (by decide +kernel)
set_option maxRecDepth 20000 in
theorem gX5_book_X5_finding : GoodIn wsX5_book (wsV RX5 62 RX5 yX5_finding wsX5_finding) := goodIn_app (goodIn_of _ (by decide +kernel)) ggX5_book_X5_finding
set_option maxRecDepth 20000 in
theorem ggX5_book_X1_isMissing : GoodIn wsX5_book wsX1_isMissing := goodIn_r _ [24, 25, 112, 113, 114] (by decide +kernel) (by decide +kernel)
set_option maxRecDepth 20000 in
theorem gX5_book_X1_isMissing : GoodIn wsX5_book (wsV RX5 208 RX1 yX1_isMissing wsX1_isMissing) := goodIn_app (goodIn_of _ (by decide +kernel)) ggX5_book_X1_isMissing
set_option maxRecDepth 20000 in
theorem ggX5_book_X3_become : GoodIn wsX5_book wsX3_become := goodIn_r _ [30, 31, 32, 33, 34, 35, 36, 37, 38, 39, 40, 41, 42, 43, 44, 45, 115, 116, 117, 118, 119, 120, 121, 122, 123, 124, 125] (by decide +kernel) (by decide +kernel)
set_option maxRecDepth 20000 in
theorem gX5_book_X3_become : GoodIn wsX5_book (wsV RX5 166 RX3 yX3_become wsX3_become) := goodIn_app (goodIn_of _ (by decide +kernel)) ggX5_book_X3_become
set_option maxRecDepth 20000 in
theorem ggX5_book_X1_put : GoodIn wsX5_book wsX1_put := goodIn_r _ [49, 25, 50, 112, 113, 114] (by decide +kernel) (by decide +kernel)
set_option maxRecDepth 20000 in
theorem gX5_book_X1_put : GoodIn wsX5_book (wsV RX5 216 RX1 yX1_put wsX1_put) := goodIn_app (goodIn_of _ (by decide +kernel)) ggX5_book_X1_put
set_option maxRecDepth 20000 in
theorem ggX5_book_X3_goHour : GoodIn wsX5_book wsX3_goHour := goodIn_r _ [54, 35, 31, 55, 56, 57, 29, 58, 59, 60, 61, 62, 43, 32, 34, 44, 45, 63, 64, 65, 66, 67, 37, 68, 69, 70, 71, 38, 72, 73, 74, 75, 76, 77, 78, 79, 10, 80, 81, 82, 83, 84, 85, 86, 87, 88, 89, 90, 91, 92, 93, 94, 95, 36, 96, 97, 98, 99, 100, 101, 102, 103, 33, 115, 116, 117, 118, 119, 120, 121, 122, 123, 124, 125] (by decide +kernel) (by decide +kernel)
set_option maxRecDepth 20000 in
theorem gX5_book_X3_goHour : GoodIn wsX5_book (wsV RX5 170 RX3 yX3_goHour wsX3_goHour) := goodIn_app (goodIn_of _ (by decide +kernel)) ggX5_book_X3_goHour
theorem dX5_book_0 : decode cX5_book 0 = .ok (.iload_n 1, 1) := by decide +kernel
theorem dX5_book_1 : decode cX5_book 1 = .ok (.invokestatic 195, 3) := by decide +kernel
theorem dX5_book_4 : decode cX5_book 4 = .ok (.ifCond .ne 10, 3) := by decide +kernel
theorem dX5_book_7 : decode cX5_book 7 = .ok (.aload_n 0, 1) := by decide +kernel
theorem dX5_book_8 : decode cX5_book 8 = .ok (.ldc 61, 2) := by decide +kernel
theorem dX5_book_10 : decode cX5_book 10 = .ok (.invokevirtual 62, 3) := by decide +kernel
theorem dX5_book_13 : decode cX5_book 13 = .ok (.ireturn, 1) := by decide +kernel
theorem dX5_book_14 : decode cX5_book 14 = .ok (.aload_n 0, 1) := by decide +kernel
theorem dX5_book_15 : decode cX5_book 15 = .ok (.getfield 44, 3) := by decide +kernel
theorem dX5_book_18 : decode cX5_book 18 = .ok (.iload_n 1, 1) := by decide +kernel
theorem dX5_book_19 : decode cX5_book 19 = .ok (.aaload, 1) := by decide +kernel
theorem dX5_book_20 : decode cX5_book 20 = .ok (.astore_n 2, 1) := by decide +kernel
theorem dX5_book_21 : decode cX5_book 21 = .ok (.aload_n 2, 1) := by decide +kernel
theorem dX5_book_22 : decode cX5_book 22 = .ok (.invokevirtual 208, 3) := by decide +kernel
theorem dX5_book_25 : decode cX5_book 25 = .ok (.ifCond .eq 10, 3) := by decide +kernel
theorem dX5_book_28 : decode cX5_book 28 = .ok (.aload_n 0, 1) := by decide +kernel
theorem dX5_book_29 : decode cX5_book 29 = .ok (.ldc 211, 2) := by decide +kernel
theorem dX5_book_31 : decode cX5_book 31 = .ok (.invokevirtual 62, 3) := by decide +kernel
theorem dX5_book_34 : decode cX5_book 34 = .ok (.ireturn, 1) := by decide +kernel
theorem dX5_book_35 : decode cX5_book 35 = .ok (.aload_n 0, 1) := by decide +kernel
theorem dX5_book_36 : decode cX5_book 36 = .ok (.getfield 16, 3) := by decide +kernel
theorem dX5_book_39 : decode cX5_book 39 = .ok (.aload_n 0, 1) := by decide +kernel
theorem dX5_book_40 : decode cX5_book 40 = .ok (.getfield 10, 3) := by decide +kernel
theorem dX5_book_43 : decode cX5_book 43 = .ok (.invokevirtual 166, 3) := by decide +kernel
theorem dX5_book_46 : decode cX5_book 46 = .ok (.iconst 0, 1) := by decide +kernel
theorem dX5_book_47 : decode cX5_book 47 = .ok (.istore_n 3, 1) := by decide +kernel
theorem dX5_book_48 : decode cX5_book 48 = .ok (.iload_n 3, 1) := by decide +kernel
theorem dX5_book_49 : decode cX5_book 49 = .ok (.aload_n 2, 1) := by decide +kernel
theorem dX5_book_50 : decode cX5_book 50 = .ok (.getfield 205, 3) := by decide +kernel
theorem dX5_book_53 : decode cX5_book 53 = .ok (.if_icmp .ge 29, 3) := by decide +kernel
theorem dX5_book_56 : decode cX5_book 56 = .ok (.aload_n 2, 1) := by decide +kernel
theorem dX5_book_57 : decode cX5_book 57 = .ok (.iload_n 3, 1) := by decide +kernel
theorem dX5_book_58 : decode cX5_book 58 = .ok (.aload_n 0, 1) := by decide +kernel
theorem dX5_book_59 : decode cX5_book 59 = .ok (.getfield 16, 3) := by decide +kernel
theorem dX5_book_62 : decode cX5_book 62 = .ok (.getfield 97, 3) := by decide +kernel
theorem dX5_book_65 : decode cX5_book 65 = .ok (.i2l, 1) := by decide +kernel
theorem dX5_book_66 : decode cX5_book 66 = .ok (.invokevirtual 216, 3) := by decide +kernel
theorem dX5_book_69 : decode cX5_book 69 = .ok (.aload_n 0, 1) := by decide +kernel
theorem dX5_book_70 : decode cX5_book 70 = .ok (.getfield 16, 3) := by decide +kernel
theorem dX5_book_73 : decode cX5_book 73 = .ok (.invokevirtual 170, 3) := by decide +kernel
theorem dX5_book_76 : decode cX5_book 76 = .ok (.iinc 3 1, 3) := by decide +kernel
theorem dX5_book_79 : decode cX5_book 79 = .ok (.goto (-31), 3) := by decide +kernel
theorem dX5_book_82 : decode cX5_book 82 = .ok (.aload_n 2, 1) := by decide +kernel
theorem dX5_book_83 : decode cX5_book 83 = .ok (.getfield 205, 3) := by decide +kernel
theorem dX5_book_86 : decode cX5_book 86 = .ok (.ireturn, 1) := by decide +kernel
set_option maxRecDepth 20000 in
theorem ggX5_read_X5_isSheet : GoodIn wsX5_read wsX5_isSheet := goodIn_r _ [11, 12, 13, 10, 14] (by decide +kernel) (by decide +kernel)
set_option maxRecDepth 20000 in
theorem gX5_read_X5_isSheet : GoodIn wsX5_read (va_wsS RX5 195 yX5_isSheet wsX5_isSheet) := goodIn_app (goodIn_of _ (by decide +kernel)) ggX5_read_X5_isSheet
set_option maxRecDepth 20000 in
theorem ggX5_read_X5_finding : GoodIn wsX5_read wsX5_finding := goodIn_r _ [18, 1, 19, 12, 13, 10, 14, 109, 110, 111, 112, 113, 114, 115, 116] (by decide +kernel) (by decide +kernel)
set_option maxRecDepth 20000 in
theorem gX5_read_X5_finding : GoodIn wsX5_read (wsV RX5 62 RX5 yX5_finding wsX5_finding) := goodIn_app (goodIn_of _ (by decide +kernel)) ggX5_read_X5_finding
set_option maxRecDepth 20000 in
theorem ggX5_read_X1_isMissing : GoodIn wsX5_read wsX1_isMissing := goodIn_r _ [24, 25, 128, 129, 130] (by decide +kernel) (by decide +kernel)
set_option maxRecDepth 20000 in
theorem gX5_read_X1_isMissing : GoodIn wsX5_read (wsV RX5 208 RX1 yX1_isMissing wsX1_isMissing) := goodIn_app (goodIn_of _ (by decide +kernel)) ggX5_read_X1_isMissing
set_option maxRecDepth 20000 in
theorem ggX5_read_X5_isHouse : GoodIn wsX5_read wsX5_isHouse := goodIn_r _ [28, 12, 13, 10, 14] (by decide +kernel) (by decide +kernel)
set_option maxRecDepth 20000 in
theorem gX5_read_X5_isHouse : GoodIn wsX5_read (va_wsS RX5 53 yX5_isHouse wsX5_isHouse) := goodIn_app (goodIn_of _ (by decide +kernel)) ggX5_read_X5_isHouse
set_option maxRecDepth 20000 in
theorem ggX5_read_X3_become : GoodIn wsX5_read wsX3_become := goodIn_r _ [33, 34, 35, 36, 37, 38, 39, 40, 41, 42, 43, 44, 45, 46, 47, 48, 117, 118, 119, 120, 121, 122, 123, 124, 125, 126, 127] (by decide +kernel) (by decide +kernel)
set_option maxRecDepth 20000 in
theorem gX5_read_X3_become : GoodIn wsX5_read (wsV RX5 166 RX3 yX3_become wsX3_become) := goodIn_app (goodIn_of _ (by decide +kernel)) ggX5_read_X3_become
set_option maxRecDepth 20000 in
theorem ggX5_read_X5_trialRingsAs : GoodIn wsX5_read wsX5_trialRingsAs := goodIn_r _ [52, 53, 54, 4, 55, 56, 57, 58, 32, 59, 38, 34, 60, 61, 62, 63, 64, 65, 66, 67, 46, 35, 37, 47, 48, 68, 69, 70, 71, 72, 40, 73, 74, 75, 76, 41, 77, 78, 79, 80, 81, 82, 83, 84, 10, 85, 86, 87, 88, 89, 90, 91, 92, 93, 94, 95, 96, 97, 98, 99, 100, 39, 101, 102, 103, 104, 105, 106, 107, 108, 36, 128, 129, 130, 109, 110, 111, 112, 113, 114, 115, 116, 117, 118, 119, 120, 121, 122, 123, 124, 125, 126, 127] (by decide +kernel) (by decide +kernel)
set_option maxRecDepth 20000 in
theorem gX5_read_X5_trialRingsAs : GoodIn wsX5_read (wsV RX5 234 RX5 yX5_trialRingsAs wsX5_trialRingsAs) := goodIn_app (goodIn_of _ (by decide +kernel)) ggX5_read_X5_trialRingsAs
theorem dX5_read_0 : decode cX5_read 0 = .ok (.iload_n 1, 1) := by decide +kernel
theorem dX5_read_1 : decode cX5_read 1 = .ok (.invokestatic 195, 3) := by decide +kernel
theorem dX5_read_4 : decode cX5_read 4 = .ok (.ifCond .ne 10, 3) := by decide +kernel
theorem dX5_read_7 : decode cX5_read 7 = .ok (.aload_n 0, 1) := by decide +kernel
theorem dX5_read_8 : decode cX5_read 8 = .ok (.ldc 61, 2) := by decide +kernel
theorem dX5_read_10 : decode cX5_read 10 = .ok (.invokevirtual 62, 3) := by decide +kernel
theorem dX5_read_13 : decode cX5_read 13 = .ok (.ireturn, 1) := by decide +kernel
theorem dX5_read_14 : decode cX5_read 14 = .ok (.aload_n 0, 1) := by decide +kernel
theorem dX5_read_15 : decode cX5_read 15 = .ok (.getfield 44, 3) := by decide +kernel
theorem dX5_read_18 : decode cX5_read 18 = .ok (.iload_n 1, 1) := by decide +kernel
theorem dX5_read_19 : decode cX5_read 19 = .ok (.aaload, 1) := by decide +kernel
theorem dX5_read_20 : decode cX5_read 20 = .ok (.astore_n 3, 1) := by decide +kernel
theorem dX5_read_21 : decode cX5_read 21 = .ok (.aload_n 3, 1) := by decide +kernel
theorem dX5_read_22 : decode cX5_read 22 = .ok (.invokevirtual 208, 3) := by decide +kernel
theorem dX5_read_25 : decode cX5_read 25 = .ok (.ifCond .eq 10, 3) := by decide +kernel
theorem dX5_read_28 : decode cX5_read 28 = .ok (.aload_n 0, 1) := by decide +kernel
theorem dX5_read_29 : decode cX5_read 29 = .ok (.ldc 211, 2) := by decide +kernel
theorem dX5_read_31 : decode cX5_read 31 = .ok (.invokevirtual 62, 3) := by decide +kernel
theorem dX5_read_34 : decode cX5_read 34 = .ok (.ireturn, 1) := by decide +kernel
theorem dX5_read_35 : decode cX5_read 35 = .ok (.iload_n 2, 1) := by decide +kernel
theorem dX5_read_36 : decode cX5_read 36 = .ok (.invokestatic 53, 3) := by decide +kernel
theorem dX5_read_39 : decode cX5_read 39 = .ok (.ifCond .ne 10, 3) := by decide +kernel
theorem dX5_read_42 : decode cX5_read 42 = .ok (.aload_n 0, 1) := by decide +kernel
theorem dX5_read_43 : decode cX5_read 43 = .ok (.ldc 61, 2) := by decide +kernel
theorem dX5_read_45 : decode cX5_read 45 = .ok (.invokevirtual 62, 3) := by decide +kernel
theorem dX5_read_48 : decode cX5_read 48 = .ok (.ireturn, 1) := by decide +kernel
theorem dX5_read_49 : decode cX5_read 49 = .ok (.iconst 0, 1) := by decide +kernel
theorem dX5_read_50 : decode cX5_read 50 = .ok (.istore 4, 2) := by decide +kernel
theorem dX5_read_52 : decode cX5_read 52 = .ok (.iconst 0, 1) := by decide +kernel
theorem dX5_read_53 : decode cX5_read 53 = .ok (.istore 5, 2) := by decide +kernel
theorem dX5_read_55 : decode cX5_read 55 = .ok (.iload 5, 2) := by decide +kernel
theorem dX5_read_57 : decode cX5_read 57 = .ok (.bipush 6, 2) := by decide +kernel
theorem dX5_read_59 : decode cX5_read 59 = .ok (.if_icmp .ge 69, 3) := by decide +kernel
theorem dX5_read_62 : decode cX5_read 62 = .ok (.iconst 0, 1) := by decide +kernel
theorem dX5_read_63 : decode cX5_read 63 = .ok (.istore 6, 2) := by decide +kernel
theorem dX5_read_65 : decode cX5_read 65 = .ok (.iload 6, 2) := by decide +kernel
theorem dX5_read_67 : decode cX5_read 67 = .ok (.bipush 20, 2) := by decide +kernel
theorem dX5_read_69 : decode cX5_read 69 = .ok (.if_icmp .gt 53, 3) := by decide +kernel
theorem dX5_read_72 : decode cX5_read 72 = .ok (.aload_n 0, 1) := by decide +kernel
theorem dX5_read_73 : decode cX5_read 73 = .ok (.getfield 16, 3) := by decide +kernel
theorem dX5_read_76 : decode cX5_read 76 = .ok (.aload_n 0, 1) := by decide +kernel
theorem dX5_read_77 : decode cX5_read 77 = .ok (.getfield 10, 3) := by decide +kernel
theorem dX5_read_80 : decode cX5_read 80 = .ok (.invokevirtual 166, 3) := by decide +kernel
theorem dX5_read_83 : decode cX5_read 83 = .ok (.aload_n 0, 1) := by decide +kernel
theorem dX5_read_84 : decode cX5_read 84 = .ok (.getfield 16, 3) := by decide +kernel
theorem dX5_read_87 : decode cX5_read 87 = .ok (.getfield 110, 3) := by decide +kernel
theorem dX5_read_90 : decode cX5_read 90 = .ok (.iload_n 2, 1) := by decide +kernel
theorem dX5_read_91 : decode cX5_read 91 = .ok (.iload 5, 2) := by decide +kernel
theorem dX5_read_93 : decode cX5_read 93 = .ok (.iastore, 1) := by decide +kernel
theorem dX5_read_94 : decode cX5_read 94 = .ok (.aload_n 0, 1) := by decide +kernel
theorem dX5_read_95 : decode cX5_read 95 = .ok (.getfield 16, 3) := by decide +kernel
theorem dX5_read_98 : decode cX5_read 98 = .ok (.getfield 113, 3) := by decide +kernel
theorem dX5_read_101 : decode cX5_read 101 = .ok (.iload_n 2, 1) := by decide +kernel
theorem dX5_read_102 : decode cX5_read 102 = .ok (.iload 6, 2) := by decide +kernel
theorem dX5_read_104 : decode cX5_read 104 = .ok (.iastore, 1) := by decide +kernel
theorem dX5_read_105 : decode cX5_read 105 = .ok (.aload_n 0, 1) := by decide +kernel
theorem dX5_read_106 : decode cX5_read 106 = .ok (.aload_n 3, 1) := by decide +kernel
theorem dX5_read_107 : decode cX5_read 107 = .ok (.invokevirtual 234, 3) := by decide +kernel
theorem dX5_read_110 : decode cX5_read 110 = .ok (.ifCond .eq 6, 3) := by decide +kernel
theorem dX5_read_113 : decode cX5_read 113 = .ok (.iinc 4 1, 3) := by decide +kernel
theorem dX5_read_116 : decode cX5_read 116 = .ok (.iinc 6 1, 3) := by decide +kernel
theorem dX5_read_119 : decode cX5_read 119 = .ok (.goto (-54), 3) := by decide +kernel
theorem dX5_read_122 : decode cX5_read 122 = .ok (.iinc 5 1, 3) := by decide +kernel
theorem dX5_read_125 : decode cX5_read 125 = .ok (.goto (-70), 3) := by decide +kernel
theorem dX5_read_128 : decode cX5_read 128 = .ok (.iload 4, 2) := by decide +kernel
theorem dX5_read_130 : decode cX5_read 130 = .ok (.ireturn, 1) := by decide +kernel
set_option maxRecDepth 20000 in
theorem ggX5_image_X3_become : GoodIn wsX5_image wsX3_become := goodIn_r _ [8, 9, 10, 11, 12, 13, 14, 15, 16, 17, 18, 19, 20, 21, 22, 23, 32, 33, 34, 35, 36, 37, 38, 39, 40, 41, 42] (by decide +kernel) (by decide +kernel)
set_option maxRecDepth 20000 in
theorem gX5_image_X3_become : GoodIn wsX5_image (wsV RX5 166 RX3 yX3_become wsX3_become) := goodIn_app (goodIn_of _ (by decide +kernel)) ggX5_image_X3_become
theorem dX5_image_0 : decode cX5_image 0 = .ok (.aload_n 0, 1) := by decide +kernel
theorem dX5_image_1 : decode cX5_image 1 = .ok (.getfield 19, 3) := by decide +kernel
theorem dX5_image_4 : decode cX5_image 4 = .ok (.aload_n 0, 1) := by decide +kernel
theorem dX5_image_5 : decode cX5_image 5 = .ok (.getfield 10, 3) := by decide +kernel
theorem dX5_image_8 : decode cX5_image 8 = .ok (.invokevirtual 166, 3) := by decide +kernel
theorem dX5_image_11 : decode cX5_image 11 = .ok (.aload_n 0, 1) := by decide +kernel
theorem dX5_image_12 : decode cX5_image 12 = .ok (.iconst 1, 1) := by decide +kernel
theorem dX5_image_13 : decode cX5_image 13 = .ok (.putfield 22, 3) := by decide +kernel
theorem dX5_image_16 : decode cX5_image 16 = .ok (.iconst 1, 1) := by decide +kernel
theorem dX5_image_17 : decode cX5_image 17 = .ok (.ireturn, 1) := by decide +kernel
set_option maxRecDepth 20000 in
theorem ggX5_undo_X5_finding : GoodIn wsX5_undo wsX5_finding := goodIn_r _ [10, 11, 12, 13, 14, 9, 15, 36, 37, 38, 39, 40, 41, 42, 43] (by decide +kernel) (by decide +kernel)
set_option maxRecDepth 20000 in
theorem gX5_undo_X5_finding : GoodIn wsX5_undo (wsV RX5 62 RX5 yX5_finding wsX5_finding) := goodIn_app (goodIn_of _ (by decide +kernel)) ggX5_undo_X5_finding
set_option maxRecDepth 20000 in
theorem ggX5_undo_X3_become : GoodIn wsX5_undo wsX3_become := goodIn_r _ [20, 21, 22, 23, 24, 25, 26, 27, 28, 29, 30, 31, 32, 33, 34, 35, 44, 45, 46, 47, 48, 49, 50, 51, 52, 53, 54] (by decide +kernel) (by decide +kernel)
set_option maxRecDepth 20000 in
theorem gX5_undo_X3_become : GoodIn wsX5_undo (wsV RX5 166 RX3 yX3_become wsX3_become) := goodIn_app (goodIn_of _ (by decide +kernel)) ggX5_undo_X3_become
theorem dX5_undo_0 : decode cX5_undo 0 = .ok (.aload_n 0, 1) := by decide +kernel
theorem dX5_undo_1 : decode cX5_undo 1 = .ok (.getfield 22, 3) := by decide +kernel
theorem dX5_undo_4 : decode cX5_undo 4 = .ok (.ifCond .ne 10, 3) := by decide +kernel
theorem dX5_undo_7 : decode cX5_undo 7 = .ok (.aload_n 0, 1) := by decide +kernel
theorem dX5_undo_8 : decode cX5_undo 8 = .ok (.ldc 173, 2) := by decide +kernel
theorem dX5_undo_10 : decode cX5_undo 10 = .ok (.invokevirtual 62, 3) := by decide +kernel
theorem dX5_undo_13 : decode cX5_undo 13 = .ok (.ireturn, 1) := by decide +kernel
theorem dX5_undo_14 : decode cX5_undo 14 = .ok (.aload_n 0, 1) := by decide +kernel
theorem dX5_undo_15 : decode cX5_undo 15 = .ok (.getfield 10, 3) := by decide +kernel
theorem dX5_undo_18 : decode cX5_undo 18 = .ok (.aload_n 0, 1) := by decide +kernel
theorem dX5_undo_19 : decode cX5_undo 19 = .ok (.getfield 19, 3) := by decide +kernel
theorem dX5_undo_22 : decode cX5_undo 22 = .ok (.invokevirtual 166, 3) := by decide +kernel
theorem dX5_undo_25 : decode cX5_undo 25 = .ok (.aload_n 0, 1) := by decide +kernel
theorem dX5_undo_26 : decode cX5_undo 26 = .ok (.getfield 10, 3) := by decide +kernel
theorem dX5_undo_29 : decode cX5_undo 29 = .ok (.getfield 84, 3) := by decide +kernel
theorem dX5_undo_32 : decode cX5_undo 32 = .ok (.ireturn, 1) := by decide +kernel
theorem dX5_tear_0 : decode cX5_tear 0 = .ok (.aload_n 0, 1) := by decide +kernel
theorem dX5_tear_1 : decode cX5_tear 1 = .ok (.getfield 22, 3) := by decide +kernel
theorem dX5_tear_4 : decode cX5_tear 4 = .ok (.ifCond .eq 7, 3) := by decide +kernel
theorem dX5_tear_7 : decode cX5_tear 7 = .ok (.iconst 1, 1) := by decide +kernel
theorem dX5_tear_8 : decode cX5_tear 8 = .ok (.goto 4, 3) := by decide +kernel
theorem dX5_tear_11 : decode cX5_tear 11 = .ok (.iconst 0, 1) := by decide +kernel
theorem dX5_tear_12 : decode cX5_tear 12 = .ok (.istore_n 1, 1) := by decide +kernel
theorem dX5_tear_13 : decode cX5_tear 13 = .ok (.aload_n 0, 1) := by decide +kernel
theorem dX5_tear_14 : decode cX5_tear 14 = .ok (.iconst 0, 1) := by decide +kernel
theorem dX5_tear_15 : decode cX5_tear 15 = .ok (.putfield 22, 3) := by decide +kernel
theorem dX5_tear_18 : decode cX5_tear 18 = .ok (.iload_n 1, 1) := by decide +kernel
theorem dX5_tear_19 : decode cX5_tear 19 = .ok (.ireturn, 1) := by decide +kernel
set_option maxRecDepth 20000 in
theorem ggX5_count_X3_housesOfOtherKinds : GoodIn wsX5_count wsX3_housesOfOtherKinds := goodIn_r _ [11, 12, 35, 36, 37, 38, 39, 40, 41, 42, 43, 44, 45] (by decide +kernel) (by decide +kernel)
set_option maxRecDepth 20000 in
theorem gX5_count_X3_housesOfOtherKinds : GoodIn wsX5_count (wsV RX5 238 RX3 yX3_housesOfOtherKinds wsX3_housesOfOtherKinds) := goodIn_app (goodIn_of _ (by decide +kernel)) ggX5_count_X3_housesOfOtherKinds
set_option maxRecDepth 20000 in
theorem ggX5_count_X5_sum : GoodIn wsX5_count wsX5_sum := goodIn_r _ [16] (by decide +kernel) (by decide +kernel)
set_option maxRecDepth 20000 in
theorem gX5_count_X5_sum : GoodIn wsX5_count (va_wsS RX5 162 yX5_sum wsX5_sum) := goodIn_app (goodIn_of _ (by decide +kernel)) ggX5_count_X5_sum
set_option maxRecDepth 20000 in
theorem ggX5_count_X5_finding : GoodIn wsX5_count wsX5_finding := goodIn_r _ [20, 6, 21, 22, 23, 15, 24, 25, 26, 27, 28, 29, 30, 31, 32] (by decide +kernel) (by decide +kernel)
set_option maxRecDepth 20000 in
theorem gX5_count_X5_finding : GoodIn wsX5_count (wsV RX5 62 RX5 yX5_finding wsX5_finding) := goodIn_app (goodIn_of _ (by decide +kernel)) ggX5_count_X5_finding
theorem dX5_count_0 : decode cX5_count 0 = .ok (.iload_n 1, 1) := by decide +kernel
theorem dX5_count_1 : decode cX5_count 1 = .ok (.tableswitch 69 0 3 #[31, 39, 47, 58], 31) := by decide +kernel
theorem dX5_count_32 : decode cX5_count 32 = .ok (.aload_n 0, 1) := by decide +kernel
theorem dX5_count_33 : decode cX5_count 33 = .ok (.getfield 10, 3) := by decide +kernel
theorem dX5_count_36 : decode cX5_count 36 = .ok (.invokevirtual 238, 3) := by decide +kernel
theorem dX5_count_39 : decode cX5_count 39 = .ok (.ireturn, 1) := by decide +kernel
theorem dX5_count_40 : decode cX5_count 40 = .ok (.aload_n 0, 1) := by decide +kernel
theorem dX5_count_41 : decode cX5_count 41 = .ok (.getfield 29, 3) := by decide +kernel
theorem dX5_count_44 : decode cX5_count 44 = .ok (.getfield 184, 3) := by decide +kernel
theorem dX5_count_47 : decode cX5_count 47 = .ok (.ireturn, 1) := by decide +kernel
theorem dX5_count_48 : decode cX5_count 48 = .ok (.aload_n 0, 1) := by decide +kernel
theorem dX5_count_49 : decode cX5_count 49 = .ok (.getfield 10, 3) := by decide +kernel
theorem dX5_count_52 : decode cX5_count 52 = .ok (.getfield 113, 3) := by decide +kernel
theorem dX5_count_55 : decode cX5_count 55 = .ok (.invokestatic 162, 3) := by decide +kernel
theorem dX5_count_58 : decode cX5_count 58 = .ok (.ireturn, 1) := by decide +kernel
theorem dX5_count_59 : decode cX5_count 59 = .ok (.aload_n 0, 1) := by decide +kernel
theorem dX5_count_60 : decode cX5_count 60 = .ok (.getfield 10, 3) := by decide +kernel
theorem dX5_count_63 : decode cX5_count 63 = .ok (.getfield 119, 3) := by decide +kernel
theorem dX5_count_66 : decode cX5_count 66 = .ok (.invokestatic 162, 3) := by decide +kernel
theorem dX5_count_69 : decode cX5_count 69 = .ok (.ireturn, 1) := by decide +kernel
theorem dX5_count_70 : decode cX5_count 70 = .ok (.aload_n 0, 1) := by decide +kernel
theorem dX5_count_71 : decode cX5_count 71 = .ok (.ldc 61, 2) := by decide +kernel
theorem dX5_count_73 : decode cX5_count 73 = .ok (.invokevirtual 62, 3) := by decide +kernel
theorem dX5_count_76 : decode cX5_count 76 = .ok (.ireturn, 1) := by decide +kernel
set_option maxRecDepth 20000 in
theorem ggX5_status_X5_sum : GoodIn wsX5_status wsX5_sum := goodIn_r _ [6] (by decide +kernel) (by decide +kernel)
set_option maxRecDepth 20000 in
theorem gX5_status_X5_sum : GoodIn wsX5_status (va_wsS RX5 162 yX5_sum wsX5_sum) := goodIn_app (goodIn_of _ (by decide +kernel)) ggX5_status_X5_sum
set_option maxRecDepth 20000 in
theorem ggX5_status_X5_isWithin : GoodIn wsX5_status wsX5_isWithin := goodIn_r _ [9] (by decide +kernel) (by decide +kernel)
set_option maxRecDepth 20000 in
theorem gX5_status_X5_isWithin : GoodIn wsX5_status (va_wsS RX5 65 yX5_isWithin wsX5_isWithin) := goodIn_app (goodIn_of _ (by decide +kernel)) ggX5_status_X5_isWithin
set_option maxRecDepth 20000 in
theorem ggX5_status_X5_finding : GoodIn wsX5_status wsX5_finding := goodIn_r _ [13, 2, 1, 7, 8, 5, 9, 14, 15, 16, 17, 18, 19, 20, 21] (by decide +kernel) (by decide +kernel)
set_option maxRecDepth 20000 in
theorem gX5_status_X5_finding : GoodIn wsX5_status (wsV RX5 62 RX5 yX5_finding wsX5_finding) := goodIn_app (goodIn_of _ (by decide +kernel)) ggX5_status_X5_finding
theorem dX5_status_0 : decode cX5_status 0 = .ok (.iload_n 1, 1) := by decide +kernel
theorem dX5_status_1 : decode cX5_status 1 = .ok (.iconst (-1), 1) := by decide +kernel
theorem dX5_status_2 : decode cX5_status 2 = .ok (.if_icmp .ne 11, 3) := by decide +kernel
theorem dX5_status_5 : decode cX5_status 5 = .ok (.aload_n 0, 1) := by decide +kernel
theorem dX5_status_6 : decode cX5_status 6 = .ok (.getfield 49, 3) := by decide +kernel
theorem dX5_status_9 : decode cX5_status 9 = .ok (.invokestatic 162, 3) := by decide +kernel
theorem dX5_status_12 : decode cX5_status 12 = .ok (.ireturn, 1) := by decide +kernel
theorem dX5_status_13 : decode cX5_status 13 = .ok (.iload_n 1, 1) := by decide +kernel
theorem dX5_status_14 : decode cX5_status 14 = .ok (.iconst 0, 1) := by decide +kernel
theorem dX5_status_15 : decode cX5_status 15 = .ok (.bipush 6, 2) := by decide +kernel
theorem dX5_status_17 : decode cX5_status 17 = .ok (.invokestatic 65, 3) := by decide +kernel
theorem dX5_status_20 : decode cX5_status 20 = .ok (.ifCond .ne 10, 3) := by decide +kernel
theorem dX5_status_23 : decode cX5_status 23 = .ok (.aload_n 0, 1) := by decide +kernel
theorem dX5_status_24 : decode cX5_status 24 = .ok (.ldc 61, 2) := by decide +kernel
theorem dX5_status_26 : decode cX5_status 26 = .ok (.invokevirtual 62, 3) := by decide +kernel
theorem dX5_status_29 : decode cX5_status 29 = .ok (.ireturn, 1) := by decide +kernel
theorem dX5_status_30 : decode cX5_status 30 = .ok (.aload_n 0, 1) := by decide +kernel
theorem dX5_status_31 : decode cX5_status 31 = .ok (.getfield 49, 3) := by decide +kernel
theorem dX5_status_34 : decode cX5_status 34 = .ok (.iload_n 1, 1) := by decide +kernel
theorem dX5_status_35 : decode cX5_status 35 = .ok (.iaload, 1) := by decide +kernel
theorem dX5_status_36 : decode cX5_status 36 = .ok (.ireturn, 1) := by decide +kernel
set_option maxRecDepth 20000 in
theorem ggX5_finding_X5_isWithin : GoodIn wsX5_finding wsX5_isWithin := goodIn_r _ [6] (by decide +kernel) (by decide +kernel)
set_option maxRecDepth 20000 in
theorem gX5_finding_X5_isWithin : GoodIn wsX5_finding (va_wsS RX5 65 yX5_isWithin wsX5_isWithin) := goodIn_app (goodIn_of _ (by decide +kernel)) ggX5_finding_X5_isWithin
theorem dX5_finding_0 : decode cX5_finding 0 = .ok (.ldc 61, 2) := by decide +kernel
theorem dX5_finding_2 : decode cX5_finding 2 = .ok (.iload_n 1, 1) := by decide +kernel
theorem dX5_finding_3 : decode cX5_finding 3 = .ok (.isub, 1) := by decide +kernel
theorem dX5_finding_4 : decode cX5_finding 4 = .ok (.istore_n 2, 1) := by decide +kernel
theorem dX5_finding_5 : decode cX5_finding 5 = .ok (.iload_n 2, 1) := by decide +kernel
theorem dX5_finding_6 : decode cX5_finding 6 = .ok (.iconst 0, 1) := by decide +kernel
theorem dX5_finding_7 : decode cX5_finding 7 = .ok (.bipush 6, 2) := by decide +kernel
theorem dX5_finding_9 : decode cX5_finding 9 = .ok (.invokestatic 65, 3) := by decide +kernel
theorem dX5_finding_12 : decode cX5_finding 12 = .ok (.ifCond .eq 13, 3) := by decide +kernel
theorem dX5_finding_15 : decode cX5_finding 15 = .ok (.aload_n 0, 1) := by decide +kernel
theorem dX5_finding_16 : decode cX5_finding 16 = .ok (.getfield 49, 3) := by decide +kernel
theorem dX5_finding_19 : decode cX5_finding 19 = .ok (.iload_n 2, 1) := by decide +kernel
theorem dX5_finding_20 : decode cX5_finding 20 = .ok (.dup2, 1) := by decide +kernel
theorem dX5_finding_21 : decode cX5_finding 21 = .ok (.iaload, 1) := by decide +kernel
theorem dX5_finding_22 : decode cX5_finding 22 = .ok (.iconst 1, 1) := by decide +kernel
theorem dX5_finding_23 : decode cX5_finding 23 = .ok (.iadd, 1) := by decide +kernel
theorem dX5_finding_24 : decode cX5_finding 24 = .ok (.iastore, 1) := by decide +kernel
theorem dX5_finding_25 : decode cX5_finding 25 = .ok (.iload_n 1, 1) := by decide +kernel
theorem dX5_finding_26 : decode cX5_finding 26 = .ok (.ireturn, 1) := by decide +kernel
set_option maxRecDepth 20000 in
theorem ggX5_goOn_X3_become : GoodIn wsX5_goOn wsX3_become := goodIn_r _ [7, 8, 9, 10, 11, 12, 13, 14, 15, 16, 17, 18, 19, 20, 21, 22, 89, 90, 91, 92, 93, 94, 95, 96, 97, 98, 99] (by decide +kernel) (by decide +kernel)
set_option maxRecDepth 20000 in
theorem gX5_goOn_X3_become : GoodIn wsX5_goOn (wsV RX5 166 RX3 yX3_become wsX3_become) := goodIn_app (goodIn_of _ (by decide +kernel)) ggX5_goOn_X3_become
set_option maxRecDepth 20000 in
theorem ggX5_goOn_X3_goHours : GoodIn wsX5_goOn wsX3_goHours := goodIn_r _ [26, 27, 28, 29, 6, 30, 12, 8, 31, 32, 33, 34, 35, 36, 37, 38, 20, 9, 11, 21, 22, 39, 40, 41, 42, 43, 14, 44, 45, 46, 47, 15, 48, 49, 50, 51, 52, 53, 54, 55, 56, 57, 58, 59, 60, 61, 62, 63, 64, 65, 66, 67, 68, 69, 70, 71, 72, 13, 73, 74, 75, 76, 77, 78, 79, 80, 10, 89, 90, 91, 92, 93, 94, 95, 96, 97, 98, 99] (by decide +kernel) (by decide +kernel)
set_option maxRecDepth 20000 in
theorem gX5_goOn_X3_goHours : GoodIn wsX5_goOn (wsV RX5 152 RX3 yX3_goHours wsX3_goHours) := goodIn_app (goodIn_of _ (by decide +kernel)) ggX5_goOn_X3_goHours
theorem dX5_goOn_0 : decode cX5_goOn 0 = .ok (.aload_n 0, 1) := by decide +kernel
theorem dX5_goOn_1 : decode cX5_goOn 1 = .ok (.getfield 16, 3) := by decide +kernel
theorem dX5_goOn_4 : decode cX5_goOn 4 = .ok (.aload_n 0, 1) := by decide +kernel
theorem dX5_goOn_5 : decode cX5_goOn 5 = .ok (.getfield 10, 3) := by decide +kernel
theorem dX5_goOn_8 : decode cX5_goOn 8 = .ok (.invokevirtual 166, 3) := by decide +kernel
theorem dX5_goOn_11 : decode cX5_goOn 11 = .ok (.aload_n 0, 1) := by decide +kernel
theorem dX5_goOn_12 : decode cX5_goOn 12 = .ok (.getfield 16, 3) := by decide +kernel
theorem dX5_goOn_15 : decode cX5_goOn 15 = .ok (.iload_n 1, 1) := by decide +kernel
theorem dX5_goOn_16 : decode cX5_goOn 16 = .ok (.invokevirtual 152, 3) := by decide +kernel
theorem dX5_goOn_19 : decode cX5_goOn 19 = .ok (.return_, 1) := by decide +kernel
set_option maxRecDepth 20000 in
theorem ggX5_moodsGoing_X3_become : GoodIn wsX5_moodsGoing wsX3_become := goodIn_r _ [9, 10, 11, 12, 13, 14, 15, 16, 17, 18, 19, 20, 21, 22, 23, 24, 94, 95, 96, 97, 98, 99, 100, 101, 102, 103, 104] (by decide +kernel) (by decide +kernel)
set_option maxRecDepth 20000 in
theorem gX5_moodsGoing_X3_become : GoodIn wsX5_moodsGoing (wsV RX5 166 RX3 yX3_become wsX3_become) := goodIn_app (goodIn_of _ (by decide +kernel)) ggX5_moodsGoing_X3_become
set_option maxRecDepth 20000 in
theorem ggX5_moodsGoing_X3_goHours : GoodIn wsX5_moodsGoing wsX3_goHours := goodIn_r _ [28, 29, 30, 31, 8, 32, 14, 10, 33, 34, 35, 36, 37, 38, 39, 40, 22, 11, 13, 23, 24, 41, 42, 43, 44, 45, 16, 46, 47, 48, 49, 17, 50, 51, 52, 53, 54, 55, 56, 57, 58, 59, 60, 61, 62, 63, 64, 65, 66, 67, 68, 69, 70, 71, 72, 73, 74, 15, 75, 76, 77, 78, 79, 80, 81, 82, 12, 94, 95, 96, 97, 98, 99, 100, 101, 102, 103, 104] (by decide +kernel) (by decide +kernel)
set_option maxRecDepth 20000 in
theorem gX5_moodsGoing_X3_goHours : GoodIn wsX5_moodsGoing (wsV RX5 152 RX3 yX3_goHours wsX3_goHours) := goodIn_app (goodIn_of _ (by decide +kernel)) ggX5_moodsGoing_X3_goHours
set_option maxRecDepth 20000 in
theorem ggX5_moodsGoing_X5_sum : GoodIn wsX5_moodsGoing wsX5_sum := goodIn_r _ [85] (by decide +kernel) (by decide +kernel)
set_option maxRecDepth 20000 in
theorem gX5_moodsGoing_X5_sum : GoodIn wsX5_moodsGoing (va_wsS RX5 162 yX5_sum wsX5_sum) := goodIn_app (goodIn_of _ (by decide +kernel)) ggX5_moodsGoing_X5_sum
theorem dX5_moodsGoing_0 : decode cX5_moodsGoing 0 = .ok (.aload_n 0, 1) := by decide +kernel
theorem dX5_moodsGoing_1 : decode cX5_moodsGoing 1 = .ok (.getfield 16, 3) := by decide +kernel
theorem dX5_moodsGoing_4 : decode cX5_moodsGoing 4 = .ok (.aload_n 0, 1) := by decide +kernel
theorem dX5_moodsGoing_5 : decode cX5_moodsGoing 5 = .ok (.getfield 10, 3) := by decide +kernel
theorem dX5_moodsGoing_8 : decode cX5_moodsGoing 8 = .ok (.invokevirtual 166, 3) := by decide +kernel
theorem dX5_moodsGoing_11 : decode cX5_moodsGoing 11 = .ok (.aload_n 0, 1) := by decide +kernel
theorem dX5_moodsGoing_12 : decode cX5_moodsGoing 12 = .ok (.getfield 16, 3) := by decide +kernel
theorem dX5_moodsGoing_15 : decode cX5_moodsGoing 15 = .ok (.iload_n 1, 1) := by decide +kernel
theorem dX5_moodsGoing_16 : decode cX5_moodsGoing 16 = .ok (.putfield 91, 3) := by decide +kernel
theorem dX5_moodsGoing_19 : decode cX5_moodsGoing 19 = .ok (.aload_n 0, 1) := by decide +kernel
theorem dX5_moodsGoing_20 : decode cX5_moodsGoing 20 = .ok (.getfield 16, 3) := by decide +kernel
theorem dX5_moodsGoing_23 : decode cX5_moodsGoing 23 = .ok (.iload_n 2, 1) := by decide +kernel
theorem dX5_moodsGoing_24 : decode cX5_moodsGoing 24 = .ok (.invokevirtual 152, 3) := by decide +kernel
theorem dX5_moodsGoing_27 : decode cX5_moodsGoing 27 = .ok (.aload_n 0, 1) := by decide +kernel
theorem dX5_moodsGoing_28 : decode cX5_moodsGoing 28 = .ok (.getfield 16, 3) := by decide +kernel
theorem dX5_moodsGoing_31 : decode cX5_moodsGoing 31 = .ok (.getfield 113, 3) := by decide +kernel
theorem dX5_moodsGoing_34 : decode cX5_moodsGoing 34 = .ok (.invokestatic 162, 3) := by decide +kernel
theorem dX5_moodsGoing_37 : decode cX5_moodsGoing 37 = .ok (.ireturn, 1) := by decide +kernel
set_option maxRecDepth 20000 in
theorem ggX5_moodsSwapped_X3_become : GoodIn wsX5_moodsSwapped wsX3_become := goodIn_r _ [8, 9, 10, 11, 12, 13, 14, 15, 16, 17, 18, 19, 20, 21, 22, 23, 99, 100, 101, 102, 103, 104, 105, 106, 107, 108, 109] (by decide +kernel) (by decide +kernel)
set_option maxRecDepth 20000 in
theorem gX5_moodsSwapped_X3_become : GoodIn wsX5_moodsSwapped (wsV RX5 166 RX3 yX3_become wsX3_become) := goodIn_app (goodIn_of _ (by decide +kernel)) ggX5_moodsSwapped_X3_become
set_option maxRecDepth 20000 in
theorem ggX5_moodsSwapped_X3_changeFamilies : GoodIn wsX5_moodsSwapped wsX3_changeFamilies := goodIn_r _ [27, 16, 21, 22, 23, 28, 29, 30, 99, 100, 101, 102, 103, 104, 105, 106, 107, 108, 109] (by decide +kernel) (by decide +kernel)
set_option maxRecDepth 20000 in
theorem gX5_moodsSwapped_X3_changeFamilies : GoodIn wsX5_moodsSwapped (wsV RX5 146 RX3 yX3_changeFamilies wsX3_changeFamilies) := goodIn_app (goodIn_of _ (by decide +kernel)) ggX5_moodsSwapped_X3_changeFamilies
set_option maxRecDepth 20000 in
theorem ggX5_moodsSwapped_X3_goHours : GoodIn wsX5_moodsSwapped wsX3_goHours := goodIn_r _ [34, 35, 36, 37, 7, 38, 13, 9, 39, 40, 41, 42, 43, 44, 45, 46, 21, 10, 12, 22, 23, 47, 48, 49, 50, 51, 15, 52, 53, 54, 55, 16, 56, 57, 58, 59, 60, 61, 62, 63, 29, 64, 65, 66, 67, 68, 69, 70, 71, 72, 73, 74, 75, 76, 77, 78, 79, 14, 80, 81, 82, 83, 84, 85, 86, 87, 11, 99, 100, 101, 102, 103, 104, 105, 106, 107, 108, 109] (by decide +kernel) (by decide +kernel)
set_option maxRecDepth 20000 in
theorem gX5_moodsSwapped_X3_goHours : GoodIn wsX5_moodsSwapped (wsV RX5 152 RX3 yX3_goHours wsX3_goHours) := goodIn_app (goodIn_of _ (by decide +kernel)) ggX5_moodsSwapped_X3_goHours
set_option maxRecDepth 20000 in
theorem ggX5_moodsSwapped_X5_sum : GoodIn wsX5_moodsSwapped wsX5_sum := goodIn_r _ [90] (by decide +kernel) (by decide +kernel)
set_option maxRecDepth 20000 in
theorem gX5_moodsSwapped_X5_sum : GoodIn wsX5_moodsSwapped (va_wsS RX5 162 yX5_sum wsX5_sum) := goodIn_app (goodIn_of _ (by decide +kernel)) ggX5_moodsSwapped_X5_sum
theorem dX5_moodsSwapped_0 : decode cX5_moodsSwapped 0 = .ok (.aload_n 0, 1) := by decide +kernel
theorem dX5_moodsSwapped_1 : decode cX5_moodsSwapped 1 = .ok (.getfield 16, 3) := by decide +kernel
theorem dX5_moodsSwapped_4 : decode cX5_moodsSwapped 4 = .ok (.aload_n 0, 1) := by decide +kernel
theorem dX5_moodsSwapped_5 : decode cX5_moodsSwapped 5 = .ok (.getfield 10, 3) := by decide +kernel
theorem dX5_moodsSwapped_8 : decode cX5_moodsSwapped 8 = .ok (.invokevirtual 166, 3) := by decide +kernel
theorem dX5_moodsSwapped_11 : decode cX5_moodsSwapped 11 = .ok (.aload_n 0, 1) := by decide +kernel
theorem dX5_moodsSwapped_12 : decode cX5_moodsSwapped 12 = .ok (.getfield 16, 3) := by decide +kernel
theorem dX5_moodsSwapped_15 : decode cX5_moodsSwapped 15 = .ok (.iload_n 1, 1) := by decide +kernel
theorem dX5_moodsSwapped_16 : decode cX5_moodsSwapped 16 = .ok (.iload_n 2, 1) := by decide +kernel
theorem dX5_moodsSwapped_17 : decode cX5_moodsSwapped 17 = .ok (.invokevirtual 146, 3) := by decide +kernel
theorem dX5_moodsSwapped_20 : decode cX5_moodsSwapped 20 = .ok (.aload_n 0, 1) := by decide +kernel
theorem dX5_moodsSwapped_21 : decode cX5_moodsSwapped 21 = .ok (.getfield 16, 3) := by decide +kernel
theorem dX5_moodsSwapped_24 : decode cX5_moodsSwapped 24 = .ok (.iload_n 3, 1) := by decide +kernel
theorem dX5_moodsSwapped_25 : decode cX5_moodsSwapped 25 = .ok (.invokevirtual 152, 3) := by decide +kernel
theorem dX5_moodsSwapped_28 : decode cX5_moodsSwapped 28 = .ok (.aload_n 0, 1) := by decide +kernel
theorem dX5_moodsSwapped_29 : decode cX5_moodsSwapped 29 = .ok (.getfield 16, 3) := by decide +kernel
theorem dX5_moodsSwapped_32 : decode cX5_moodsSwapped 32 = .ok (.getfield 113, 3) := by decide +kernel
theorem dX5_moodsSwapped_35 : decode cX5_moodsSwapped 35 = .ok (.invokestatic 162, 3) := by decide +kernel
theorem dX5_moodsSwapped_38 : decode cX5_moodsSwapped 38 = .ok (.ireturn, 1) := by decide +kernel
set_option maxRecDepth 20000 in
theorem ggX5_trialRingsAs_X3_goHour : GoodIn wsX5_trialRingsAs wsX3_goHour := goodIn_r _ [9, 10, 11, 12, 13, 14, 8, 15, 16, 17, 18, 19, 20, 21, 22, 23, 24, 25, 26, 27, 28, 29, 30, 31, 32, 33, 34, 35, 36, 37, 38, 39, 40, 41, 42, 43, 44, 45, 46, 47, 48, 49, 50, 51, 52, 53, 54, 55, 56, 57, 58, 59, 60, 61, 62, 63, 64, 65, 66, 67, 68, 69, 70, 82, 83, 84, 85, 86, 87, 88, 89, 90, 91, 92] (by decide +kernel) (by decide +kernel)
set_option maxRecDepth 20000 in
theorem gX5_trialRingsAs_X3_goHour : GoodIn wsX5_trialRingsAs (wsV RX5 170 RX3 yX3_goHour wsX3_goHour) := goodIn_app (goodIn_of _ (by decide +kernel)) ggX5_trialRingsAs_X3_goHour
theorem dX5_trialRingsAs_0 : decode cX5_trialRingsAs 0 = .ok (.iconst 0, 1) := by decide +kernel
theorem dX5_trialRingsAs_1 : decode cX5_trialRingsAs 1 = .ok (.istore_n 2, 1) := by decide +kernel
theorem dX5_trialRingsAs_2 : decode cX5_trialRingsAs 2 = .ok (.iload_n 2, 1) := by decide +kernel
theorem dX5_trialRingsAs_3 : decode cX5_trialRingsAs 3 = .ok (.aload_n 1, 1) := by decide +kernel
theorem dX5_trialRingsAs_4 : decode cX5_trialRingsAs 4 = .ok (.getfield 205, 3) := by decide +kernel
theorem dX5_trialRingsAs_7 : decode cX5_trialRingsAs 7 = .ok (.if_icmp .ge 36, 3) := by decide +kernel
theorem dX5_trialRingsAs_10 : decode cX5_trialRingsAs 10 = .ok (.aload_n 1, 1) := by decide +kernel
theorem dX5_trialRingsAs_11 : decode cX5_trialRingsAs 11 = .ok (.getfield 212, 3) := by decide +kernel
theorem dX5_trialRingsAs_14 : decode cX5_trialRingsAs 14 = .ok (.iload_n 2, 1) := by decide +kernel
theorem dX5_trialRingsAs_15 : decode cX5_trialRingsAs 15 = .ok (.laload, 1) := by decide +kernel
theorem dX5_trialRingsAs_16 : decode cX5_trialRingsAs 16 = .ok (.aload_n 0, 1) := by decide +kernel
theorem dX5_trialRingsAs_17 : decode cX5_trialRingsAs 17 = .ok (.getfield 16, 3) := by decide +kernel
theorem dX5_trialRingsAs_20 : decode cX5_trialRingsAs 20 = .ok (.getfield 97, 3) := by decide +kernel
theorem dX5_trialRingsAs_23 : decode cX5_trialRingsAs 23 = .ok (.i2l, 1) := by decide +kernel
theorem dX5_trialRingsAs_24 : decode cX5_trialRingsAs 24 = .ok (.lcmp, 1) := by decide +kernel
theorem dX5_trialRingsAs_25 : decode cX5_trialRingsAs 25 = .ok (.ifCond .eq 5, 3) := by decide +kernel
theorem dX5_trialRingsAs_28 : decode cX5_trialRingsAs 28 = .ok (.iconst 0, 1) := by decide +kernel
theorem dX5_trialRingsAs_29 : decode cX5_trialRingsAs 29 = .ok (.ireturn, 1) := by decide +kernel
theorem dX5_trialRingsAs_30 : decode cX5_trialRingsAs 30 = .ok (.aload_n 0, 1) := by decide +kernel
theorem dX5_trialRingsAs_31 : decode cX5_trialRingsAs 31 = .ok (.getfield 16, 3) := by decide +kernel
theorem dX5_trialRingsAs_34 : decode cX5_trialRingsAs 34 = .ok (.invokevirtual 170, 3) := by decide +kernel
theorem dX5_trialRingsAs_37 : decode cX5_trialRingsAs 37 = .ok (.iinc 2 1, 3) := by decide +kernel
theorem dX5_trialRingsAs_40 : decode cX5_trialRingsAs 40 = .ok (.goto (-38), 3) := by decide +kernel
theorem dX5_trialRingsAs_43 : decode cX5_trialRingsAs 43 = .ok (.iconst 1, 1) := by decide +kernel
theorem dX5_trialRingsAs_44 : decode cX5_trialRingsAs 44 = .ok (.ireturn, 1) := by decide +kernel
theorem dX5_isWithin_0 : decode cX5_isWithin 0 = .ok (.iload_n 0, 1) := by decide +kernel
theorem dX5_isWithin_1 : decode cX5_isWithin 1 = .ok (.iload_n 1, 1) := by decide +kernel
theorem dX5_isWithin_2 : decode cX5_isWithin 2 = .ok (.if_icmp .lt 12, 3) := by decide +kernel
theorem dX5_isWithin_5 : decode cX5_isWithin 5 = .ok (.iload_n 0, 1) := by decide +kernel
theorem dX5_isWithin_6 : decode cX5_isWithin 6 = .ok (.iload_n 2, 1) := by decide +kernel
theorem dX5_isWithin_7 : decode cX5_isWithin 7 = .ok (.if_icmp .gt 7, 3) := by decide +kernel
theorem dX5_isWithin_10 : decode cX5_isWithin 10 = .ok (.iconst 1, 1) := by decide +kernel
theorem dX5_isWithin_11 : decode cX5_isWithin 11 = .ok (.goto 4, 3) := by decide +kernel
theorem dX5_isWithin_14 : decode cX5_isWithin 14 = .ok (.iconst 0, 1) := by decide +kernel
theorem dX5_isWithin_15 : decode cX5_isWithin 15 = .ok (.ireturn, 1) := by decide +kernel
set_option maxRecDepth 20000 in
theorem ggX5_isHouse_X5_isWithin : GoodIn wsX5_isHouse wsX5_isWithin := goodIn_r _ [4] (by decide +kernel) (by decide +kernel)
set_option maxRecDepth 20000 in
theorem gX5_isHouse_X5_isWithin : GoodIn wsX5_isHouse (va_wsS RX5 65 yX5_isWithin wsX5_isWithin) := goodIn_app (goodIn_of _ (by decide +kernel)) ggX5_isHouse_X5_isWithin
theorem dX5_isHouse_0 : decode cX5_isHouse 0 = .ok (.iload_n 0, 1) := by decide +kernel
theorem dX5_isHouse_1 : decode cX5_isHouse 1 = .ok (.iconst 0, 1) := by decide +kernel
theorem dX5_isHouse_2 : decode cX5_isHouse 2 = .ok (.bipush 7, 2) := by decide +kernel
theorem dX5_isHouse_4 : decode cX5_isHouse 4 = .ok (.invokestatic 65, 3) := by decide +kernel
theorem dX5_isHouse_7 : decode cX5_isHouse 7 = .ok (.ireturn, 1) := by decide +kernel
set_option maxRecDepth 20000 in
theorem ggX5_isTone_X5_isWithin : GoodIn wsX5_isTone wsX5_isWithin := goodIn_r _ [4] (by decide +kernel) (by decide +kernel)
set_option maxRecDepth 20000 in
theorem gX5_isTone_X5_isWithin : GoodIn wsX5_isTone (va_wsS RX5 65 yX5_isWithin wsX5_isWithin) := goodIn_app (goodIn_of _ (by decide +kernel)) ggX5_isTone_X5_isWithin
theorem dX5_isTone_0 : decode cX5_isTone 0 = .ok (.iload_n 0, 1) := by decide +kernel
theorem dX5_isTone_1 : decode cX5_isTone 1 = .ok (.iconst 0, 1) := by decide +kernel
theorem dX5_isTone_2 : decode cX5_isTone 2 = .ok (.bipush 6, 2) := by decide +kernel
theorem dX5_isTone_4 : decode cX5_isTone 4 = .ok (.invokestatic 65, 3) := by decide +kernel
theorem dX5_isTone_7 : decode cX5_isTone 7 = .ok (.ireturn, 1) := by decide +kernel
set_option maxRecDepth 20000 in
theorem ggX5_isHoursOn_X5_isWithin : GoodIn wsX5_isHoursOn wsX5_isWithin := goodIn_r _ [4] (by decide +kernel) (by decide +kernel)
set_option maxRecDepth 20000 in
theorem gX5_isHoursOn_X5_isWithin : GoodIn wsX5_isHoursOn (va_wsS RX5 65 yX5_isWithin wsX5_isWithin) := goodIn_app (goodIn_of _ (by decide +kernel)) ggX5_isHoursOn_X5_isWithin
theorem dX5_isHoursOn_0 : decode cX5_isHoursOn 0 = .ok (.iload_n 0, 1) := by decide +kernel
theorem dX5_isHoursOn_1 : decode cX5_isHoursOn 1 = .ok (.iconst 0, 1) := by decide +kernel
theorem dX5_isHoursOn_2 : decode cX5_isHoursOn 2 = .ok (.sipush 200, 3) := by decide +kernel
theorem dX5_isHoursOn_5 : decode cX5_isHoursOn 5 = .ok (.invokestatic 65, 3) := by decide +kernel
theorem dX5_isHoursOn_8 : decode cX5_isHoursOn 8 = .ok (.ireturn, 1) := by decide +kernel
set_option maxRecDepth 20000 in
theorem ggX5_isHoursWeighed_X5_isWithin : GoodIn wsX5_isHoursWeighed wsX5_isWithin := goodIn_r _ [4] (by decide +kernel) (by decide +kernel)
set_option maxRecDepth 20000 in
theorem gX5_isHoursWeighed_X5_isWithin : GoodIn wsX5_isHoursWeighed (va_wsS RX5 65 yX5_isWithin wsX5_isWithin) := goodIn_app (goodIn_of _ (by decide +kernel)) ggX5_isHoursWeighed_X5_isWithin
theorem dX5_isHoursWeighed_0 : decode cX5_isHoursWeighed 0 = .ok (.iload_n 0, 1) := by decide +kernel
theorem dX5_isHoursWeighed_1 : decode cX5_isHoursWeighed 1 = .ok (.iconst 1, 1) := by decide +kernel
theorem dX5_isHoursWeighed_2 : decode cX5_isHoursWeighed 2 = .ok (.bipush 60, 2) := by decide +kernel
theorem dX5_isHoursWeighed_4 : decode cX5_isHoursWeighed 4 = .ok (.invokestatic 65, 3) := by decide +kernel
theorem dX5_isHoursWeighed_7 : decode cX5_isHoursWeighed 7 = .ok (.ireturn, 1) := by decide +kernel
set_option maxRecDepth 20000 in
theorem ggX5_isSheet_X5_isWithin : GoodIn wsX5_isSheet wsX5_isWithin := goodIn_r _ [4] (by decide +kernel) (by decide +kernel)
set_option maxRecDepth 20000 in
theorem gX5_isSheet_X5_isWithin : GoodIn wsX5_isSheet (va_wsS RX5 65 yX5_isWithin wsX5_isWithin) := goodIn_app (goodIn_of _ (by decide +kernel)) ggX5_isSheet_X5_isWithin
theorem dX5_isSheet_0 : decode cX5_isSheet 0 = .ok (.iload_n 0, 1) := by decide +kernel
theorem dX5_isSheet_1 : decode cX5_isSheet 1 = .ok (.iconst 0, 1) := by decide +kernel
theorem dX5_isSheet_2 : decode cX5_isSheet 2 = .ok (.iconst 3, 1) := by decide +kernel
theorem dX5_isSheet_3 : decode cX5_isSheet 3 = .ok (.invokestatic 65, 3) := by decide +kernel
theorem dX5_isSheet_6 : decode cX5_isSheet 6 = .ok (.ireturn, 1) := by decide +kernel
theorem dX5_isBits_0 : decode cX5_isBits 0 = .ok (.iload_n 0, 1) := by decide +kernel
theorem dX5_isBits_1 : decode cX5_isBits 1 = .ok (.ifCond .eq 21, 3) := by decide +kernel
theorem dX5_isBits_4 : decode cX5_isBits 4 = .ok (.iload_n 0, 1) := by decide +kernel
theorem dX5_isBits_5 : decode cX5_isBits 5 = .ok (.bipush 8, 2) := by decide +kernel
theorem dX5_isBits_7 : decode cX5_isBits 7 = .ok (.if_icmp .eq 15, 3) := by decide +kernel
theorem dX5_isBits_10 : decode cX5_isBits 10 = .ok (.iload_n 0, 1) := by decide +kernel
theorem dX5_isBits_11 : decode cX5_isBits 11 = .ok (.bipush 16, 2) := by decide +kernel
theorem dX5_isBits_13 : decode cX5_isBits 13 = .ok (.if_icmp .eq 9, 3) := by decide +kernel
theorem dX5_isBits_16 : decode cX5_isBits 16 = .ok (.iload_n 0, 1) := by decide +kernel
theorem dX5_isBits_17 : decode cX5_isBits 17 = .ok (.bipush 64, 2) := by decide +kernel
theorem dX5_isBits_19 : decode cX5_isBits 19 = .ok (.if_icmp .ne 7, 3) := by decide +kernel
theorem dX5_isBits_22 : decode cX5_isBits 22 = .ok (.iconst 1, 1) := by decide +kernel
theorem dX5_isBits_23 : decode cX5_isBits 23 = .ok (.goto 4, 3) := by decide +kernel
theorem dX5_isBits_26 : decode cX5_isBits 26 = .ok (.iconst 0, 1) := by decide +kernel
theorem dX5_isBits_27 : decode cX5_isBits 27 = .ok (.ireturn, 1) := by decide +kernel
theorem dX5_exchange_0 : decode cX5_exchange 0 = .ok (.aload_n 0, 1) := by decide +kernel
theorem dX5_exchange_1 : decode cX5_exchange 1 = .ok (.iload_n 1, 1) := by decide +kernel
theorem dX5_exchange_2 : decode cX5_exchange 2 = .ok (.iaload, 1) := by decide +kernel
theorem dX5_exchange_3 : decode cX5_exchange 3 = .ok (.istore_n 3, 1) := by decide +kernel
theorem dX5_exchange_4 : decode cX5_exchange 4 = .ok (.aload_n 0, 1) := by decide +kernel
theorem dX5_exchange_5 : decode cX5_exchange 5 = .ok (.iload_n 1, 1) := by decide +kernel
theorem dX5_exchange_6 : decode cX5_exchange 6 = .ok (.iload_n 2, 1) := by decide +kernel
theorem dX5_exchange_7 : decode cX5_exchange 7 = .ok (.iastore, 1) := by decide +kernel
theorem dX5_exchange_8 : decode cX5_exchange 8 = .ok (.iload_n 3, 1) := by decide +kernel
theorem dX5_exchange_9 : decode cX5_exchange 9 = .ok (.ireturn, 1) := by decide +kernel
theorem dX5_sum_0 : decode cX5_sum 0 = .ok (.iconst 0, 1) := by decide +kernel
theorem dX5_sum_1 : decode cX5_sum 1 = .ok (.istore_n 1, 1) := by decide +kernel
theorem dX5_sum_2 : decode cX5_sum 2 = .ok (.aload_n 0, 1) := by decide +kernel
theorem dX5_sum_3 : decode cX5_sum 3 = .ok (.astore_n 2, 1) := by decide +kernel
theorem dX5_sum_4 : decode cX5_sum 4 = .ok (.aload_n 2, 1) := by decide +kernel
theorem dX5_sum_5 : decode cX5_sum 5 = .ok (.arraylength, 1) := by decide +kernel
theorem dX5_sum_6 : decode cX5_sum 6 = .ok (.istore_n 3, 1) := by decide +kernel
theorem dX5_sum_7 : decode cX5_sum 7 = .ok (.iconst 0, 1) := by decide +kernel
theorem dX5_sum_8 : decode cX5_sum 8 = .ok (.istore 4, 2) := by decide +kernel
theorem dX5_sum_10 : decode cX5_sum 10 = .ok (.iload 4, 2) := by decide +kernel
theorem dX5_sum_12 : decode cX5_sum 12 = .ok (.iload_n 3, 1) := by decide +kernel
theorem dX5_sum_13 : decode cX5_sum 13 = .ok (.if_icmp .ge 20, 3) := by decide +kernel
theorem dX5_sum_16 : decode cX5_sum 16 = .ok (.aload_n 2, 1) := by decide +kernel
theorem dX5_sum_17 : decode cX5_sum 17 = .ok (.iload 4, 2) := by decide +kernel
theorem dX5_sum_19 : decode cX5_sum 19 = .ok (.iaload, 1) := by decide +kernel
theorem dX5_sum_20 : decode cX5_sum 20 = .ok (.istore 5, 2) := by decide +kernel
theorem dX5_sum_22 : decode cX5_sum 22 = .ok (.iload_n 1, 1) := by decide +kernel
theorem dX5_sum_23 : decode cX5_sum 23 = .ok (.iload 5, 2) := by decide +kernel
theorem dX5_sum_25 : decode cX5_sum 25 = .ok (.iadd, 1) := by decide +kernel
theorem dX5_sum_26 : decode cX5_sum 26 = .ok (.istore_n 1, 1) := by decide +kernel
theorem dX5_sum_27 : decode cX5_sum 27 = .ok (.iinc 4 1, 3) := by decide +kernel
theorem dX5_sum_30 : decode cX5_sum 30 = .ok (.goto (-20), 3) := by decide +kernel
theorem dX5_sum_33 : decode cX5_sum 33 = .ok (.iload_n 1, 1) := by decide +kernel
theorem dX5_sum_34 : decode cX5_sum 34 = .ok (.ireturn, 1) := by decide +kernel
theorem dX5_held_0 : decode cX5_held 0 = .ok (.iload_n 1, 1) := by decide +kernel
theorem dX5_held_1 : decode cX5_held 1 = .ok (.iload_n 2, 1) := by decide +kernel
theorem dX5_held_2 : decode cX5_held 2 = .ok (.iload_n 0, 1) := by decide +kernel
theorem dX5_held_3 : decode cX5_held 3 = .ok (.invokestatic 242, 3) := by decide +kernel
theorem dX5_held_6 : decode cX5_held 6 = .ok (.invokestatic 247, 3) := by decide +kernel
theorem dX5_held_9 : decode cX5_held 9 = .ok (.ireturn, 1) := by decide +kernel
set_option maxRecDepth 20000 in
theorem ggX6_init_X6_spotOf : GoodIn wsX6_init wsX6_spotOf := goodIn_r _ [19] (by decide +kernel) (by decide +kernel)
set_option maxRecDepth 20000 in
theorem gX6_init_X6_spotOf : GoodIn wsX6_init (va_wsS RX6 41 yX6_spotOf wsX6_spotOf) := goodIn_app (goodIn_of _ (by decide +kernel)) ggX6_init_X6_spotOf
theorem dX6_init_0 : decode cX6_init 0 = .ok (.aload_n 0, 1) := by decide +kernel
theorem dX6_init_1 : decode cX6_init 1 = .ok (.invokespecial 1, 3) := by decide +kernel
theorem dX6_init_4 : decode cX6_init 4 = .ok (.aload_n 0, 1) := by decide +kernel
theorem dX6_init_5 : decode cX6_init 5 = .ok (.bipush 39, 2) := by decide +kernel
theorem dX6_init_7 : decode cX6_init 7 = .ok (.newarray .int, 2) := by decide +kernel
theorem dX6_init_9 : decode cX6_init 9 = .ok (.putfield 7, 3) := by decide +kernel
theorem dX6_init_12 : decode cX6_init 12 = .ok (.aload_n 0, 1) := by decide +kernel
theorem dX6_init_13 : decode cX6_init 13 = .ok (.bipush 39, 2) := by decide +kernel
theorem dX6_init_15 : decode cX6_init 15 = .ok (.newarray .int, 2) := by decide +kernel
theorem dX6_init_17 : decode cX6_init 17 = .ok (.putfield 13, 3) := by decide +kernel
theorem dX6_init_20 : decode cX6_init 20 = .ok (.aload_n 0, 1) := by decide +kernel
theorem dX6_init_21 : decode cX6_init 21 = .ok (.bipush 39, 2) := by decide +kernel
theorem dX6_init_23 : decode cX6_init 23 = .ok (.newarray .int, 2) := by decide +kernel
theorem dX6_init_25 : decode cX6_init 25 = .ok (.putfield 16, 3) := by decide +kernel
theorem dX6_init_28 : decode cX6_init 28 = .ok (.aload_n 0, 1) := by decide +kernel
theorem dX6_init_29 : decode cX6_init 29 = .ok (.bipush 39, 2) := by decide +kernel
theorem dX6_init_31 : decode cX6_init 31 = .ok (.newarray .int, 2) := by decide +kernel
theorem dX6_init_33 : decode cX6_init 33 = .ok (.putfield 19, 3) := by decide +kernel
theorem dX6_init_36 : decode cX6_init 36 = .ok (.aload_n 0, 1) := by decide +kernel
theorem dX6_init_37 : decode cX6_init 37 = .ok (.bipush 7, 2) := by decide +kernel
theorem dX6_init_39 : decode cX6_init 39 = .ok (.newarray .int, 2) := by decide +kernel
theorem dX6_init_41 : decode cX6_init 41 = .ok (.putfield 22, 3) := by decide +kernel
theorem dX6_init_44 : decode cX6_init 44 = .ok (.aload_n 0, 1) := by decide +kernel
theorem dX6_init_45 : decode cX6_init 45 = .ok (.bipush 120, 2) := by decide +kernel
theorem dX6_init_47 : decode cX6_init 47 = .ok (.newarray .int, 2) := by decide +kernel
theorem dX6_init_49 : decode cX6_init 49 = .ok (.putfield 25, 3) := by decide +kernel
theorem dX6_init_52 : decode cX6_init 52 = .ok (.aload_n 0, 1) := by decide +kernel
theorem dX6_init_53 : decode cX6_init 53 = .ok (.iconst 4, 1) := by decide +kernel
theorem dX6_init_54 : decode cX6_init 54 = .ok (.newarray .int, 2) := by decide +kernel
theorem dX6_init_56 : decode cX6_init 56 = .ok (.putfield 28, 3) := by decide +kernel
theorem dX6_init_59 : decode cX6_init 59 = .ok (.aload_n 0, 1) := by decide +kernel
theorem dX6_init_60 : decode cX6_init 60 = .ok (.iconst 4, 1) := by decide +kernel
theorem dX6_init_61 : decode cX6_init 61 = .ok (.newarray .int, 2) := by decide +kernel
theorem dX6_init_63 : decode cX6_init 63 = .ok (.putfield 31, 3) := by decide +kernel
theorem dX6_init_66 : decode cX6_init 66 = .ok (.aload_n 0, 1) := by decide +kernel
theorem dX6_init_67 : decode cX6_init 67 = .ok (.sipush 160, 3) := by decide +kernel
theorem dX6_init_70 : decode cX6_init 70 = .ok (.newarray .long, 2) := by decide +kernel
theorem dX6_init_72 : decode cX6_init 72 = .ok (.putfield 34, 3) := by decide +kernel
theorem dX6_init_75 : decode cX6_init 75 = .ok (.aload_n 0, 1) := by decide +kernel
theorem dX6_init_76 : decode cX6_init 76 = .ok (.bipush 40, 2) := by decide +kernel
theorem dX6_init_78 : decode cX6_init 78 = .ok (.newarray .long, 2) := by decide +kernel
theorem dX6_init_80 : decode cX6_init 80 = .ok (.putfield 38, 3) := by decide +kernel
theorem dX6_init_83 : decode cX6_init 83 = .ok (.aload_n 0, 1) := by decide +kernel
theorem dX6_init_84 : decode cX6_init 84 = .ok (.getfield 7, 3) := by decide +kernel
theorem dX6_init_87 : decode cX6_init 87 = .ok (.iconst 2, 1) := by decide +kernel
theorem dX6_init_88 : decode cX6_init 88 = .ok (.iconst 1, 1) := by decide +kernel
theorem dX6_init_89 : decode cX6_init 89 = .ok (.iastore, 1) := by decide +kernel
theorem dX6_init_90 : decode cX6_init 90 = .ok (.aload_n 0, 1) := by decide +kernel
theorem dX6_init_91 : decode cX6_init 91 = .ok (.getfield 7, 3) := by decide +kernel
theorem dX6_init_94 : decode cX6_init 94 = .ok (.iconst 3, 1) := by decide +kernel
theorem dX6_init_95 : decode cX6_init 95 = .ok (.bipush 40, 2) := by decide +kernel
theorem dX6_init_97 : decode cX6_init 97 = .ok (.iastore, 1) := by decide +kernel
theorem dX6_init_98 : decode cX6_init 98 = .ok (.aload_n 0, 1) := by decide +kernel
theorem dX6_init_99 : decode cX6_init 99 = .ok (.getfield 7, 3) := by decide +kernel
theorem dX6_init_102 : decode cX6_init 102 = .ok (.iconst 4, 1) := by decide +kernel
theorem dX6_init_103 : decode cX6_init 103 = .ok (.iconst (-1), 1) := by decide +kernel
theorem dX6_init_104 : decode cX6_init 104 = .ok (.iastore, 1) := by decide +kernel
theorem dX6_init_105 : decode cX6_init 105 = .ok (.iconst 0, 1) := by decide +kernel
theorem dX6_init_106 : decode cX6_init 106 = .ok (.istore_n 1, 1) := by decide +kernel
theorem dX6_init_107 : decode cX6_init 107 = .ok (.iload_n 1, 1) := by decide +kernel
theorem dX6_init_108 : decode cX6_init 108 = .ok (.bipush 8, 2) := by decide +kernel
theorem dX6_init_110 : decode cX6_init 110 = .ok (.if_icmp .ge 33, 3) := by decide +kernel
theorem dX6_init_113 : decode cX6_init 113 = .ok (.aload_n 0, 1) := by decide +kernel
theorem dX6_init_114 : decode cX6_init 114 = .ok (.getfield 7, 3) := by decide +kernel
theorem dX6_init_117 : decode cX6_init 117 = .ok (.iload_n 1, 1) := by decide +kernel
theorem dX6_init_118 : decode cX6_init 118 = .ok (.iconst 1, 1) := by decide +kernel
theorem dX6_init_119 : decode cX6_init 119 = .ok (.invokestatic 41, 3) := by decide +kernel
theorem dX6_init_122 : decode cX6_init 122 = .ok (.bipush 10, 2) := by decide +kernel
theorem dX6_init_124 : decode cX6_init 124 = .ok (.iastore, 1) := by decide +kernel
theorem dX6_init_125 : decode cX6_init 125 = .ok (.aload_n 0, 1) := by decide +kernel
theorem dX6_init_126 : decode cX6_init 126 = .ok (.getfield 7, 3) := by decide +kernel
theorem dX6_init_129 : decode cX6_init 129 = .ok (.iload_n 1, 1) := by decide +kernel
theorem dX6_init_130 : decode cX6_init 130 = .ok (.iconst 2, 1) := by decide +kernel
theorem dX6_init_131 : decode cX6_init 131 = .ok (.invokestatic 41, 3) := by decide +kernel
theorem dX6_init_134 : decode cX6_init 134 = .ok (.bipush 30, 2) := by decide +kernel
theorem dX6_init_136 : decode cX6_init 136 = .ok (.iastore, 1) := by decide +kernel
theorem dX6_init_137 : decode cX6_init 137 = .ok (.iinc 1 1, 3) := by decide +kernel
theorem dX6_init_140 : decode cX6_init 140 = .ok (.goto (-33), 3) := by decide +kernel
theorem dX6_init_143 : decode cX6_init 143 = .ok (.return_, 1) := by decide +kernel
theorem dX6_in_0 : decode cX6_in 0 = .ok (.lload_n 0, 1) := by decide +kernel
theorem dX6_in_1 : decode cX6_in 1 = .ok (.lload_n 2, 1) := by decide +kernel
theorem dX6_in_2 : decode cX6_in 2 = .ok (.lcmp, 1) := by decide +kernel
theorem dX6_in_3 : decode cX6_in 3 = .ok (.ifCond .lt 14, 3) := by decide +kernel
theorem dX6_in_6 : decode cX6_in 6 = .ok (.lload_n 0, 1) := by decide +kernel
theorem dX6_in_7 : decode cX6_in 7 = .ok (.lload 4, 2) := by decide +kernel
theorem dX6_in_9 : decode cX6_in 9 = .ok (.lcmp, 1) := by decide +kernel
theorem dX6_in_10 : decode cX6_in 10 = .ok (.ifCond .gt 7, 3) := by decide +kernel
theorem dX6_in_13 : decode cX6_in 13 = .ok (.iconst 1, 1) := by decide +kernel
theorem dX6_in_14 : decode cX6_in 14 = .ok (.goto 4, 3) := by decide +kernel
theorem dX6_in_17 : decode cX6_in 17 = .ok (.iconst 0, 1) := by decide +kernel
theorem dX6_in_18 : decode cX6_in 18 = .ok (.ireturn, 1) := by decide +kernel
theorem dX6_finds_0 : decode cX6_finds 0 = .ok (.aload_n 0, 1) := by decide +kernel
theorem dX6_finds_1 : decode cX6_finds 1 = .ok (.getfield 22, 3) := by decide +kernel
theorem dX6_finds_4 : decode cX6_finds 4 = .ok (.ldc 45, 2) := by decide +kernel
theorem dX6_finds_6 : decode cX6_finds 6 = .ok (.iload_n 1, 1) := by decide +kernel
theorem dX6_finds_7 : decode cX6_finds 7 = .ok (.isub, 1) := by decide +kernel
theorem dX6_finds_8 : decode cX6_finds 8 = .ok (.dup2, 1) := by decide +kernel
theorem dX6_finds_9 : decode cX6_finds 9 = .ok (.iaload, 1) := by decide +kernel
theorem dX6_finds_10 : decode cX6_finds 10 = .ok (.iconst 1, 1) := by decide +kernel
theorem dX6_finds_11 : decode cX6_finds 11 = .ok (.iadd, 1) := by decide +kernel
theorem dX6_finds_12 : decode cX6_finds 12 = .ok (.iastore, 1) := by decide +kernel
theorem dX6_finds_13 : decode cX6_finds 13 = .ok (.iload_n 1, 1) := by decide +kernel
theorem dX6_finds_14 : decode cX6_finds 14 = .ok (.ireturn, 1) := by decide +kernel
theorem dX6_saves_0 : decode cX6_saves 0 = .ok (.iconst 0, 1) := by decide +kernel
theorem dX6_saves_1 : decode cX6_saves 1 = .ok (.istore_n 1, 1) := by decide +kernel
theorem dX6_saves_2 : decode cX6_saves 2 = .ok (.iload_n 1, 1) := by decide +kernel
theorem dX6_saves_3 : decode cX6_saves 3 = .ok (.bipush 39, 2) := by decide +kernel
theorem dX6_saves_5 : decode cX6_saves 5 = .ok (.if_icmp .ge 21, 3) := by decide +kernel
theorem dX6_saves_8 : decode cX6_saves 8 = .ok (.aload_n 0, 1) := by decide +kernel
theorem dX6_saves_9 : decode cX6_saves 9 = .ok (.getfield 16, 3) := by decide +kernel
theorem dX6_saves_12 : decode cX6_saves 12 = .ok (.iload_n 1, 1) := by decide +kernel
theorem dX6_saves_13 : decode cX6_saves 13 = .ok (.aload_n 0, 1) := by decide +kernel
theorem dX6_saves_14 : decode cX6_saves 14 = .ok (.getfield 7, 3) := by decide +kernel
theorem dX6_saves_17 : decode cX6_saves 17 = .ok (.iload_n 1, 1) := by decide +kernel
theorem dX6_saves_18 : decode cX6_saves 18 = .ok (.iaload, 1) := by decide +kernel
theorem dX6_saves_19 : decode cX6_saves 19 = .ok (.iastore, 1) := by decide +kernel
theorem dX6_saves_20 : decode cX6_saves 20 = .ok (.iinc 1 1, 3) := by decide +kernel
theorem dX6_saves_23 : decode cX6_saves 23 = .ok (.goto (-21), 3) := by decide +kernel
theorem dX6_saves_26 : decode cX6_saves 26 = .ok (.return_, 1) := by decide +kernel
theorem dX6_putsBack_0 : decode cX6_putsBack 0 = .ok (.iconst 0, 1) := by decide +kernel
theorem dX6_putsBack_1 : decode cX6_putsBack 1 = .ok (.istore_n 1, 1) := by decide +kernel
theorem dX6_putsBack_2 : decode cX6_putsBack 2 = .ok (.iload_n 1, 1) := by decide +kernel
theorem dX6_putsBack_3 : decode cX6_putsBack 3 = .ok (.bipush 39, 2) := by decide +kernel
theorem dX6_putsBack_5 : decode cX6_putsBack 5 = .ok (.if_icmp .ge 21, 3) := by decide +kernel
theorem dX6_putsBack_8 : decode cX6_putsBack 8 = .ok (.aload_n 0, 1) := by decide +kernel
theorem dX6_putsBack_9 : decode cX6_putsBack 9 = .ok (.getfield 7, 3) := by decide +kernel
theorem dX6_putsBack_12 : decode cX6_putsBack 12 = .ok (.iload_n 1, 1) := by decide +kernel
theorem dX6_putsBack_13 : decode cX6_putsBack 13 = .ok (.aload_n 0, 1) := by decide +kernel
theorem dX6_putsBack_14 : decode cX6_putsBack 14 = .ok (.getfield 16, 3) := by decide +kernel
theorem dX6_putsBack_17 : decode cX6_putsBack 17 = .ok (.iload_n 1, 1) := by decide +kernel
theorem dX6_putsBack_18 : decode cX6_putsBack 18 = .ok (.iaload, 1) := by decide +kernel
theorem dX6_putsBack_19 : decode cX6_putsBack 19 = .ok (.iastore, 1) := by decide +kernel
theorem dX6_putsBack_20 : decode cX6_putsBack 20 = .ok (.iinc 1 1, 3) := by decide +kernel
theorem dX6_putsBack_23 : decode cX6_putsBack 23 = .ok (.goto (-21), 3) := by decide +kernel
theorem dX6_putsBack_26 : decode cX6_putsBack 26 = .ok (.return_, 1) := by decide +kernel
theorem dX6_laysAside_0 : decode cX6_laysAside 0 = .ok (.iconst 0, 1) := by decide +kernel
theorem dX6_laysAside_1 : decode cX6_laysAside 1 = .ok (.istore_n 1, 1) := by decide +kernel
theorem dX6_laysAside_2 : decode cX6_laysAside 2 = .ok (.iload_n 1, 1) := by decide +kernel
theorem dX6_laysAside_3 : decode cX6_laysAside 3 = .ok (.bipush 39, 2) := by decide +kernel
theorem dX6_laysAside_5 : decode cX6_laysAside 5 = .ok (.if_icmp .ge 21, 3) := by decide +kernel
theorem dX6_laysAside_8 : decode cX6_laysAside 8 = .ok (.aload_n 0, 1) := by decide +kernel
theorem dX6_laysAside_9 : decode cX6_laysAside 9 = .ok (.getfield 19, 3) := by decide +kernel
theorem dX6_laysAside_12 : decode cX6_laysAside 12 = .ok (.iload_n 1, 1) := by decide +kernel
theorem dX6_laysAside_13 : decode cX6_laysAside 13 = .ok (.aload_n 0, 1) := by decide +kernel
theorem dX6_laysAside_14 : decode cX6_laysAside 14 = .ok (.getfield 7, 3) := by decide +kernel
theorem dX6_laysAside_17 : decode cX6_laysAside 17 = .ok (.iload_n 1, 1) := by decide +kernel
theorem dX6_laysAside_18 : decode cX6_laysAside 18 = .ok (.iaload, 1) := by decide +kernel
theorem dX6_laysAside_19 : decode cX6_laysAside 19 = .ok (.iastore, 1) := by decide +kernel
theorem dX6_laysAside_20 : decode cX6_laysAside 20 = .ok (.iinc 1 1, 3) := by decide +kernel
theorem dX6_laysAside_23 : decode cX6_laysAside 23 = .ok (.goto (-21), 3) := by decide +kernel
theorem dX6_laysAside_26 : decode cX6_laysAside 26 = .ok (.return_, 1) := by decide +kernel
theorem dX6_takesBack_0 : decode cX6_takesBack 0 = .ok (.iconst 0, 1) := by decide +kernel
theorem dX6_takesBack_1 : decode cX6_takesBack 1 = .ok (.istore_n 2, 1) := by decide +kernel
theorem dX6_takesBack_2 : decode cX6_takesBack 2 = .ok (.iload_n 2, 1) := by decide +kernel
theorem dX6_takesBack_3 : decode cX6_takesBack 3 = .ok (.bipush 39, 2) := by decide +kernel
theorem dX6_takesBack_5 : decode cX6_takesBack 5 = .ok (.if_icmp .ge 21, 3) := by decide +kernel
theorem dX6_takesBack_8 : decode cX6_takesBack 8 = .ok (.aload_n 0, 1) := by decide +kernel
theorem dX6_takesBack_9 : decode cX6_takesBack 9 = .ok (.getfield 7, 3) := by decide +kernel
theorem dX6_takesBack_12 : decode cX6_takesBack 12 = .ok (.iload_n 2, 1) := by decide +kernel
theorem dX6_takesBack_13 : decode cX6_takesBack 13 = .ok (.aload_n 0, 1) := by decide +kernel
theorem dX6_takesBack_14 : decode cX6_takesBack 14 = .ok (.getfield 19, 3) := by decide +kernel
theorem dX6_takesBack_17 : decode cX6_takesBack 17 = .ok (.iload_n 2, 1) := by decide +kernel
theorem dX6_takesBack_18 : decode cX6_takesBack 18 = .ok (.iaload, 1) := by decide +kernel
theorem dX6_takesBack_19 : decode cX6_takesBack 19 = .ok (.iastore, 1) := by decide +kernel
theorem dX6_takesBack_20 : decode cX6_takesBack 20 = .ok (.iinc 2 1, 3) := by decide +kernel
theorem dX6_takesBack_23 : decode cX6_takesBack 23 = .ok (.goto (-21), 3) := by decide +kernel
theorem dX6_takesBack_26 : decode cX6_takesBack 26 = .ok (.iload_n 1, 1) := by decide +kernel
theorem dX6_takesBack_27 : decode cX6_takesBack 27 = .ok (.ireturn, 1) := by decide +kernel
theorem dX6_becomes_0 : decode cX6_becomes 0 = .ok (.aload_n 0, 1) := by decide +kernel
theorem dX6_becomes_1 : decode cX6_becomes 1 = .ok (.getfield 7, 3) := by decide +kernel
theorem dX6_becomes_4 : decode cX6_becomes 4 = .ok (.iload_n 1, 1) := by decide +kernel
theorem dX6_becomes_5 : decode cX6_becomes 5 = .ok (.iaload, 1) := by decide +kernel
theorem dX6_becomes_6 : decode cX6_becomes 6 = .ok (.istore_n 3, 1) := by decide +kernel
theorem dX6_becomes_7 : decode cX6_becomes 7 = .ok (.aload_n 0, 1) := by decide +kernel
theorem dX6_becomes_8 : decode cX6_becomes 8 = .ok (.getfield 7, 3) := by decide +kernel
theorem dX6_becomes_11 : decode cX6_becomes 11 = .ok (.iload_n 1, 1) := by decide +kernel
theorem dX6_becomes_12 : decode cX6_becomes 12 = .ok (.iload_n 2, 1) := by decide +kernel
theorem dX6_becomes_13 : decode cX6_becomes 13 = .ok (.iastore, 1) := by decide +kernel
theorem dX6_becomes_14 : decode cX6_becomes 14 = .ok (.iload_n 3, 1) := by decide +kernel
theorem dX6_becomes_15 : decode cX6_becomes 15 = .ok (.ireturn, 1) := by decide +kernel
set_option maxRecDepth 20000 in
theorem ggX6_isHouse_X6_in : GoodIn wsX6_isHouse wsX6_in := goodIn_r _ [5] (by decide +kernel) (by decide +kernel)
set_option maxRecDepth 20000 in
theorem gX6_isHouse_X6_in : GoodIn wsX6_isHouse (va_wsS RX6 48 yX6_in wsX6_in) := goodIn_app (goodIn_of _ (by decide +kernel)) ggX6_isHouse_X6_in
theorem dX6_isHouse_0 : decode cX6_isHouse 0 = .ok (.iload_n 0, 1) := by decide +kernel
theorem dX6_isHouse_1 : decode cX6_isHouse 1 = .ok (.i2l, 1) := by decide +kernel
theorem dX6_isHouse_2 : decode cX6_isHouse 2 = .ok (.lconst 0, 1) := by decide +kernel
theorem dX6_isHouse_3 : decode cX6_isHouse 3 = .ok (.ldc2_w 46, 3) := by decide +kernel
theorem dX6_isHouse_6 : decode cX6_isHouse 6 = .ok (.invokestatic 48, 3) := by decide +kernel
theorem dX6_isHouse_9 : decode cX6_isHouse 9 = .ok (.ireturn, 1) := by decide +kernel
set_option maxRecDepth 20000 in
theorem ggX6_isTone_X6_in : GoodIn wsX6_isTone wsX6_in := goodIn_r _ [5] (by decide +kernel) (by decide +kernel)
set_option maxRecDepth 20000 in
theorem gX6_isTone_X6_in : GoodIn wsX6_isTone (va_wsS RX6 48 yX6_in wsX6_in) := goodIn_app (goodIn_of _ (by decide +kernel)) ggX6_isTone_X6_in
theorem dX6_isTone_0 : decode cX6_isTone 0 = .ok (.iload_n 0, 1) := by decide +kernel
theorem dX6_isTone_1 : decode cX6_isTone 1 = .ok (.i2l, 1) := by decide +kernel
theorem dX6_isTone_2 : decode cX6_isTone 2 = .ok (.lconst 0, 1) := by decide +kernel
theorem dX6_isTone_3 : decode cX6_isTone 3 = .ok (.ldc2_w 52, 3) := by decide +kernel
theorem dX6_isTone_6 : decode cX6_isTone 6 = .ok (.invokestatic 48, 3) := by decide +kernel
theorem dX6_isTone_9 : decode cX6_isTone 9 = .ok (.ireturn, 1) := by decide +kernel
set_option maxRecDepth 20000 in
theorem ggX6_isKind_X6_in : GoodIn wsX6_isKind wsX6_in := goodIn_r _ [5] (by decide +kernel) (by decide +kernel)
set_option maxRecDepth 20000 in
theorem gX6_isKind_X6_in : GoodIn wsX6_isKind (va_wsS RX6 48 yX6_in wsX6_in) := goodIn_app (goodIn_of _ (by decide +kernel)) ggX6_isKind_X6_in
theorem dX6_isKind_0 : decode cX6_isKind 0 = .ok (.iload_n 0, 1) := by decide +kernel
theorem dX6_isKind_1 : decode cX6_isKind 1 = .ok (.i2l, 1) := by decide +kernel
theorem dX6_isKind_2 : decode cX6_isKind 2 = .ok (.lconst 0, 1) := by decide +kernel
theorem dX6_isKind_3 : decode cX6_isKind 3 = .ok (.ldc2_w 54, 3) := by decide +kernel
theorem dX6_isKind_6 : decode cX6_isKind 6 = .ok (.invokestatic 48, 3) := by decide +kernel
theorem dX6_isKind_9 : decode cX6_isKind 9 = .ok (.ireturn, 1) := by decide +kernel
theorem dX6_spotOf_0 : decode cX6_spotOf 0 = .ok (.bipush 7, 2) := by decide +kernel
theorem dX6_spotOf_2 : decode cX6_spotOf 2 = .ok (.iconst 4, 1) := by decide +kernel
theorem dX6_spotOf_3 : decode cX6_spotOf 3 = .ok (.iload_n 0, 1) := by decide +kernel
theorem dX6_spotOf_4 : decode cX6_spotOf 4 = .ok (.imul, 1) := by decide +kernel
theorem dX6_spotOf_5 : decode cX6_spotOf 5 = .ok (.iadd, 1) := by decide +kernel
theorem dX6_spotOf_6 : decode cX6_spotOf 6 = .ok (.iload_n 1, 1) := by decide +kernel
theorem dX6_spotOf_7 : decode cX6_spotOf 7 = .ok (.iadd, 1) := by decide +kernel
theorem dX6_spotOf_8 : decode cX6_spotOf 8 = .ok (.ireturn, 1) := by decide +kernel
set_option maxRecDepth 20000 in
theorem ggX6_its_X6_spotOf : GoodIn wsX6_its wsX6_spotOf := goodIn_r _ [5] (by decide +kernel) (by decide +kernel)
set_option maxRecDepth 20000 in
theorem gX6_its_X6_spotOf : GoodIn wsX6_its (va_wsS RX6 41 yX6_spotOf wsX6_spotOf) := goodIn_app (goodIn_of _ (by decide +kernel)) ggX6_its_X6_spotOf
theorem dX6_its_0 : decode cX6_its 0 = .ok (.aload_n 0, 1) := by decide +kernel
theorem dX6_its_1 : decode cX6_its 1 = .ok (.getfield 7, 3) := by decide +kernel
theorem dX6_its_4 : decode cX6_its 4 = .ok (.iload_n 1, 1) := by decide +kernel
theorem dX6_its_5 : decode cX6_its 5 = .ok (.iload_n 2, 1) := by decide +kernel
theorem dX6_its_6 : decode cX6_its 6 = .ok (.invokestatic 41, 3) := by decide +kernel
theorem dX6_its_9 : decode cX6_its 9 = .ok (.iaload, 1) := by decide +kernel
theorem dX6_its_10 : decode cX6_its 10 = .ok (.ireturn, 1) := by decide +kernel
theorem dX6_heldTo_0 : decode cX6_heldTo 0 = .ok (.iload_n 0, 1) := by decide +kernel
theorem dX6_heldTo_1 : decode cX6_heldTo 1 = .ok (.iload_n 1, 1) := by decide +kernel
theorem dX6_heldTo_2 : decode cX6_heldTo 2 = .ok (.if_icmp .le 7, 3) := by decide +kernel
theorem dX6_heldTo_5 : decode cX6_heldTo 5 = .ok (.iload_n 1, 1) := by decide +kernel
theorem dX6_heldTo_6 : decode cX6_heldTo 6 = .ok (.goto 4, 3) := by decide +kernel
theorem dX6_heldTo_9 : decode cX6_heldTo 9 = .ok (.iload_n 0, 1) := by decide +kernel
theorem dX6_heldTo_10 : decode cX6_heldTo 10 = .ok (.ireturn, 1) := by decide +kernel
theorem dX6_atLeastNothing_0 : decode cX6_atLeastNothing 0 = .ok (.iload_n 0, 1) := by decide +kernel
theorem dX6_atLeastNothing_1 : decode cX6_atLeastNothing 1 = .ok (.ifCond .ge 7, 3) := by decide +kernel
theorem dX6_atLeastNothing_4 : decode cX6_atLeastNothing 4 = .ok (.iconst 0, 1) := by decide +kernel
theorem dX6_atLeastNothing_5 : decode cX6_atLeastNothing 5 = .ok (.goto 4, 3) := by decide +kernel
theorem dX6_atLeastNothing_8 : decode cX6_atLeastNothing 8 = .ok (.iload_n 0, 1) := by decide +kernel
theorem dX6_atLeastNothing_9 : decode cX6_atLeastNothing 9 = .ok (.ireturn, 1) := by decide +kernel
set_option maxRecDepth 20000 in
theorem ggX6_isHis_X6_isHouse : GoodIn wsX6_isHis wsX6_isHouse := goodIn_r _ [8, 9, 10, 11, 7, 12] (by decide +kernel) (by decide +kernel)
set_option maxRecDepth 20000 in
theorem gX6_isHis_X6_isHouse : GoodIn wsX6_isHis (va_wsS RX6 56 yX6_isHouse wsX6_isHouse) := goodIn_app (goodIn_of _ (by decide +kernel)) ggX6_isHis_X6_isHouse
set_option maxRecDepth 20000 in
theorem ggX6_isHis_X6_in : GoodIn wsX6_isHis wsX6_in := goodIn_r _ [12] (by decide +kernel) (by decide +kernel)
set_option maxRecDepth 20000 in
theorem gX6_isHis_X6_in : GoodIn wsX6_isHis (va_wsS RX6 48 yX6_in wsX6_in) := goodIn_app (goodIn_of _ (by decide +kernel)) ggX6_isHis_X6_in
theorem dX6_isHis_0 : decode cX6_isHis 0 = .ok (.iload_n 0, 1) := by decide +kernel
theorem dX6_isHis_1 : decode cX6_isHis 1 = .ok (.tableswitch 66 0 3 #[31, 36, 44, 54], 31) := by decide +kernel
theorem dX6_isHis_32 : decode cX6_isHis 32 = .ok (.iload_n 1, 1) := by decide +kernel
theorem dX6_isHis_33 : decode cX6_isHis 33 = .ok (.invokestatic 56, 3) := by decide +kernel
theorem dX6_isHis_36 : decode cX6_isHis 36 = .ok (.ireturn, 1) := by decide +kernel
theorem dX6_isHis_37 : decode cX6_isHis 37 = .ok (.iload_n 1, 1) := by decide +kernel
theorem dX6_isHis_38 : decode cX6_isHis 38 = .ok (.i2l, 1) := by decide +kernel
theorem dX6_isHis_39 : decode cX6_isHis 39 = .ok (.lconst 0, 1) := by decide +kernel
theorem dX6_isHis_40 : decode cX6_isHis 40 = .ok (.lconst 1, 1) := by decide +kernel
theorem dX6_isHis_41 : decode cX6_isHis 41 = .ok (.invokestatic 48, 3) := by decide +kernel
theorem dX6_isHis_44 : decode cX6_isHis 44 = .ok (.ireturn, 1) := by decide +kernel
theorem dX6_isHis_45 : decode cX6_isHis 45 = .ok (.iload_n 1, 1) := by decide +kernel
theorem dX6_isHis_46 : decode cX6_isHis 46 = .ok (.i2l, 1) := by decide +kernel
theorem dX6_isHis_47 : decode cX6_isHis 47 = .ok (.lconst 0, 1) := by decide +kernel
theorem dX6_isHis_48 : decode cX6_isHis 48 = .ok (.ldc2_w 60, 3) := by decide +kernel
theorem dX6_isHis_51 : decode cX6_isHis 51 = .ok (.invokestatic 48, 3) := by decide +kernel
theorem dX6_isHis_54 : decode cX6_isHis 54 = .ok (.ireturn, 1) := by decide +kernel
theorem dX6_isHis_55 : decode cX6_isHis 55 = .ok (.iload_n 1, 1) := by decide +kernel
theorem dX6_isHis_56 : decode cX6_isHis 56 = .ok (.i2l, 1) := by decide +kernel
theorem dX6_isHis_57 : decode cX6_isHis 57 = .ok (.ldc2_w 62, 3) := by decide +kernel
theorem dX6_isHis_60 : decode cX6_isHis 60 = .ok (.ldc2_w 52, 3) := by decide +kernel
theorem dX6_isHis_63 : decode cX6_isHis 63 = .ok (.invokestatic 48, 3) := by decide +kernel
theorem dX6_isHis_66 : decode cX6_isHis 66 = .ok (.ireturn, 1) := by decide +kernel
theorem dX6_isHis_67 : decode cX6_isHis 67 = .ok (.iload_n 0, 1) := by decide +kernel
theorem dX6_isHis_68 : decode cX6_isHis 68 = .ok (.iconst 4, 1) := by decide +kernel
theorem dX6_isHis_69 : decode cX6_isHis 69 = .ok (.if_icmp .ne 19, 3) := by decide +kernel
theorem dX6_isHis_72 : decode cX6_isHis 72 = .ok (.iload_n 1, 1) := by decide +kernel
theorem dX6_isHis_73 : decode cX6_isHis 73 = .ok (.i2l, 1) := by decide +kernel
theorem dX6_isHis_74 : decode cX6_isHis 74 = .ok (.lconst 0, 1) := by decide +kernel
theorem dX6_isHis_75 : decode cX6_isHis 75 = .ok (.ldc2_w 64, 3) := by decide +kernel
theorem dX6_isHis_78 : decode cX6_isHis 78 = .ok (.invokestatic 48, 3) := by decide +kernel
theorem dX6_isHis_81 : decode cX6_isHis 81 = .ok (.ifCond .eq 7, 3) := by decide +kernel
theorem dX6_isHis_84 : decode cX6_isHis 84 = .ok (.iconst 1, 1) := by decide +kernel
theorem dX6_isHis_85 : decode cX6_isHis 85 = .ok (.goto 4, 3) := by decide +kernel
theorem dX6_isHis_88 : decode cX6_isHis 88 = .ok (.iconst 0, 1) := by decide +kernel
theorem dX6_isHis_89 : decode cX6_isHis 89 = .ok (.ireturn, 1) := by decide +kernel
set_option maxRecDepth 20000 in
theorem ggX6_man_X6_isHis : GoodIn wsX6_man wsX6_isHis := goodIn_r _ [5, 6, 7, 8, 9, 10, 11, 4, 12, 13, 14, 15, 16] (by decide +kernel) (by decide +kernel)
set_option maxRecDepth 20000 in
theorem gX6_man_X6_isHis : GoodIn wsX6_man (va_wsS RX6 66 yX6_isHis wsX6_isHis) := goodIn_app (goodIn_of _ (by decide +kernel)) ggX6_man_X6_isHis
set_option maxRecDepth 20000 in
theorem ggX6_man_X6_becomes : GoodIn wsX6_man wsX6_becomes := goodIn_r _ [20, 21, 27, 28, 29, 30, 31, 32, 33, 34, 35, 36, 37, 38, 39, 40, 41, 42] (by decide +kernel) (by decide +kernel)
set_option maxRecDepth 20000 in
theorem gX6_man_X6_becomes : GoodIn wsX6_man (wsV RX6 70 RX6 yX6_becomes wsX6_becomes) := goodIn_app (goodIn_of _ (by decide +kernel)) ggX6_man_X6_becomes
set_option maxRecDepth 20000 in
theorem ggX6_man_X6_finds : GoodIn wsX6_man wsX6_finds := goodIn_r _ [25, 26, 1, 27, 28, 29, 30, 31, 32, 33, 34, 35, 36, 37, 38, 39, 40, 41, 42] (by decide +kernel) (by decide +kernel)
set_option maxRecDepth 20000 in
theorem gX6_man_X6_finds : GoodIn wsX6_man (wsV RX6 73 RX6 yX6_finds wsX6_finds) := goodIn_app (goodIn_of _ (by decide +kernel)) ggX6_man_X6_finds
theorem dX6_man_0 : decode cX6_man 0 = .ok (.iload_n 1, 1) := by decide +kernel
theorem dX6_man_1 : decode cX6_man 1 = .ok (.iload_n 2, 1) := by decide +kernel
theorem dX6_man_2 : decode cX6_man 2 = .ok (.invokestatic 66, 3) := by decide +kernel
theorem dX6_man_5 : decode cX6_man 5 = .ok (.ifCond .eq 14, 3) := by decide +kernel
theorem dX6_man_8 : decode cX6_man 8 = .ok (.aload_n 0, 1) := by decide +kernel
theorem dX6_man_9 : decode cX6_man 9 = .ok (.iconst 1, 1) := by decide +kernel
theorem dX6_man_10 : decode cX6_man 10 = .ok (.iload_n 1, 1) := by decide +kernel
theorem dX6_man_11 : decode cX6_man 11 = .ok (.iadd, 1) := by decide +kernel
theorem dX6_man_12 : decode cX6_man 12 = .ok (.iload_n 2, 1) := by decide +kernel
theorem dX6_man_13 : decode cX6_man 13 = .ok (.invokevirtual 70, 3) := by decide +kernel
theorem dX6_man_16 : decode cX6_man 16 = .ok (.goto 9, 3) := by decide +kernel
theorem dX6_man_19 : decode cX6_man 19 = .ok (.aload_n 0, 1) := by decide +kernel
theorem dX6_man_20 : decode cX6_man 20 = .ok (.ldc 45, 2) := by decide +kernel
theorem dX6_man_22 : decode cX6_man 22 = .ok (.invokevirtual 73, 3) := by decide +kernel
theorem dX6_man_25 : decode cX6_man 25 = .ok (.ireturn, 1) := by decide +kernel
theorem dX6_isResting_0 : decode cX6_isResting 0 = .ok (.aload_n 0, 1) := by decide +kernel
theorem dX6_isResting_1 : decode cX6_isResting 1 = .ok (.getfield 7, 3) := by decide +kernel
theorem dX6_isResting_4 : decode cX6_isResting 4 = .ok (.iconst 0, 1) := by decide +kernel
theorem dX6_isResting_5 : decode cX6_isResting 5 = .ok (.iaload, 1) := by decide +kernel
theorem dX6_isResting_6 : decode cX6_isResting 6 = .ok (.iconst 5, 1) := by decide +kernel
theorem dX6_isResting_7 : decode cX6_isResting 7 = .ok (.irem, 1) := by decide +kernel
theorem dX6_isResting_8 : decode cX6_isResting 8 = .ok (.iconst 4, 1) := by decide +kernel
theorem dX6_isResting_9 : decode cX6_isResting 9 = .ok (.if_icmp .ne 7, 3) := by decide +kernel
theorem dX6_isResting_12 : decode cX6_isResting 12 = .ok (.iconst 1, 1) := by decide +kernel
theorem dX6_isResting_13 : decode cX6_isResting 13 = .ok (.goto 4, 3) := by decide +kernel
theorem dX6_isResting_16 : decode cX6_isResting 16 = .ok (.iconst 0, 1) := by decide +kernel
theorem dX6_isResting_17 : decode cX6_isResting 17 = .ok (.ireturn, 1) := by decide +kernel
set_option maxRecDepth 20000 in
theorem ggX6_now_X6_in : GoodIn wsX6_now wsX6_in := goodIn_r _ [7] (by decide +kernel) (by decide +kernel)
set_option maxRecDepth 20000 in
theorem gX6_now_X6_in : GoodIn wsX6_now (va_wsS RX6 48 yX6_in wsX6_in) := goodIn_app (goodIn_of _ (by decide +kernel)) ggX6_now_X6_in
set_option maxRecDepth 20000 in
theorem ggX6_now_X6_finds : GoodIn wsX6_now wsX6_finds := goodIn_r _ [11, 12, 2, 17, 18, 19, 20, 21, 22, 23, 24, 25, 26, 27, 28, 29, 30, 31, 32] (by decide +kernel) (by decide +kernel)
set_option maxRecDepth 20000 in
theorem gX6_now_X6_finds : GoodIn wsX6_now (wsV RX6 73 RX6 yX6_finds wsX6_finds) := goodIn_app (goodIn_of _ (by decide +kernel)) ggX6_now_X6_finds
set_option maxRecDepth 20000 in
theorem ggX6_now_X6_isResting : GoodIn wsX6_now wsX6_isResting := goodIn_r _ [16, 3, 17, 18, 19, 20, 21, 22, 23, 24, 25, 26, 27, 28, 29, 30, 31, 32] (by decide +kernel) (by decide +kernel)
set_option maxRecDepth 20000 in
theorem gX6_now_X6_isResting : GoodIn wsX6_now (wsV RX6 77 RX6 yX6_isResting wsX6_isResting) := goodIn_app (goodIn_of _ (by decide +kernel)) ggX6_now_X6_isResting
theorem dX6_now_0 : decode cX6_now 0 = .ok (.iload_n 1, 1) := by decide +kernel
theorem dX6_now_1 : decode cX6_now 1 = .ok (.i2l, 1) := by decide +kernel
theorem dX6_now_2 : decode cX6_now 2 = .ok (.lconst 0, 1) := by decide +kernel
theorem dX6_now_3 : decode cX6_now 3 = .ok (.ldc2_w 46, 3) := by decide +kernel
theorem dX6_now_6 : decode cX6_now 6 = .ok (.invokestatic 48, 3) := by decide +kernel
theorem dX6_now_9 : decode cX6_now 9 = .ok (.ifCond .ne 10, 3) := by decide +kernel
theorem dX6_now_12 : decode cX6_now 12 = .ok (.aload_n 0, 1) := by decide +kernel
theorem dX6_now_13 : decode cX6_now 13 = .ok (.ldc 45, 2) := by decide +kernel
theorem dX6_now_15 : decode cX6_now 15 = .ok (.invokevirtual 73, 3) := by decide +kernel
theorem dX6_now_18 : decode cX6_now 18 = .ok (.ireturn, 1) := by decide +kernel
theorem dX6_now_19 : decode cX6_now 19 = .ok (.iload_n 1, 1) := by decide +kernel
theorem dX6_now_20 : decode cX6_now 20 = .ok (.bipush 7, 2) := by decide +kernel
theorem dX6_now_22 : decode cX6_now 22 = .ok (.if_icmp .ge 12, 3) := by decide +kernel
theorem dX6_now_25 : decode cX6_now 25 = .ok (.aload_n 0, 1) := by decide +kernel
theorem dX6_now_26 : decode cX6_now 26 = .ok (.getfield 7, 3) := by decide +kernel
theorem dX6_now_29 : decode cX6_now 29 = .ok (.iload_n 1, 1) := by decide +kernel
theorem dX6_now_30 : decode cX6_now 30 = .ok (.iaload, 1) := by decide +kernel
theorem dX6_now_31 : decode cX6_now 31 = .ok (.goto 15, 3) := by decide +kernel
theorem dX6_now_34 : decode cX6_now 34 = .ok (.aload_n 0, 1) := by decide +kernel
theorem dX6_now_35 : decode cX6_now 35 = .ok (.invokevirtual 77, 3) := by decide +kernel
theorem dX6_now_38 : decode cX6_now 38 = .ok (.ifCond .eq 7, 3) := by decide +kernel
theorem dX6_now_41 : decode cX6_now 41 = .ok (.iconst 1, 1) := by decide +kernel
theorem dX6_now_42 : decode cX6_now 42 = .ok (.goto 4, 3) := by decide +kernel
theorem dX6_now_45 : decode cX6_now 45 = .ok (.iconst 0, 1) := by decide +kernel
theorem dX6_now_46 : decode cX6_now 46 = .ok (.ireturn, 1) := by decide +kernel
set_option maxRecDepth 20000 in
theorem ggX6_toneOf_X6_its : GoodIn wsX6_toneOf wsX6_its := goodIn_r _ [6, 1, 7, 8, 5, 9, 16, 17, 18, 19, 20, 21, 22, 23, 24, 25, 26, 27, 28, 29, 30, 31] (by decide +kernel) (by decide +kernel)
set_option maxRecDepth 20000 in
theorem gX6_toneOf_X6_its : GoodIn wsX6_toneOf (wsV RX6 81 RX6 yX6_its wsX6_its) := goodIn_app (goodIn_of _ (by decide +kernel)) ggX6_toneOf_X6_its
set_option maxRecDepth 20000 in
theorem ggX6_toneOf_X6_heldTo : GoodIn wsX6_toneOf wsX6_heldTo := goodIn_r _ [12] (by decide +kernel) (by decide +kernel)
set_option maxRecDepth 20000 in
theorem gX6_toneOf_X6_heldTo : GoodIn wsX6_toneOf (va_wsS RX6 84 yX6_heldTo wsX6_heldTo) := goodIn_app (goodIn_of _ (by decide +kernel)) ggX6_toneOf_X6_heldTo
set_option maxRecDepth 20000 in
theorem ggX6_toneOf_X6_atLeastNothing : GoodIn wsX6_toneOf wsX6_atLeastNothing := goodIn_r _ [15] (by decide +kernel) (by decide +kernel)
set_option maxRecDepth 20000 in
theorem gX6_toneOf_X6_atLeastNothing : GoodIn wsX6_toneOf (va_wsS RX6 87 yX6_atLeastNothing wsX6_atLeastNothing) := goodIn_app (goodIn_of _ (by decide +kernel)) ggX6_toneOf_X6_atLeastNothing
theorem dX6_toneOf_0 : decode cX6_toneOf 0 = .ok (.aload_n 0, 1) := by decide +kernel
theorem dX6_toneOf_1 : decode cX6_toneOf 1 = .ok (.iload_n 1, 1) := by decide +kernel
theorem dX6_toneOf_2 : decode cX6_toneOf 2 = .ok (.iconst 1, 1) := by decide +kernel
theorem dX6_toneOf_3 : decode cX6_toneOf 3 = .ok (.invokevirtual 81, 3) := by decide +kernel
theorem dX6_toneOf_6 : decode cX6_toneOf 6 = .ok (.istore_n 2, 1) := by decide +kernel
theorem dX6_toneOf_7 : decode cX6_toneOf 7 = .ok (.iload_n 2, 1) := by decide +kernel
theorem dX6_toneOf_8 : decode cX6_toneOf 8 = .ok (.iconst 3, 1) := by decide +kernel
theorem dX6_toneOf_9 : decode cX6_toneOf 9 = .ok (.idiv, 1) := by decide +kernel
theorem dX6_toneOf_10 : decode cX6_toneOf 10 = .ok (.istore_n 3, 1) := by decide +kernel
theorem dX6_toneOf_11 : decode cX6_toneOf 11 = .ok (.iload_n 3, 1) := by decide +kernel
theorem dX6_toneOf_12 : decode cX6_toneOf 12 = .ok (.iconst 1, 1) := by decide +kernel
theorem dX6_toneOf_13 : decode cX6_toneOf 13 = .ok (.iadd, 1) := by decide +kernel
theorem dX6_toneOf_14 : decode cX6_toneOf 14 = .ok (.bipush 6, 2) := by decide +kernel
theorem dX6_toneOf_16 : decode cX6_toneOf 16 = .ok (.invokestatic 84, 3) := by decide +kernel
theorem dX6_toneOf_19 : decode cX6_toneOf 19 = .ok (.istore 4, 2) := by decide +kernel
theorem dX6_toneOf_21 : decode cX6_toneOf 21 = .ok (.iload_n 3, 1) := by decide +kernel
theorem dX6_toneOf_22 : decode cX6_toneOf 22 = .ok (.iconst 2, 1) := by decide +kernel
theorem dX6_toneOf_23 : decode cX6_toneOf 23 = .ok (.isub, 1) := by decide +kernel
theorem dX6_toneOf_24 : decode cX6_toneOf 24 = .ok (.invokestatic 87, 3) := by decide +kernel
theorem dX6_toneOf_27 : decode cX6_toneOf 27 = .ok (.istore 5, 2) := by decide +kernel
theorem dX6_toneOf_29 : decode cX6_toneOf 29 = .ok (.aload_n 0, 1) := by decide +kernel
theorem dX6_toneOf_30 : decode cX6_toneOf 30 = .ok (.iload_n 1, 1) := by decide +kernel
theorem dX6_toneOf_31 : decode cX6_toneOf 31 = .ok (.iconst 0, 1) := by decide +kernel
theorem dX6_toneOf_32 : decode cX6_toneOf 32 = .ok (.invokevirtual 81, 3) := by decide +kernel
theorem dX6_toneOf_35 : decode cX6_toneOf 35 = .ok (.tableswitch 73 1 5 #[33, 36, 39, 41, 60], 33) := by decide +kernel
theorem dX6_toneOf_68 : decode cX6_toneOf 68 = .ok (.iload 4, 2) := by decide +kernel
theorem dX6_toneOf_70 : decode cX6_toneOf 70 = .ok (.ireturn, 1) := by decide +kernel
theorem dX6_toneOf_71 : decode cX6_toneOf 71 = .ok (.iload 5, 2) := by decide +kernel
theorem dX6_toneOf_73 : decode cX6_toneOf 73 = .ok (.ireturn, 1) := by decide +kernel
theorem dX6_toneOf_74 : decode cX6_toneOf 74 = .ok (.iconst 3, 1) := by decide +kernel
theorem dX6_toneOf_75 : decode cX6_toneOf 75 = .ok (.ireturn, 1) := by decide +kernel
theorem dX6_toneOf_76 : decode cX6_toneOf 76 = .ok (.aload_n 0, 1) := by decide +kernel
theorem dX6_toneOf_77 : decode cX6_toneOf 77 = .ok (.getfield 7, 3) := by decide +kernel
theorem dX6_toneOf_80 : decode cX6_toneOf 80 = .ok (.iconst 0, 1) := by decide +kernel
theorem dX6_toneOf_81 : decode cX6_toneOf 81 = .ok (.iaload, 1) := by decide +kernel
theorem dX6_toneOf_82 : decode cX6_toneOf 82 = .ok (.iconst 3, 1) := by decide +kernel
theorem dX6_toneOf_83 : decode cX6_toneOf 83 = .ok (.irem, 1) := by decide +kernel
theorem dX6_toneOf_84 : decode cX6_toneOf 84 = .ok (.iconst 1, 1) := by decide +kernel
theorem dX6_toneOf_85 : decode cX6_toneOf 85 = .ok (.if_icmp .ne 7, 3) := by decide +kernel
theorem dX6_toneOf_88 : decode cX6_toneOf 88 = .ok (.iconst 0, 1) := by decide +kernel
theorem dX6_toneOf_89 : decode cX6_toneOf 89 = .ok (.goto 5, 3) := by decide +kernel
theorem dX6_toneOf_92 : decode cX6_toneOf 92 = .ok (.iload 4, 2) := by decide +kernel
theorem dX6_toneOf_94 : decode cX6_toneOf 94 = .ok (.ireturn, 1) := by decide +kernel
theorem dX6_toneOf_95 : decode cX6_toneOf 95 = .ok (.iload_n 2, 1) := by decide +kernel
theorem dX6_toneOf_96 : decode cX6_toneOf 96 = .ok (.bipush 12, 2) := by decide +kernel
theorem dX6_toneOf_98 : decode cX6_toneOf 98 = .ok (.if_icmp .ge 7, 3) := by decide +kernel
theorem dX6_toneOf_101 : decode cX6_toneOf 101 = .ok (.iconst 0, 1) := by decide +kernel
theorem dX6_toneOf_102 : decode cX6_toneOf 102 = .ok (.goto 5, 3) := by decide +kernel
theorem dX6_toneOf_105 : decode cX6_toneOf 105 = .ok (.iload 5, 2) := by decide +kernel
theorem dX6_toneOf_107 : decode cX6_toneOf 107 = .ok (.ireturn, 1) := by decide +kernel
theorem dX6_toneOf_108 : decode cX6_toneOf 108 = .ok (.iload_n 3, 1) := by decide +kernel
theorem dX6_toneOf_109 : decode cX6_toneOf 109 = .ok (.ireturn, 1) := by decide +kernel
set_option maxRecDepth 20000 in
theorem ggX6_mindsOf_X6_toneOf : GoodIn wsX6_mindsOf wsX6_toneOf := goodIn_r _ [5, 6, 7, 8, 9, 4, 10, 11, 12, 13, 14, 15, 16, 17, 18, 19, 20, 21, 22, 23, 24, 25, 26, 27, 28, 29, 30, 31, 32, 33, 34, 35] (by decide +kernel) (by decide +kernel)
set_option maxRecDepth 20000 in
theorem gX6_mindsOf_X6_toneOf : GoodIn wsX6_mindsOf (wsV RX6 90 RX6 yX6_toneOf wsX6_toneOf) := goodIn_app (goodIn_of _ (by decide +kernel)) ggX6_mindsOf_X6_toneOf
set_option maxRecDepth 20000 in
theorem ggX6_mindsOf_X6_its : GoodIn wsX6_mindsOf wsX6_its := goodIn_r _ [10, 6, 11, 12, 4, 13, 20, 21, 22, 23, 24, 25, 26, 27, 28, 29, 30, 31, 32, 33, 34, 35] (by decide +kernel) (by decide +kernel)
set_option maxRecDepth 20000 in
theorem gX6_mindsOf_X6_its : GoodIn wsX6_mindsOf (wsV RX6 81 RX6 yX6_its wsX6_its) := goodIn_app (goodIn_of _ (by decide +kernel)) ggX6_mindsOf_X6_its
theorem dX6_mindsOf_0 : decode cX6_mindsOf 0 = .ok (.aload_n 0, 1) := by decide +kernel
theorem dX6_mindsOf_1 : decode cX6_mindsOf 1 = .ok (.iload_n 1, 1) := by decide +kernel
theorem dX6_mindsOf_2 : decode cX6_mindsOf 2 = .ok (.invokevirtual 90, 3) := by decide +kernel
theorem dX6_mindsOf_5 : decode cX6_mindsOf 5 = .ok (.istore_n 3, 1) := by decide +kernel
theorem dX6_mindsOf_6 : decode cX6_mindsOf 6 = .ok (.iload_n 2, 1) := by decide +kernel
theorem dX6_mindsOf_7 : decode cX6_mindsOf 7 = .ok (.iload_n 3, 1) := by decide +kernel
theorem dX6_mindsOf_8 : decode cX6_mindsOf 8 = .ok (.if_icmp .le 7, 3) := by decide +kernel
theorem dX6_mindsOf_11 : decode cX6_mindsOf 11 = .ok (.iconst 1, 1) := by decide +kernel
theorem dX6_mindsOf_12 : decode cX6_mindsOf 12 = .ok (.goto 13, 3) := by decide +kernel
theorem dX6_mindsOf_15 : decode cX6_mindsOf 15 = .ok (.iload_n 2, 1) := by decide +kernel
theorem dX6_mindsOf_16 : decode cX6_mindsOf 16 = .ok (.iload_n 3, 1) := by decide +kernel
theorem dX6_mindsOf_17 : decode cX6_mindsOf 17 = .ok (.if_icmp .ge 7, 3) := by decide +kernel
theorem dX6_mindsOf_20 : decode cX6_mindsOf 20 = .ok (.iconst (-1), 1) := by decide +kernel
theorem dX6_mindsOf_21 : decode cX6_mindsOf 21 = .ok (.goto 4, 3) := by decide +kernel
theorem dX6_mindsOf_24 : decode cX6_mindsOf 24 = .ok (.iconst 0, 1) := by decide +kernel
theorem dX6_mindsOf_25 : decode cX6_mindsOf 25 = .ok (.istore 4, 2) := by decide +kernel
theorem dX6_mindsOf_27 : decode cX6_mindsOf 27 = .ok (.iload_n 2, 1) := by decide +kernel
theorem dX6_mindsOf_28 : decode cX6_mindsOf 28 = .ok (.iconst 3, 1) := by decide +kernel
theorem dX6_mindsOf_29 : decode cX6_mindsOf 29 = .ok (.if_icmp .le 10, 3) := by decide +kernel
theorem dX6_mindsOf_32 : decode cX6_mindsOf 32 = .ok (.iload 4, 2) := by decide +kernel
theorem dX6_mindsOf_34 : decode cX6_mindsOf 34 = .ok (.iconst 1, 1) := by decide +kernel
theorem dX6_mindsOf_35 : decode cX6_mindsOf 35 = .ok (.iadd, 1) := by decide +kernel
theorem dX6_mindsOf_36 : decode cX6_mindsOf 36 = .ok (.goto 5, 3) := by decide +kernel
theorem dX6_mindsOf_39 : decode cX6_mindsOf 39 = .ok (.iload 4, 2) := by decide +kernel
theorem dX6_mindsOf_41 : decode cX6_mindsOf 41 = .ok (.istore 5, 2) := by decide +kernel
theorem dX6_mindsOf_43 : decode cX6_mindsOf 43 = .ok (.aload_n 0, 1) := by decide +kernel
theorem dX6_mindsOf_44 : decode cX6_mindsOf 44 = .ok (.iload_n 1, 1) := by decide +kernel
theorem dX6_mindsOf_45 : decode cX6_mindsOf 45 = .ok (.iconst 0, 1) := by decide +kernel
theorem dX6_mindsOf_46 : decode cX6_mindsOf 46 = .ok (.invokevirtual 81, 3) := by decide +kernel
theorem dX6_mindsOf_49 : decode cX6_mindsOf 49 = .ok (.tableswitch 69 1 5 #[35, 38, 40, 54, 59], 35) := by decide +kernel
theorem dX6_mindsOf_84 : decode cX6_mindsOf 84 = .ok (.iload 5, 2) := by decide +kernel
theorem dX6_mindsOf_86 : decode cX6_mindsOf 86 = .ok (.ireturn, 1) := by decide +kernel
theorem dX6_mindsOf_87 : decode cX6_mindsOf 87 = .ok (.iconst (-1), 1) := by decide +kernel
theorem dX6_mindsOf_88 : decode cX6_mindsOf 88 = .ok (.ireturn, 1) := by decide +kernel
theorem dX6_mindsOf_89 : decode cX6_mindsOf 89 = .ok (.iload_n 2, 1) := by decide +kernel
theorem dX6_mindsOf_90 : decode cX6_mindsOf 90 = .ok (.iconst 2, 1) := by decide +kernel
theorem dX6_mindsOf_91 : decode cX6_mindsOf 91 = .ok (.irem, 1) := by decide +kernel
theorem dX6_mindsOf_92 : decode cX6_mindsOf 92 = .ok (.iconst 1, 1) := by decide +kernel
theorem dX6_mindsOf_93 : decode cX6_mindsOf 93 = .ok (.if_icmp .ne 8, 3) := by decide +kernel
theorem dX6_mindsOf_96 : decode cX6_mindsOf 96 = .ok (.bipush (-2), 2) := by decide +kernel
theorem dX6_mindsOf_98 : decode cX6_mindsOf 98 = .ok (.goto 4, 3) := by decide +kernel
theorem dX6_mindsOf_101 : decode cX6_mindsOf 101 = .ok (.iconst 1, 1) := by decide +kernel
theorem dX6_mindsOf_102 : decode cX6_mindsOf 102 = .ok (.ireturn, 1) := by decide +kernel
theorem dX6_mindsOf_103 : decode cX6_mindsOf 103 = .ok (.iconst 2, 1) := by decide +kernel
theorem dX6_mindsOf_104 : decode cX6_mindsOf 104 = .ok (.iload 5, 2) := by decide +kernel
theorem dX6_mindsOf_106 : decode cX6_mindsOf 106 = .ok (.imul, 1) := by decide +kernel
theorem dX6_mindsOf_107 : decode cX6_mindsOf 107 = .ok (.ireturn, 1) := by decide +kernel
theorem dX6_mindsOf_108 : decode cX6_mindsOf 108 = .ok (.iload_n 2, 1) := by decide +kernel
theorem dX6_mindsOf_109 : decode cX6_mindsOf 109 = .ok (.ifCond .ne 7, 3) := by decide +kernel
theorem dX6_mindsOf_112 : decode cX6_mindsOf 112 = .ok (.iconst 0, 1) := by decide +kernel
theorem dX6_mindsOf_113 : decode cX6_mindsOf 113 = .ok (.goto 4, 3) := by decide +kernel
theorem dX6_mindsOf_116 : decode cX6_mindsOf 116 = .ok (.iconst (-1), 1) := by decide +kernel
theorem dX6_mindsOf_117 : decode cX6_mindsOf 117 = .ok (.ireturn, 1) := by decide +kernel
theorem dX6_mindsOf_118 : decode cX6_mindsOf 118 = .ok (.iload 4, 2) := by decide +kernel
theorem dX6_mindsOf_120 : decode cX6_mindsOf 120 = .ok (.ireturn, 1) := by decide +kernel
set_option maxRecDepth 20000 in
theorem ggX6_wantsOf_X6_its : GoodIn wsX6_wantsOf wsX6_its := goodIn_r _ [5, 6, 7, 8, 4, 9, 10, 11, 12, 13, 14, 15, 16, 17, 18, 19, 20, 21, 22, 23, 24, 25] (by decide +kernel) (by decide +kernel)
set_option maxRecDepth 20000 in
theorem gX6_wantsOf_X6_its : GoodIn wsX6_wantsOf (wsV RX6 81 RX6 yX6_its wsX6_its) := goodIn_app (goodIn_of _ (by decide +kernel)) ggX6_wantsOf_X6_its
theorem dX6_wantsOf_0 : decode cX6_wantsOf 0 = .ok (.iload_n 2, 1) := by decide +kernel
theorem dX6_wantsOf_1 : decode cX6_wantsOf 1 = .ok (.iconst 4, 1) := by decide +kernel
theorem dX6_wantsOf_2 : decode cX6_wantsOf 2 = .ok (.if_icmp .le 7, 3) := by decide +kernel
theorem dX6_wantsOf_5 : decode cX6_wantsOf 5 = .ok (.iconst 2, 1) := by decide +kernel
theorem dX6_wantsOf_6 : decode cX6_wantsOf 6 = .ok (.goto 4, 3) := by decide +kernel
theorem dX6_wantsOf_9 : decode cX6_wantsOf 9 = .ok (.iconst 1, 1) := by decide +kernel
theorem dX6_wantsOf_10 : decode cX6_wantsOf 10 = .ok (.istore_n 3, 1) := by decide +kernel
theorem dX6_wantsOf_11 : decode cX6_wantsOf 11 = .ok (.iload_n 2, 1) := by decide +kernel
theorem dX6_wantsOf_12 : decode cX6_wantsOf 12 = .ok (.iconst 2, 1) := by decide +kernel
theorem dX6_wantsOf_13 : decode cX6_wantsOf 13 = .ok (.if_icmp .ge 7, 3) := by decide +kernel
theorem dX6_wantsOf_16 : decode cX6_wantsOf 16 = .ok (.iconst 3, 1) := by decide +kernel
theorem dX6_wantsOf_17 : decode cX6_wantsOf 17 = .ok (.goto 4, 3) := by decide +kernel
theorem dX6_wantsOf_20 : decode cX6_wantsOf 20 = .ok (.iconst 1, 1) := by decide +kernel
theorem dX6_wantsOf_21 : decode cX6_wantsOf 21 = .ok (.istore 4, 2) := by decide +kernel
theorem dX6_wantsOf_23 : decode cX6_wantsOf 23 = .ok (.aload_n 0, 1) := by decide +kernel
theorem dX6_wantsOf_24 : decode cX6_wantsOf 24 = .ok (.iload_n 1, 1) := by decide +kernel
theorem dX6_wantsOf_25 : decode cX6_wantsOf 25 = .ok (.iconst 0, 1) := by decide +kernel
theorem dX6_wantsOf_26 : decode cX6_wantsOf 26 = .ok (.invokevirtual 81, 3) := by decide +kernel
theorem dX6_wantsOf_29 : decode cX6_wantsOf 29 = .ok (.tableswitch 62 1 5 #[35, 37, 40, 53, 57], 35) := by decide +kernel
theorem dX6_wantsOf_64 : decode cX6_wantsOf 64 = .ok (.iload_n 3, 1) := by decide +kernel
theorem dX6_wantsOf_65 : decode cX6_wantsOf 65 = .ok (.ireturn, 1) := by decide +kernel
theorem dX6_wantsOf_66 : decode cX6_wantsOf 66 = .ok (.iload 4, 2) := by decide +kernel
theorem dX6_wantsOf_68 : decode cX6_wantsOf 68 = .ok (.ireturn, 1) := by decide +kernel
theorem dX6_wantsOf_69 : decode cX6_wantsOf 69 = .ok (.iload_n 2, 1) := by decide +kernel
theorem dX6_wantsOf_70 : decode cX6_wantsOf 70 = .ok (.iconst 2, 1) := by decide +kernel
theorem dX6_wantsOf_71 : decode cX6_wantsOf 71 = .ok (.irem, 1) := by decide +kernel
theorem dX6_wantsOf_72 : decode cX6_wantsOf 72 = .ok (.iconst 1, 1) := by decide +kernel
theorem dX6_wantsOf_73 : decode cX6_wantsOf 73 = .ok (.if_icmp .ne 7, 3) := by decide +kernel
theorem dX6_wantsOf_76 : decode cX6_wantsOf 76 = .ok (.iconst 0, 1) := by decide +kernel
theorem dX6_wantsOf_77 : decode cX6_wantsOf 77 = .ok (.goto 4, 3) := by decide +kernel
theorem dX6_wantsOf_80 : decode cX6_wantsOf 80 = .ok (.iconst 1, 1) := by decide +kernel
theorem dX6_wantsOf_81 : decode cX6_wantsOf 81 = .ok (.ireturn, 1) := by decide +kernel
theorem dX6_wantsOf_82 : decode cX6_wantsOf 82 = .ok (.iload_n 3, 1) := by decide +kernel
theorem dX6_wantsOf_83 : decode cX6_wantsOf 83 = .ok (.iconst 1, 1) := by decide +kernel
theorem dX6_wantsOf_84 : decode cX6_wantsOf 84 = .ok (.iadd, 1) := by decide +kernel
theorem dX6_wantsOf_85 : decode cX6_wantsOf 85 = .ok (.ireturn, 1) := by decide +kernel
theorem dX6_wantsOf_86 : decode cX6_wantsOf 86 = .ok (.iconst 2, 1) := by decide +kernel
theorem dX6_wantsOf_87 : decode cX6_wantsOf 87 = .ok (.iload 4, 2) := by decide +kernel
theorem dX6_wantsOf_89 : decode cX6_wantsOf 89 = .ok (.imul, 1) := by decide +kernel
theorem dX6_wantsOf_90 : decode cX6_wantsOf 90 = .ok (.ireturn, 1) := by decide +kernel
theorem dX6_wantsOf_91 : decode cX6_wantsOf 91 = .ok (.iconst 1, 1) := by decide +kernel
theorem dX6_wantsOf_92 : decode cX6_wantsOf 92 = .ok (.ireturn, 1) := by decide +kernel
set_option maxRecDepth 20000 in
theorem ggX6_buysOf_X6_wantsOf : GoodIn wsX6_buysOf wsX6_wantsOf := goodIn_r _ [6, 7, 8, 9, 5, 10, 1, 11, 12, 13, 17, 18, 19, 20, 21, 22, 23, 24, 25, 26, 27, 28, 29, 30, 31, 32] (by decide +kernel) (by decide +kernel)
set_option maxRecDepth 20000 in
theorem gX6_buysOf_X6_wantsOf : GoodIn wsX6_buysOf (wsV RX6 93 RX6 yX6_wantsOf wsX6_wantsOf) := goodIn_app (goodIn_of _ (by decide +kernel)) ggX6_buysOf_X6_wantsOf
set_option maxRecDepth 20000 in
theorem ggX6_buysOf_X6_its : GoodIn wsX6_buysOf wsX6_its := goodIn_r _ [10, 1, 11, 12, 5, 13, 17, 18, 19, 20, 21, 22, 23, 24, 25, 26, 27, 28, 29, 30, 31, 32] (by decide +kernel) (by decide +kernel)
set_option maxRecDepth 20000 in
theorem gX6_buysOf_X6_its : GoodIn wsX6_buysOf (wsV RX6 81 RX6 yX6_its wsX6_its) := goodIn_app (goodIn_of _ (by decide +kernel)) ggX6_buysOf_X6_its
set_option maxRecDepth 20000 in
theorem ggX6_buysOf_X6_heldTo : GoodIn wsX6_buysOf wsX6_heldTo := goodIn_r _ [16] (by decide +kernel) (by decide +kernel)
set_option maxRecDepth 20000 in
theorem gX6_buysOf_X6_heldTo : GoodIn wsX6_buysOf (va_wsS RX6 84 yX6_heldTo wsX6_heldTo) := goodIn_app (goodIn_of _ (by decide +kernel)) ggX6_buysOf_X6_heldTo
theorem dX6_buysOf_0 : decode cX6_buysOf 0 = .ok (.aload_n 0, 1) := by decide +kernel
theorem dX6_buysOf_1 : decode cX6_buysOf 1 = .ok (.iload_n 1, 1) := by decide +kernel
theorem dX6_buysOf_2 : decode cX6_buysOf 2 = .ok (.iload_n 2, 1) := by decide +kernel
theorem dX6_buysOf_3 : decode cX6_buysOf 3 = .ok (.invokevirtual 93, 3) := by decide +kernel
theorem dX6_buysOf_6 : decode cX6_buysOf 6 = .ok (.aload_n 0, 1) := by decide +kernel
theorem dX6_buysOf_7 : decode cX6_buysOf 7 = .ok (.iload_n 1, 1) := by decide +kernel
theorem dX6_buysOf_8 : decode cX6_buysOf 8 = .ok (.iconst 2, 1) := by decide +kernel
theorem dX6_buysOf_9 : decode cX6_buysOf 9 = .ok (.invokevirtual 81, 3) := by decide +kernel
theorem dX6_buysOf_12 : decode cX6_buysOf 12 = .ok (.iconst 2, 1) := by decide +kernel
theorem dX6_buysOf_13 : decode cX6_buysOf 13 = .ok (.idiv, 1) := by decide +kernel
theorem dX6_buysOf_14 : decode cX6_buysOf 14 = .ok (.invokestatic 84, 3) := by decide +kernel
theorem dX6_buysOf_17 : decode cX6_buysOf 17 = .ok (.aload_n 0, 1) := by decide +kernel
theorem dX6_buysOf_18 : decode cX6_buysOf 18 = .ok (.getfield 7, 3) := by decide +kernel
theorem dX6_buysOf_21 : decode cX6_buysOf 21 = .ok (.iconst 3, 1) := by decide +kernel
theorem dX6_buysOf_22 : decode cX6_buysOf 22 = .ok (.iaload, 1) := by decide +kernel
theorem dX6_buysOf_23 : decode cX6_buysOf 23 = .ok (.invokestatic 84, 3) := by decide +kernel
theorem dX6_buysOf_26 : decode cX6_buysOf 26 = .ok (.ireturn, 1) := by decide +kernel
set_option maxRecDepth 20000 in
theorem ggX6_of_X6_isHouse : GoodIn wsX6_of wsX6_isHouse := goodIn_r _ [6, 7, 8, 9, 5, 10] (by decide +kernel) (by decide +kernel)
set_option maxRecDepth 20000 in
theorem gX6_of_X6_isHouse : GoodIn wsX6_of (va_wsS RX6 56 yX6_isHouse wsX6_isHouse) := goodIn_app (goodIn_of _ (by decide +kernel)) ggX6_of_X6_isHouse
set_option maxRecDepth 20000 in
theorem ggX6_of_X6_in : GoodIn wsX6_of wsX6_in := goodIn_r _ [10] (by decide +kernel) (by decide +kernel)
set_option maxRecDepth 20000 in
theorem gX6_of_X6_in : GoodIn wsX6_of (va_wsS RX6 48 yX6_in wsX6_in) := goodIn_app (goodIn_of _ (by decide +kernel)) ggX6_of_X6_in
set_option maxRecDepth 20000 in
theorem ggX6_of_X6_finds : GoodIn wsX6_of wsX6_finds := goodIn_r _ [14, 15, 2, 34, 35, 36, 37, 38, 39, 40, 41, 42, 43, 44, 45, 46, 47, 48, 49] (by decide +kernel) (by decide +kernel)
set_option maxRecDepth 20000 in
theorem gX6_of_X6_finds : GoodIn wsX6_of (wsV RX6 73 RX6 yX6_finds wsX6_finds) := goodIn_app (goodIn_of _ (by decide +kernel)) ggX6_of_X6_finds
set_option maxRecDepth 20000 in
theorem ggX6_of_X6_its : GoodIn wsX6_of wsX6_its := goodIn_r _ [19, 20, 21, 22, 5, 23, 34, 35, 36, 37, 38, 39, 40, 41, 42, 43, 44, 45, 46, 47, 48, 49] (by decide +kernel) (by decide +kernel)
set_option maxRecDepth 20000 in
theorem gX6_of_X6_its : GoodIn wsX6_of (wsV RX6 81 RX6 yX6_its wsX6_its) := goodIn_app (goodIn_of _ (by decide +kernel)) ggX6_of_X6_its
set_option maxRecDepth 20000 in
theorem ggX6_of_X6_toneOf : GoodIn wsX6_of wsX6_toneOf := goodIn_r _ [27, 20, 16, 17, 18, 5, 19, 21, 22, 23, 28, 29, 30, 31, 32, 33, 34, 35, 36, 37, 38, 39, 40, 41, 42, 43, 44, 45, 46, 47, 48, 49] (by decide +kernel) (by decide +kernel)
set_option maxRecDepth 20000 in
theorem gX6_of_X6_toneOf : GoodIn wsX6_of (wsV RX6 90 RX6 yX6_toneOf wsX6_toneOf) := goodIn_app (goodIn_of _ (by decide +kernel)) ggX6_of_X6_toneOf
theorem dX6_of_0 : decode cX6_of 0 = .ok (.iload_n 1, 1) := by decide +kernel
theorem dX6_of_1 : decode cX6_of 1 = .ok (.invokestatic 56, 3) := by decide +kernel
theorem dX6_of_4 : decode cX6_of 4 = .ok (.ifCond .eq 15, 3) := by decide +kernel
theorem dX6_of_7 : decode cX6_of 7 = .ok (.iload_n 2, 1) := by decide +kernel
theorem dX6_of_8 : decode cX6_of 8 = .ok (.i2l, 1) := by decide +kernel
theorem dX6_of_9 : decode cX6_of 9 = .ok (.lconst 0, 1) := by decide +kernel
theorem dX6_of_10 : decode cX6_of 10 = .ok (.ldc2_w 96, 3) := by decide +kernel
theorem dX6_of_13 : decode cX6_of 13 = .ok (.invokestatic 48, 3) := by decide +kernel
theorem dX6_of_16 : decode cX6_of 16 = .ok (.ifCond .ne 10, 3) := by decide +kernel
theorem dX6_of_19 : decode cX6_of 19 = .ok (.aload_n 0, 1) := by decide +kernel
theorem dX6_of_20 : decode cX6_of 20 = .ok (.ldc 45, 2) := by decide +kernel
theorem dX6_of_22 : decode cX6_of 22 = .ok (.invokevirtual 73, 3) := by decide +kernel
theorem dX6_of_25 : decode cX6_of 25 = .ok (.ireturn, 1) := by decide +kernel
theorem dX6_of_26 : decode cX6_of 26 = .ok (.iload_n 2, 1) := by decide +kernel
theorem dX6_of_27 : decode cX6_of 27 = .ok (.iconst 3, 1) := by decide +kernel
theorem dX6_of_28 : decode cX6_of 28 = .ok (.if_icmp .gt 12, 3) := by decide +kernel
theorem dX6_of_31 : decode cX6_of 31 = .ok (.aload_n 0, 1) := by decide +kernel
theorem dX6_of_32 : decode cX6_of 32 = .ok (.iload_n 1, 1) := by decide +kernel
theorem dX6_of_33 : decode cX6_of 33 = .ok (.iload_n 2, 1) := by decide +kernel
theorem dX6_of_34 : decode cX6_of 34 = .ok (.invokevirtual 81, 3) := by decide +kernel
theorem dX6_of_37 : decode cX6_of 37 = .ok (.goto 8, 3) := by decide +kernel
theorem dX6_of_40 : decode cX6_of 40 = .ok (.aload_n 0, 1) := by decide +kernel
theorem dX6_of_41 : decode cX6_of 41 = .ok (.iload_n 1, 1) := by decide +kernel
theorem dX6_of_42 : decode cX6_of 42 = .ok (.invokevirtual 90, 3) := by decide +kernel
theorem dX6_of_45 : decode cX6_of 45 = .ok (.ireturn, 1) := by decide +kernel
set_option maxRecDepth 20000 in
theorem ggX6_minds_X6_isHouse : GoodIn wsX6_minds wsX6_isHouse := goodIn_r _ [5, 6, 7, 8, 4, 9] (by decide +kernel) (by decide +kernel)
set_option maxRecDepth 20000 in
theorem gX6_minds_X6_isHouse : GoodIn wsX6_minds (va_wsS RX6 56 yX6_isHouse wsX6_isHouse) := goodIn_app (goodIn_of _ (by decide +kernel)) ggX6_minds_X6_isHouse
set_option maxRecDepth 20000 in
theorem ggX6_minds_X6_isTone : GoodIn wsX6_minds wsX6_isTone := goodIn_r _ [12, 13, 7, 8, 4, 9] (by decide +kernel) (by decide +kernel)
set_option maxRecDepth 20000 in
theorem gX6_minds_X6_isTone : GoodIn wsX6_minds (va_wsS RX6 98 yX6_isTone wsX6_isTone) := goodIn_app (goodIn_of _ (by decide +kernel)) ggX6_minds_X6_isTone
set_option maxRecDepth 20000 in
theorem ggX6_minds_X6_mindsOf : GoodIn wsX6_minds wsX6_mindsOf := goodIn_r _ [17, 18, 19, 20, 4, 21, 22, 23, 24, 25, 26, 27, 28, 29, 30, 31, 32, 33, 34, 35, 41, 42, 43, 44, 45, 46, 47, 48, 49, 50, 51, 52, 53, 54, 55, 56] (by decide +kernel) (by decide +kernel)
set_option maxRecDepth 20000 in
theorem gX6_minds_X6_mindsOf : GoodIn wsX6_minds (wsV RX6 101 RX6 yX6_mindsOf wsX6_mindsOf) := goodIn_app (goodIn_of _ (by decide +kernel)) ggX6_minds_X6_mindsOf
set_option maxRecDepth 20000 in
theorem ggX6_minds_X6_finds : GoodIn wsX6_minds wsX6_finds := goodIn_r _ [39, 40, 1, 41, 42, 43, 44, 45, 46, 47, 48, 49, 50, 51, 52, 53, 54, 55, 56] (by decide +kernel) (by decide +kernel)
set_option maxRecDepth 20000 in
theorem gX6_minds_X6_finds : GoodIn wsX6_minds (wsV RX6 73 RX6 yX6_finds wsX6_finds) := goodIn_app (goodIn_of _ (by decide +kernel)) ggX6_minds_X6_finds
theorem dX6_minds_0 : decode cX6_minds 0 = .ok (.iload_n 1, 1) := by decide +kernel
theorem dX6_minds_1 : decode cX6_minds 1 = .ok (.invokestatic 56, 3) := by decide +kernel
theorem dX6_minds_4 : decode cX6_minds 4 = .ok (.ifCond .eq 22, 3) := by decide +kernel
theorem dX6_minds_7 : decode cX6_minds 7 = .ok (.iload_n 2, 1) := by decide +kernel
theorem dX6_minds_8 : decode cX6_minds 8 = .ok (.invokestatic 98, 3) := by decide +kernel
theorem dX6_minds_11 : decode cX6_minds 11 = .ok (.ifCond .eq 15, 3) := by decide +kernel
theorem dX6_minds_14 : decode cX6_minds 14 = .ok (.bipush 100, 2) := by decide +kernel
theorem dX6_minds_16 : decode cX6_minds 16 = .ok (.aload_n 0, 1) := by decide +kernel
theorem dX6_minds_17 : decode cX6_minds 17 = .ok (.iload_n 1, 1) := by decide +kernel
theorem dX6_minds_18 : decode cX6_minds 18 = .ok (.iload_n 2, 1) := by decide +kernel
theorem dX6_minds_19 : decode cX6_minds 19 = .ok (.invokevirtual 101, 3) := by decide +kernel
theorem dX6_minds_22 : decode cX6_minds 22 = .ok (.iadd, 1) := by decide +kernel
theorem dX6_minds_23 : decode cX6_minds 23 = .ok (.goto 9, 3) := by decide +kernel
theorem dX6_minds_26 : decode cX6_minds 26 = .ok (.aload_n 0, 1) := by decide +kernel
theorem dX6_minds_27 : decode cX6_minds 27 = .ok (.ldc 45, 2) := by decide +kernel
theorem dX6_minds_29 : decode cX6_minds 29 = .ok (.invokevirtual 73, 3) := by decide +kernel
theorem dX6_minds_32 : decode cX6_minds 32 = .ok (.ireturn, 1) := by decide +kernel
set_option maxRecDepth 20000 in
theorem ggX6_buys_X6_isHouse : GoodIn wsX6_buys wsX6_isHouse := goodIn_r _ [5, 6, 7, 8, 4, 9] (by decide +kernel) (by decide +kernel)
set_option maxRecDepth 20000 in
theorem gX6_buys_X6_isHouse : GoodIn wsX6_buys (va_wsS RX6 56 yX6_isHouse wsX6_isHouse) := goodIn_app (goodIn_of _ (by decide +kernel)) ggX6_buys_X6_isHouse
set_option maxRecDepth 20000 in
theorem ggX6_buys_X6_isTone : GoodIn wsX6_buys wsX6_isTone := goodIn_r _ [12, 13, 7, 8, 4, 9] (by decide +kernel) (by decide +kernel)
set_option maxRecDepth 20000 in
theorem gX6_buys_X6_isTone : GoodIn wsX6_buys (va_wsS RX6 98 yX6_isTone wsX6_isTone) := goodIn_app (goodIn_of _ (by decide +kernel)) ggX6_buys_X6_isTone
set_option maxRecDepth 20000 in
theorem ggX6_buys_X6_buysOf : GoodIn wsX6_buys wsX6_buysOf := goodIn_r _ [17, 18, 19, 20, 21, 4, 22, 23, 24, 25, 26, 27, 28, 29, 30, 31, 32, 38, 39, 40, 41, 42, 43, 44, 45, 46, 47, 48, 49, 50, 51, 52, 53] (by decide +kernel) (by decide +kernel)
set_option maxRecDepth 20000 in
theorem gX6_buys_X6_buysOf : GoodIn wsX6_buys (wsV RX6 104 RX6 yX6_buysOf wsX6_buysOf) := goodIn_app (goodIn_of _ (by decide +kernel)) ggX6_buys_X6_buysOf
set_option maxRecDepth 20000 in
theorem ggX6_buys_X6_finds : GoodIn wsX6_buys wsX6_finds := goodIn_r _ [36, 37, 1, 38, 39, 40, 41, 42, 43, 44, 45, 46, 47, 48, 49, 50, 51, 52, 53] (by decide +kernel) (by decide +kernel)
set_option maxRecDepth 20000 in
theorem gX6_buys_X6_finds : GoodIn wsX6_buys (wsV RX6 73 RX6 yX6_finds wsX6_finds) := goodIn_app (goodIn_of _ (by decide +kernel)) ggX6_buys_X6_finds
theorem dX6_buys_0 : decode cX6_buys 0 = .ok (.iload_n 1, 1) := by decide +kernel
theorem dX6_buys_1 : decode cX6_buys 1 = .ok (.invokestatic 56, 3) := by decide +kernel
theorem dX6_buys_4 : decode cX6_buys 4 = .ok (.ifCond .eq 19, 3) := by decide +kernel
theorem dX6_buys_7 : decode cX6_buys 7 = .ok (.iload_n 2, 1) := by decide +kernel
theorem dX6_buys_8 : decode cX6_buys 8 = .ok (.invokestatic 98, 3) := by decide +kernel
theorem dX6_buys_11 : decode cX6_buys 11 = .ok (.ifCond .eq 12, 3) := by decide +kernel
theorem dX6_buys_14 : decode cX6_buys 14 = .ok (.aload_n 0, 1) := by decide +kernel
theorem dX6_buys_15 : decode cX6_buys 15 = .ok (.iload_n 1, 1) := by decide +kernel
theorem dX6_buys_16 : decode cX6_buys 16 = .ok (.iload_n 2, 1) := by decide +kernel
theorem dX6_buys_17 : decode cX6_buys 17 = .ok (.invokevirtual 104, 3) := by decide +kernel
theorem dX6_buys_20 : decode cX6_buys 20 = .ok (.goto 9, 3) := by decide +kernel
theorem dX6_buys_23 : decode cX6_buys 23 = .ok (.aload_n 0, 1) := by decide +kernel
theorem dX6_buys_24 : decode cX6_buys 24 = .ok (.ldc 45, 2) := by decide +kernel
theorem dX6_buys_26 : decode cX6_buys 26 = .ok (.invokevirtual 73, 3) := by decide +kernel
theorem dX6_buys_29 : decode cX6_buys 29 = .ok (.ireturn, 1) := by decide +kernel
set_option maxRecDepth 20000 in
theorem ggX6_set_X6_in : GoodIn wsX6_set wsX6_in := goodIn_r _ [9] (by decide +kernel) (by decide +kernel)
set_option maxRecDepth 20000 in
theorem gX6_set_X6_in : GoodIn wsX6_set (va_wsS RX6 48 yX6_in wsX6_in) := goodIn_app (goodIn_of _ (by decide +kernel)) ggX6_set_X6_in
set_option maxRecDepth 20000 in
theorem ggX6_set_X6_isHouse : GoodIn wsX6_set wsX6_isHouse := goodIn_r _ [12, 13, 6, 7, 8, 9] (by decide +kernel) (by decide +kernel)
set_option maxRecDepth 20000 in
theorem gX6_set_X6_isHouse : GoodIn wsX6_set (va_wsS RX6 56 yX6_isHouse wsX6_isHouse) := goodIn_app (goodIn_of _ (by decide +kernel)) ggX6_set_X6_isHouse
set_option maxRecDepth 20000 in
theorem ggX6_set_X6_spotOf : GoodIn wsX6_set wsX6_spotOf := goodIn_r _ [16] (by decide +kernel) (by decide +kernel)
set_option maxRecDepth 20000 in
theorem gX6_set_X6_spotOf : GoodIn wsX6_set (va_wsS RX6 41 yX6_spotOf wsX6_spotOf) := goodIn_app (goodIn_of _ (by decide +kernel)) ggX6_set_X6_spotOf
set_option maxRecDepth 20000 in
theorem ggX6_set_X6_becomes : GoodIn wsX6_set wsX6_becomes := goodIn_r _ [20, 21, 27, 28, 29, 30, 31, 32, 33, 34, 35, 36, 37, 38, 39, 40, 41, 42] (by decide +kernel) (by decide +kernel)
set_option maxRecDepth 20000 in
theorem gX6_set_X6_becomes : GoodIn wsX6_set (wsV RX6 70 RX6 yX6_becomes wsX6_becomes) := goodIn_app (goodIn_of _ (by decide +kernel)) ggX6_set_X6_becomes
set_option maxRecDepth 20000 in
theorem ggX6_set_X6_finds : GoodIn wsX6_set wsX6_finds := goodIn_r _ [25, 26, 5, 27, 28, 29, 30, 31, 32, 33, 34, 35, 36, 37, 38, 39, 40, 41, 42] (by decide +kernel) (by decide +kernel)
set_option maxRecDepth 20000 in
theorem gX6_set_X6_finds : GoodIn wsX6_set (wsV RX6 73 RX6 yX6_finds wsX6_finds) := goodIn_app (goodIn_of _ (by decide +kernel)) ggX6_set_X6_finds
theorem dX6_set_0 : decode cX6_set 0 = .ok (.iload_n 2, 1) := by decide +kernel
theorem dX6_set_1 : decode cX6_set 1 = .ok (.i2l, 1) := by decide +kernel
theorem dX6_set_2 : decode cX6_set 2 = .ok (.lconst 1, 1) := by decide +kernel
