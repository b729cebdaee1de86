theorem inX0 : ∀ w ∈ wsX00, w ∈ lw_tbl := by decide +kernel
theorem inlX1 : ∀ w ∈ wsX10, w ∈ wsL_law := fun _ h => List.mem_append_left _ (List.mem_append_right _ h)
theorem inX1 : ∀ w ∈ wsX10, w ∈ lw_tbl := fun w h => wsL_law_in w (inlX1 w h)
theorem inlX2 : ∀ w ∈ wsX20, w ∈ wsL_law := fun _ h => List.mem_append_left _ (List.mem_append_left _ (List.mem_append_left _ (List.mem_append_right _ h)))
theorem inX2 : ∀ w ∈ wsX20, w ∈ lw_tbl := fun w h => wsL_law_in w (inlX2 w h)
theorem inlX3 : ∀ w ∈ wsX30, w ∈ wsL_law := fun _ h => List.mem_append_left _ (List.mem_append_left _ (List.mem_append_left _ (List.mem_append_left _ (List.mem_append_right _ h))))
theorem inX3 : ∀ w ∈ wsX30, w ∈ lw_tbl := fun w h => wsL_law_in w (inlX3 w h)
theorem inlX4 : ∀ w ∈ wsX40, w ∈ wsL_law := fun _ h => List.mem_append_left _ (List.mem_append_left _ (List.mem_append_right _ h))
theorem inX4 : ∀ w ∈ wsX40, w ∈ lw_tbl := fun w h => wsL_law_in w (inlX4 w h)
theorem inlX5 : ∀ w ∈ wsX50, w ∈ wsL_law := fun _ h => List.mem_append_left _ (List.mem_append_left _ (List.mem_append_left _ (List.mem_append_left _ (List.mem_append_left _ (List.mem_append_left _ (List.mem_append_right _ h))))))
theorem inX5 : ∀ w ∈ wsX50, w ∈ lw_tbl := fun w h => wsL_law_in w (inlX5 w h)
theorem inlX6 : ∀ w ∈ wsX60, w ∈ wsL_law := fun _ h => List.mem_append_left _ (List.mem_append_left _ (List.mem_append_left _ (List.mem_append_left _ (List.mem_append_left _ (List.mem_append_right _ h)))))
theorem inX6 : ∀ w ∈ wsX60, w ∈ lw_tbl := fun w h => wsL_law_in w (inlX6 w h)
theorem inJx145de : ∀ w ∈ wsJx145de0, w ∈ lw_tbl := by decide +kernel
theorem inJx9f9b0 : ∀ w ∈ wsJx9f9b00, w ∈ lw_tbl := by decide +kernel
theorem inJxb160c : ∀ w ∈ wsJxb160c0, w ∈ lw_tbl := by decide +kernel
theorem inJ9 : ∀ w ∈ wsJ90, w ∈ lw_tbl := by decide +kernel
theorem inJ0 : ∀ w ∈ wsJ00, w ∈ lw_tbl := by decide +kernel
theorem inJ1 : ∀ w ∈ wsJ10, w ∈ lw_tbl := by decide +kernel
theorem inJ2 : ∀ w ∈ wsJ20, w ∈ lw_tbl := by decide +kernel
theorem inJ10 : ∀ w ∈ wsJ100, w ∈ lw_tbl := by decide +kernel
theorem inJxfd54e : ∀ w ∈ wsJxfd54e0, w ∈ lw_tbl := by decide +kernel
theorem inJx3cf43 : ∀ w ∈ wsJx3cf430, w ∈ lw_tbl := by decide +kernel
theorem inJ7 : ∀ w ∈ wsJ70, w ∈ lw_tbl := by decide +kernel
theorem inJ3 : ∀ w ∈ wsJ30, w ∈ lw_tbl := by decide +kernel
set_option maxRecDepth 20000 in
theorem ggX0_isKind_X5_isWithin : GoodIn wsX0_isKind wsX5_isWithin := goodIn_r _ [3] (by decide +kernel) (by decide +kernel)
set_option maxRecDepth 20000 in
theorem gX0_isKind_X5_isWithin_n9 : GoodIn wsX0_isKind (wsX5_isWithin) := ggX0_isKind_X5_isWithin
theorem dX0_isKind_0 : decode cX0_isKind 0 = .ok (.iload_n 0, 1) := by decide +kernel
theorem dX0_isKind_1 : decode cX0_isKind 1 = .ok (.iconst 0, 1) := by decide +kernel
theorem dX0_isKind_2 : decode cX0_isKind 2 = .ok (.iconst 5, 1) := by decide +kernel
theorem dX0_isKind_3 : decode cX0_isKind 3 = .ok (.invokestatic 9, 3) := by decide +kernel
theorem dX0_isKind_6 : decode cX0_isKind 6 = .ok (.ireturn, 1) := by decide +kernel
theorem dX0_above_0 : decode cX0_above 0 = .ok (.iload_n 0, 1) := by decide +kernel
theorem dX0_above_1 : decode cX0_above 1 = .ok (.tableswitch 41 1 5 #[35, 35, 35, 37, 39], 35) := by decide +kernel
theorem dX0_above_36 : decode cX0_above 36 = .ok (.iconst 0, 1) := by decide +kernel
theorem dX0_above_37 : decode cX0_above 37 = .ok (.ireturn, 1) := by decide +kernel
theorem dX0_above_38 : decode cX0_above 38 = .ok (.iconst 1, 1) := by decide +kernel
theorem dX0_above_39 : decode cX0_above 39 = .ok (.ireturn, 1) := by decide +kernel
theorem dX0_above_40 : decode cX0_above 40 = .ok (.iconst 2, 1) := by decide +kernel
theorem dX0_above_41 : decode cX0_above 41 = .ok (.ireturn, 1) := by decide +kernel
theorem dX0_above_42 : decode cX0_above 42 = .ok (.iconst (-1), 1) := by decide +kernel
theorem dX0_above_43 : decode cX0_above 43 = .ok (.ireturn, 1) := by decide +kernel
set_option maxRecDepth 20000 in
theorem ggX0_isOneOf_X0_above : GoodIn wsX0_isOneOf wsX0_above := goodIn_r _ [4] (by decide +kernel) (by decide +kernel)
set_option maxRecDepth 20000 in
theorem gX0_isOneOf_X0_above : GoodIn wsX0_isOneOf (va_wsS RX0 15 yX0_above wsX0_above) := goodIn_app (goodIn_of _ (by decide +kernel)) ggX0_isOneOf_X0_above
theorem dX0_isOneOf_0 : decode cX0_isOneOf 0 = .ok (.iload_n 0, 1) := by decide +kernel
theorem dX0_isOneOf_1 : decode cX0_isOneOf 1 = .ok (.istore_n 2, 1) := by decide +kernel
theorem dX0_isOneOf_2 : decode cX0_isOneOf 2 = .ok (.iconst 0, 1) := by decide +kernel
theorem dX0_isOneOf_3 : decode cX0_isOneOf 3 = .ok (.istore_n 3, 1) := by decide +kernel
theorem dX0_isOneOf_4 : decode cX0_isOneOf 4 = .ok (.iload_n 3, 1) := by decide +kernel
theorem dX0_isOneOf_5 : decode cX0_isOneOf 5 = .ok (.bipush 6, 2) := by decide +kernel
theorem dX0_isOneOf_7 : decode cX0_isOneOf 7 = .ok (.if_icmp .ge 26, 3) := by decide +kernel
theorem dX0_isOneOf_10 : decode cX0_isOneOf 10 = .ok (.iload_n 2, 1) := by decide +kernel
theorem dX0_isOneOf_11 : decode cX0_isOneOf 11 = .ok (.iconst (-1), 1) := by decide +kernel
theorem dX0_isOneOf_12 : decode cX0_isOneOf 12 = .ok (.if_icmp .eq 21, 3) := by decide +kernel
theorem dX0_isOneOf_15 : decode cX0_isOneOf 15 = .ok (.iload_n 2, 1) := by decide +kernel
theorem dX0_isOneOf_16 : decode cX0_isOneOf 16 = .ok (.iload_n 1, 1) := by decide +kernel
theorem dX0_isOneOf_17 : decode cX0_isOneOf 17 = .ok (.if_icmp .ne 5, 3) := by decide +kernel
theorem dX0_isOneOf_20 : decode cX0_isOneOf 20 = .ok (.iconst 1, 1) := by decide +kernel
theorem dX0_isOneOf_21 : decode cX0_isOneOf 21 = .ok (.ireturn, 1) := by decide +kernel
theorem dX0_isOneOf_22 : decode cX0_isOneOf 22 = .ok (.iload_n 2, 1) := by decide +kernel
theorem dX0_isOneOf_23 : decode cX0_isOneOf 23 = .ok (.invokestatic 15, 3) := by decide +kernel
theorem dX0_isOneOf_26 : decode cX0_isOneOf 26 = .ok (.istore_n 2, 1) := by decide +kernel
theorem dX0_isOneOf_27 : decode cX0_isOneOf 27 = .ok (.iinc 3 1, 3) := by decide +kernel
theorem dX0_isOneOf_30 : decode cX0_isOneOf 30 = .ok (.goto (-26), 3) := by decide +kernel
theorem dX0_isOneOf_33 : decode cX0_isOneOf 33 = .ok (.iconst 0, 1) := by decide +kernel
theorem dX0_isOneOf_34 : decode cX0_isOneOf 34 = .ok (.ireturn, 1) := by decide +kernel
theorem dX0_tone_0 : decode cX0_tone 0 = .ok (.iload_n 1, 1) := by decide +kernel
theorem dX0_tone_1 : decode cX0_tone 1 = .ok (.iconst 3, 1) := by decide +kernel
theorem dX0_tone_2 : decode cX0_tone 2 = .ok (.idiv, 1) := by decide +kernel
theorem dX0_tone_3 : decode cX0_tone 3 = .ok (.istore_n 3, 1) := by decide +kernel
theorem dX0_tone_4 : decode cX0_tone 4 = .ok (.iload_n 3, 1) := by decide +kernel
theorem dX0_tone_5 : decode cX0_tone 5 = .ok (.bipush 6, 2) := by decide +kernel
theorem dX0_tone_7 : decode cX0_tone 7 = .ok (.if_icmp .ge 9, 3) := by decide +kernel
theorem dX0_tone_10 : decode cX0_tone 10 = .ok (.iload_n 3, 1) := by decide +kernel
theorem dX0_tone_11 : decode cX0_tone 11 = .ok (.iconst 1, 1) := by decide +kernel
theorem dX0_tone_12 : decode cX0_tone 12 = .ok (.iadd, 1) := by decide +kernel
theorem dX0_tone_13 : decode cX0_tone 13 = .ok (.goto 5, 3) := by decide +kernel
theorem dX0_tone_16 : decode cX0_tone 16 = .ok (.bipush 6, 2) := by decide +kernel
theorem dX0_tone_18 : decode cX0_tone 18 = .ok (.istore 4, 2) := by decide +kernel
theorem dX0_tone_20 : decode cX0_tone 20 = .ok (.iload_n 3, 1) := by decide +kernel
theorem dX0_tone_21 : decode cX0_tone 21 = .ok (.iconst 2, 1) := by decide +kernel
theorem dX0_tone_22 : decode cX0_tone 22 = .ok (.if_icmp .le 9, 3) := by decide +kernel
theorem dX0_tone_25 : decode cX0_tone 25 = .ok (.iload_n 3, 1) := by decide +kernel
theorem dX0_tone_26 : decode cX0_tone 26 = .ok (.iconst 2, 1) := by decide +kernel
theorem dX0_tone_27 : decode cX0_tone 27 = .ok (.isub, 1) := by decide +kernel
theorem dX0_tone_28 : decode cX0_tone 28 = .ok (.goto 4, 3) := by decide +kernel
theorem dX0_tone_31 : decode cX0_tone 31 = .ok (.iconst 0, 1) := by decide +kernel
theorem dX0_tone_32 : decode cX0_tone 32 = .ok (.istore 5, 2) := by decide +kernel
theorem dX0_tone_34 : decode cX0_tone 34 = .ok (.iload_n 0, 1) := by decide +kernel
theorem dX0_tone_35 : decode cX0_tone 35 = .ok (.tableswitch 68 1 5 #[33, 36, 39, 41, 55], 33) := by decide +kernel
theorem dX0_tone_68 : decode cX0_tone 68 = .ok (.iload 4, 2) := by decide +kernel
theorem dX0_tone_70 : decode cX0_tone 70 = .ok (.ireturn, 1) := by decide +kernel
theorem dX0_tone_71 : decode cX0_tone 71 = .ok (.iload 5, 2) := by decide +kernel
theorem dX0_tone_73 : decode cX0_tone 73 = .ok (.ireturn, 1) := by decide +kernel
theorem dX0_tone_74 : decode cX0_tone 74 = .ok (.iconst 3, 1) := by decide +kernel
theorem dX0_tone_75 : decode cX0_tone 75 = .ok (.ireturn, 1) := by decide +kernel
theorem dX0_tone_76 : decode cX0_tone 76 = .ok (.iload_n 2, 1) := by decide +kernel
theorem dX0_tone_77 : decode cX0_tone 77 = .ok (.iconst 3, 1) := by decide +kernel
theorem dX0_tone_78 : decode cX0_tone 78 = .ok (.irem, 1) := by decide +kernel
theorem dX0_tone_79 : decode cX0_tone 79 = .ok (.iconst 1, 1) := by decide +kernel
theorem dX0_tone_80 : decode cX0_tone 80 = .ok (.if_icmp .ne 7, 3) := by decide +kernel
theorem dX0_tone_83 : decode cX0_tone 83 = .ok (.iconst 0, 1) := by decide +kernel
theorem dX0_tone_84 : decode cX0_tone 84 = .ok (.goto 5, 3) := by decide +kernel
theorem dX0_tone_87 : decode cX0_tone 87 = .ok (.iload 4, 2) := by decide +kernel
theorem dX0_tone_89 : decode cX0_tone 89 = .ok (.ireturn, 1) := by decide +kernel
theorem dX0_tone_90 : decode cX0_tone 90 = .ok (.iload_n 1, 1) := by decide +kernel
theorem dX0_tone_91 : decode cX0_tone 91 = .ok (.bipush 12, 2) := by decide +kernel
theorem dX0_tone_93 : decode cX0_tone 93 = .ok (.if_icmp .ge 7, 3) := by decide +kernel
theorem dX0_tone_96 : decode cX0_tone 96 = .ok (.iconst 0, 1) := by decide +kernel
theorem dX0_tone_97 : decode cX0_tone 97 = .ok (.goto 5, 3) := by decide +kernel
theorem dX0_tone_100 : decode cX0_tone 100 = .ok (.iload 5, 2) := by decide +kernel
theorem dX0_tone_102 : decode cX0_tone 102 = .ok (.ireturn, 1) := by decide +kernel
theorem dX0_tone_103 : decode cX0_tone 103 = .ok (.iload_n 3, 1) := by decide +kernel
theorem dX0_tone_104 : decode cX0_tone 104 = .ok (.ireturn, 1) := by decide +kernel
theorem dX0_minding_0 : decode cX0_minding 0 = .ok (.iload_n 1, 1) := by decide +kernel
theorem dX0_minding_1 : decode cX0_minding 1 = .ok (.iload_n 2, 1) := by decide +kernel
theorem dX0_minding_2 : decode cX0_minding 2 = .ok (.if_icmp .le 7, 3) := by decide +kernel
theorem dX0_minding_5 : decode cX0_minding 5 = .ok (.iconst 1, 1) := by decide +kernel
theorem dX0_minding_6 : decode cX0_minding 6 = .ok (.goto 13, 3) := by decide +kernel
theorem dX0_minding_9 : decode cX0_minding 9 = .ok (.iload_n 1, 1) := by decide +kernel
theorem dX0_minding_10 : decode cX0_minding 10 = .ok (.iload_n 2, 1) := by decide +kernel
theorem dX0_minding_11 : decode cX0_minding 11 = .ok (.if_icmp .ge 7, 3) := by decide +kernel
theorem dX0_minding_14 : decode cX0_minding 14 = .ok (.iconst (-1), 1) := by decide +kernel
theorem dX0_minding_15 : decode cX0_minding 15 = .ok (.goto 4, 3) := by decide +kernel
theorem dX0_minding_18 : decode cX0_minding 18 = .ok (.iconst 0, 1) := by decide +kernel
theorem dX0_minding_19 : decode cX0_minding 19 = .ok (.istore_n 3, 1) := by decide +kernel
theorem dX0_minding_20 : decode cX0_minding 20 = .ok (.iload_n 1, 1) := by decide +kernel
theorem dX0_minding_21 : decode cX0_minding 21 = .ok (.iconst 3, 1) := by decide +kernel
theorem dX0_minding_22 : decode cX0_minding 22 = .ok (.if_icmp .le 9, 3) := by decide +kernel
theorem dX0_minding_25 : decode cX0_minding 25 = .ok (.iload_n 3, 1) := by decide +kernel
theorem dX0_minding_26 : decode cX0_minding 26 = .ok (.iconst 1, 1) := by decide +kernel
theorem dX0_minding_27 : decode cX0_minding 27 = .ok (.iadd, 1) := by decide +kernel
theorem dX0_minding_28 : decode cX0_minding 28 = .ok (.goto 4, 3) := by decide +kernel
theorem dX0_minding_31 : decode cX0_minding 31 = .ok (.iload_n 3, 1) := by decide +kernel
theorem dX0_minding_32 : decode cX0_minding 32 = .ok (.istore 4, 2) := by decide +kernel
theorem dX0_minding_34 : decode cX0_minding 34 = .ok (.iload_n 0, 1) := by decide +kernel
theorem dX0_minding_35 : decode cX0_minding 35 = .ok (.tableswitch 67 1 5 #[33, 36, 38, 52, 57], 33) := by decide +kernel
theorem dX0_minding_68 : decode cX0_minding 68 = .ok (.iload 4, 2) := by decide +kernel
theorem dX0_minding_70 : decode cX0_minding 70 = .ok (.ireturn, 1) := by decide +kernel
theorem dX0_minding_71 : decode cX0_minding 71 = .ok (.iconst (-1), 1) := by decide +kernel
theorem dX0_minding_72 : decode cX0_minding 72 = .ok (.ireturn, 1) := by decide +kernel
theorem dX0_minding_73 : decode cX0_minding 73 = .ok (.iload_n 1, 1) := by decide +kernel
theorem dX0_minding_74 : decode cX0_minding 74 = .ok (.iconst 2, 1) := by decide +kernel
theorem dX0_minding_75 : decode cX0_minding 75 = .ok (.irem, 1) := by decide +kernel
theorem dX0_minding_76 : decode cX0_minding 76 = .ok (.iconst 1, 1) := by decide +kernel
theorem dX0_minding_77 : decode cX0_minding 77 = .ok (.if_icmp .ne 8, 3) := by decide +kernel
theorem dX0_minding_80 : decode cX0_minding 80 = .ok (.bipush (-2), 2) := by decide +kernel
theorem dX0_minding_82 : decode cX0_minding 82 = .ok (.goto 4, 3) := by decide +kernel
theorem dX0_minding_85 : decode cX0_minding 85 = .ok (.iconst 1, 1) := by decide +kernel
theorem dX0_minding_86 : decode cX0_minding 86 = .ok (.ireturn, 1) := by decide +kernel
theorem dX0_minding_87 : decode cX0_minding 87 = .ok (.iconst 2, 1) := by decide +kernel
theorem dX0_minding_88 : decode cX0_minding 88 = .ok (.iload 4, 2) := by decide +kernel
theorem dX0_minding_90 : decode cX0_minding 90 = .ok (.imul, 1) := by decide +kernel
theorem dX0_minding_91 : decode cX0_minding 91 = .ok (.ireturn, 1) := by decide +kernel
theorem dX0_minding_92 : decode cX0_minding 92 = .ok (.iload_n 1, 1) := by decide +kernel
theorem dX0_minding_93 : decode cX0_minding 93 = .ok (.ifCond .ne 7, 3) := by decide +kernel
theorem dX0_minding_96 : decode cX0_minding 96 = .ok (.iconst 0, 1) := by decide +kernel
theorem dX0_minding_97 : decode cX0_minding 97 = .ok (.goto 4, 3) := by decide +kernel
theorem dX0_minding_100 : decode cX0_minding 100 = .ok (.iconst (-1), 1) := by decide +kernel
theorem dX0_minding_101 : decode cX0_minding 101 = .ok (.ireturn, 1) := by decide +kernel
theorem dX0_minding_102 : decode cX0_minding 102 = .ok (.iload_n 3, 1) := by decide +kernel
theorem dX0_minding_103 : decode cX0_minding 103 = .ok (.ireturn, 1) := by decide +kernel
theorem dX0_wanting_0 : decode cX0_wanting 0 = .ok (.iconst 1, 1) := by decide +kernel
theorem dX0_wanting_1 : decode cX0_wanting 1 = .ok (.istore_n 2, 1) := by decide +kernel
theorem dX0_wanting_2 : decode cX0_wanting 2 = .ok (.iload_n 1, 1) := by decide +kernel
theorem dX0_wanting_3 : decode cX0_wanting 3 = .ok (.iconst 4, 1) := by decide +kernel
theorem dX0_wanting_4 : decode cX0_wanting 4 = .ok (.if_icmp .le 9, 3) := by decide +kernel
theorem dX0_wanting_7 : decode cX0_wanting 7 = .ok (.iload_n 2, 1) := by decide +kernel
theorem dX0_wanting_8 : decode cX0_wanting 8 = .ok (.iconst 1, 1) := by decide +kernel
theorem dX0_wanting_9 : decode cX0_wanting 9 = .ok (.iadd, 1) := by decide +kernel
theorem dX0_wanting_10 : decode cX0_wanting 10 = .ok (.goto 4, 3) := by decide +kernel
theorem dX0_wanting_13 : decode cX0_wanting 13 = .ok (.iload_n 2, 1) := by decide +kernel
theorem dX0_wanting_14 : decode cX0_wanting 14 = .ok (.istore_n 3, 1) := by decide +kernel
theorem dX0_wanting_15 : decode cX0_wanting 15 = .ok (.iload_n 1, 1) := by decide +kernel
theorem dX0_wanting_16 : decode cX0_wanting 16 = .ok (.iconst 2, 1) := by decide +kernel
theorem dX0_wanting_17 : decode cX0_wanting 17 = .ok (.if_icmp .ge 7, 3) := by decide +kernel
theorem dX0_wanting_20 : decode cX0_wanting 20 = .ok (.iconst 3, 1) := by decide +kernel
theorem dX0_wanting_21 : decode cX0_wanting 21 = .ok (.goto 4, 3) := by decide +kernel
theorem dX0_wanting_24 : decode cX0_wanting 24 = .ok (.iload_n 2, 1) := by decide +kernel
theorem dX0_wanting_25 : decode cX0_wanting 25 = .ok (.istore 4, 2) := by decide +kernel
theorem dX0_wanting_27 : decode cX0_wanting 27 = .ok (.iload_n 0, 1) := by decide +kernel
theorem dX0_wanting_28 : decode cX0_wanting 28 = .ok (.tableswitch 63 1 5 #[36, 38, 41, 54, 58], 36) := by decide +kernel
theorem dX0_wanting_64 : decode cX0_wanting 64 = .ok (.iload_n 3, 1) := by decide +kernel
theorem dX0_wanting_65 : decode cX0_wanting 65 = .ok (.ireturn, 1) := by decide +kernel
theorem dX0_wanting_66 : decode cX0_wanting 66 = .ok (.iload 4, 2) := by decide +kernel
theorem dX0_wanting_68 : decode cX0_wanting 68 = .ok (.ireturn, 1) := by decide +kernel
theorem dX0_wanting_69 : decode cX0_wanting 69 = .ok (.iload_n 1, 1) := by decide +kernel
theorem dX0_wanting_70 : decode cX0_wanting 70 = .ok (.iconst 2, 1) := by decide +kernel
theorem dX0_wanting_71 : decode cX0_wanting 71 = .ok (.irem, 1) := by decide +kernel
theorem dX0_wanting_72 : decode cX0_wanting 72 = .ok (.iconst 1, 1) := by decide +kernel
theorem dX0_wanting_73 : decode cX0_wanting 73 = .ok (.if_icmp .ne 7, 3) := by decide +kernel
theorem dX0_wanting_76 : decode cX0_wanting 76 = .ok (.iconst 0, 1) := by decide +kernel
theorem dX0_wanting_77 : decode cX0_wanting 77 = .ok (.goto 4, 3) := by decide +kernel
theorem dX0_wanting_80 : decode cX0_wanting 80 = .ok (.iload_n 2, 1) := by decide +kernel
theorem dX0_wanting_81 : decode cX0_wanting 81 = .ok (.ireturn, 1) := by decide +kernel
theorem dX0_wanting_82 : decode cX0_wanting 82 = .ok (.iload_n 3, 1) := by decide +kernel
theorem dX0_wanting_83 : decode cX0_wanting 83 = .ok (.iconst 1, 1) := by decide +kernel
theorem dX0_wanting_84 : decode cX0_wanting 84 = .ok (.iadd, 1) := by decide +kernel
theorem dX0_wanting_85 : decode cX0_wanting 85 = .ok (.ireturn, 1) := by decide +kernel
theorem dX0_wanting_86 : decode cX0_wanting 86 = .ok (.iconst 2, 1) := by decide +kernel
theorem dX0_wanting_87 : decode cX0_wanting 87 = .ok (.iload 4, 2) := by decide +kernel
theorem dX0_wanting_89 : decode cX0_wanting 89 = .ok (.imul, 1) := by decide +kernel
theorem dX0_wanting_90 : decode cX0_wanting 90 = .ok (.ireturn, 1) := by decide +kernel
theorem dX0_wanting_91 : decode cX0_wanting 91 = .ok (.iload_n 2, 1) := by decide +kernel
theorem dX0_wanting_92 : decode cX0_wanting 92 = .ok (.ireturn, 1) := by decide +kernel
theorem dX1_init_0 : decode cX1_init 0 = .ok (.aload_n 0, 1) := by decide +kernel
theorem dX1_init_1 : decode cX1_init 1 = .ok (.invokespecial 3, 3) := by decide +kernel
theorem dX1_init_4 : decode cX1_init 4 = .ok (.aload_n 0, 1) := by decide +kernel
theorem dX1_init_5 : decode cX1_init 5 = .ok (.iconst 0, 1) := by decide +kernel
theorem dX1_init_6 : decode cX1_init 6 = .ok (.putfield 11, 3) := by decide +kernel
theorem dX1_init_9 : decode cX1_init 9 = .ok (.aload_n 0, 1) := by decide +kernel
theorem dX1_init_10 : decode cX1_init 10 = .ok (.iconst 0, 1) := by decide +kernel
theorem dX1_init_11 : decode cX1_init 11 = .ok (.putfield 15, 3) := by decide +kernel
theorem dX1_init_14 : decode cX1_init 14 = .ok (.aload_n 0, 1) := by decide +kernel
theorem dX1_init_15 : decode cX1_init 15 = .ok (.bipush 40, 2) := by decide +kernel
theorem dX1_init_17 : decode cX1_init 17 = .ok (.newarray .long, 2) := by decide +kernel
theorem dX1_init_19 : decode cX1_init 19 = .ok (.putfield 18, 3) := by decide +kernel
theorem dX1_init_22 : decode cX1_init 22 = .ok (.return_, 1) := by decide +kernel
theorem dX1_isMissing_0 : decode cX1_isMissing 0 = .ok (.aload_n 0, 1) := by decide +kernel
theorem dX1_isMissing_1 : decode cX1_isMissing 1 = .ok (.getfield 11, 3) := by decide +kernel
theorem dX1_isMissing_4 : decode cX1_isMissing 4 = .ok (.ifCond .ne 7, 3) := by decide +kernel
theorem dX1_isMissing_7 : decode cX1_isMissing 7 = .ok (.iconst 1, 1) := by decide +kernel
theorem dX1_isMissing_8 : decode cX1_isMissing 8 = .ok (.goto 4, 3) := by decide +kernel
theorem dX1_isMissing_11 : decode cX1_isMissing 11 = .ok (.iconst 0, 1) := by decide +kernel
theorem dX1_isMissing_12 : decode cX1_isMissing 12 = .ok (.ireturn, 1) := by decide +kernel
set_option maxRecDepth 20000 in
theorem ggX1_lay_J7_fill_d0a16 : GoodIn wsX1_lay wsJ7_fill_d0a16 := goodIn_r _ [7] (by decide +kernel) (by decide +kernel)
set_option maxRecDepth 20000 in
theorem gX1_lay_J7_fill_d0a16 : GoodIn wsX1_lay (va_wsS RX1 22 yJ7_fill_d0a16 wsJ7_fill_d0a16) := goodIn_app (goodIn_of _ (by decide +kernel)) ggX1_lay_J7_fill_d0a16
theorem dX1_lay_0 : decode cX1_lay 0 = .ok (.aload_n 0, 1) := by decide +kernel
theorem dX1_lay_1 : decode cX1_lay 1 = .ok (.iload_n 1, 1) := by decide +kernel
theorem dX1_lay_2 : decode cX1_lay 2 = .ok (.putfield 11, 3) := by decide +kernel
theorem dX1_lay_5 : decode cX1_lay 5 = .ok (.aload_n 0, 1) := by decide +kernel
theorem dX1_lay_6 : decode cX1_lay 6 = .ok (.iload_n 1, 1) := by decide +kernel
theorem dX1_lay_7 : decode cX1_lay 7 = .ok (.ifCond .ne 7, 3) := by decide +kernel
theorem dX1_lay_10 : decode cX1_lay 10 = .ok (.iconst 0, 1) := by decide +kernel
theorem dX1_lay_11 : decode cX1_lay 11 = .ok (.goto 4, 3) := by decide +kernel
theorem dX1_lay_14 : decode cX1_lay 14 = .ok (.iload_n 2, 1) := by decide +kernel
theorem dX1_lay_15 : decode cX1_lay 15 = .ok (.putfield 15, 3) := by decide +kernel
theorem dX1_lay_18 : decode cX1_lay 18 = .ok (.aload_n 0, 1) := by decide +kernel
theorem dX1_lay_19 : decode cX1_lay 19 = .ok (.getfield 18, 3) := by decide +kernel
theorem dX1_lay_22 : decode cX1_lay 22 = .ok (.lconst 0, 1) := by decide +kernel
theorem dX1_lay_23 : decode cX1_lay 23 = .ok (.invokestatic 22, 3) := by decide +kernel
theorem dX1_lay_26 : decode cX1_lay 26 = .ok (.return_, 1) := by decide +kernel
theorem dX1_put_0 : decode cX1_put 0 = .ok (.aload_n 0, 1) := by decide +kernel
theorem dX1_put_1 : decode cX1_put 1 = .ok (.getfield 11, 3) := by decide +kernel
theorem dX1_put_4 : decode cX1_put 4 = .ok (.bipush 8, 2) := by decide +kernel
theorem dX1_put_6 : decode cX1_put 6 = .ok (.if_icmp .ne 16, 3) := by decide +kernel
theorem dX1_put_9 : decode cX1_put 9 = .ok (.aload_n 0, 1) := by decide +kernel
theorem dX1_put_10 : decode cX1_put 10 = .ok (.getfield 18, 3) := by decide +kernel
theorem dX1_put_13 : decode cX1_put 13 = .ok (.iload_n 1, 1) := by decide +kernel
theorem dX1_put_14 : decode cX1_put 14 = .ok (.lload_n 2, 1) := by decide +kernel
theorem dX1_put_15 : decode cX1_put 15 = .ok (.l2i, 1) := by decide +kernel
theorem dX1_put_16 : decode cX1_put 16 = .ok (.i2b, 1) := by decide +kernel
theorem dX1_put_17 : decode cX1_put 17 = .ok (.i2l, 1) := by decide +kernel
theorem dX1_put_18 : decode cX1_put 18 = .ok (.lastore, 1) := by decide +kernel
theorem dX1_put_19 : decode cX1_put 19 = .ok (.goto 32, 3) := by decide +kernel
theorem dX1_put_22 : decode cX1_put 22 = .ok (.aload_n 0, 1) := by decide +kernel
theorem dX1_put_23 : decode cX1_put 23 = .ok (.getfield 11, 3) := by decide +kernel
theorem dX1_put_26 : decode cX1_put 26 = .ok (.bipush 16, 2) := by decide +kernel
theorem dX1_put_28 : decode cX1_put 28 = .ok (.if_icmp .ne 16, 3) := by decide +kernel
theorem dX1_put_31 : decode cX1_put 31 = .ok (.aload_n 0, 1) := by decide +kernel
theorem dX1_put_32 : decode cX1_put 32 = .ok (.getfield 18, 3) := by decide +kernel
theorem dX1_put_35 : decode cX1_put 35 = .ok (.iload_n 1, 1) := by decide +kernel
theorem dX1_put_36 : decode cX1_put 36 = .ok (.lload_n 2, 1) := by decide +kernel
theorem dX1_put_37 : decode cX1_put 37 = .ok (.l2i, 1) := by decide +kernel
theorem dX1_put_38 : decode cX1_put 38 = .ok (.i2s, 1) := by decide +kernel
theorem dX1_put_39 : decode cX1_put 39 = .ok (.i2l, 1) := by decide +kernel
theorem dX1_put_40 : decode cX1_put 40 = .ok (.lastore, 1) := by decide +kernel
theorem dX1_put_41 : decode cX1_put 41 = .ok (.goto 10, 3) := by decide +kernel
theorem dX1_put_44 : decode cX1_put 44 = .ok (.aload_n 0, 1) := by decide +kernel
theorem dX1_put_45 : decode cX1_put 45 = .ok (.getfield 18, 3) := by decide +kernel
theorem dX1_put_48 : decode cX1_put 48 = .ok (.iload_n 1, 1) := by decide +kernel
theorem dX1_put_49 : decode cX1_put 49 = .ok (.lload_n 2, 1) := by decide +kernel
theorem dX1_put_50 : decode cX1_put 50 = .ok (.lastore, 1) := by decide +kernel
theorem dX1_put_51 : decode cX1_put 51 = .ok (.return_, 1) := by decide +kernel
theorem dX1_hasSpan_0 : decode cX1_hasSpan 0 = .ok (.iload_n 2, 1) := by decide +kernel
theorem dX1_hasSpan_1 : decode cX1_hasSpan 1 = .ok (.ifCond .lt 29, 3) := by decide +kernel
theorem dX1_hasSpan_4 : decode cX1_hasSpan 4 = .ok (.iload_n 2, 1) := by decide +kernel
theorem dX1_hasSpan_5 : decode cX1_hasSpan 5 = .ok (.aload_n 0, 1) := by decide +kernel
theorem dX1_hasSpan_6 : decode cX1_hasSpan 6 = .ok (.getfield 15, 3) := by decide +kernel
theorem dX1_hasSpan_9 : decode cX1_hasSpan 9 = .ok (.if_icmp .gt 21, 3) := by decide +kernel
theorem dX1_hasSpan_12 : decode cX1_hasSpan 12 = .ok (.iload_n 1, 1) := by decide +kernel
theorem dX1_hasSpan_13 : decode cX1_hasSpan 13 = .ok (.ifCond .lt 17, 3) := by decide +kernel
theorem dX1_hasSpan_16 : decode cX1_hasSpan 16 = .ok (.iload_n 1, 1) := by decide +kernel
theorem dX1_hasSpan_17 : decode cX1_hasSpan 17 = .ok (.aload_n 0, 1) := by decide +kernel
theorem dX1_hasSpan_18 : decode cX1_hasSpan 18 = .ok (.getfield 15, 3) := by decide +kernel
theorem dX1_hasSpan_21 : decode cX1_hasSpan 21 = .ok (.iload_n 2, 1) := by decide +kernel
theorem dX1_hasSpan_22 : decode cX1_hasSpan 22 = .ok (.isub, 1) := by decide +kernel
theorem dX1_hasSpan_23 : decode cX1_hasSpan 23 = .ok (.if_icmp .gt 7, 3) := by decide +kernel
theorem dX1_hasSpan_26 : decode cX1_hasSpan 26 = .ok (.iconst 1, 1) := by decide +kernel
theorem dX1_hasSpan_27 : decode cX1_hasSpan 27 = .ok (.goto 4, 3) := by decide +kernel
theorem dX1_hasSpan_30 : decode cX1_hasSpan 30 = .ok (.iconst 0, 1) := by decide +kernel
theorem dX1_hasSpan_31 : decode cX1_hasSpan 31 = .ok (.ireturn, 1) := by decide +kernel
theorem dX2_init_0 : decode cX2_init 0 = .ok (.aload_n 0, 1) := by decide +kernel
theorem dX2_init_1 : decode cX2_init 1 = .ok (.invokespecial 3, 3) := by decide +kernel
theorem dX2_init_4 : decode cX2_init 4 = .ok (.aload_n 0, 1) := by decide +kernel
theorem dX2_init_5 : decode cX2_init 5 = .ok (.bipush 120, 2) := by decide +kernel
theorem dX2_init_7 : decode cX2_init 7 = .ok (.newarray .int, 2) := by decide +kernel
theorem dX2_init_9 : decode cX2_init 9 = .ok (.putfield 9, 3) := by decide +kernel
theorem dX2_init_12 : decode cX2_init 12 = .ok (.aload_n 0, 1) := by decide +kernel
theorem dX2_init_13 : decode cX2_init 13 = .ok (.iconst 0, 1) := by decide +kernel
theorem dX2_init_14 : decode cX2_init 14 = .ok (.putfield 15, 3) := by decide +kernel
theorem dX2_init_17 : decode cX2_init 17 = .ok (.return_, 1) := by decide +kernel
theorem dX2_take_0 : decode cX2_take 0 = .ok (.bipush 8, 2) := by decide +kernel
theorem dX2_take_2 : decode cX2_take 2 = .ok (.iload_n 2, 1) := by decide +kernel
theorem dX2_take_3 : decode cX2_take 3 = .ok (.iconst 1, 1) := by decide +kernel
theorem dX2_take_4 : decode cX2_take 4 = .ok (.isub, 1) := by decide +kernel
theorem dX2_take_5 : decode cX2_take 5 = .ok (.imul, 1) := by decide +kernel
theorem dX2_take_6 : decode cX2_take 6 = .ok (.istore_n 3, 1) := by decide +kernel
theorem dX2_take_7 : decode cX2_take 7 = .ok (.iload_n 3, 1) := by decide +kernel
theorem dX2_take_8 : decode cX2_take 8 = .ok (.ifCond .lt 35, 3) := by decide +kernel
theorem dX2_take_11 : decode cX2_take 11 = .ok (.aload_n 0, 1) := by decide +kernel
theorem dX2_take_12 : decode cX2_take 12 = .ok (.getfield 9, 3) := by decide +kernel
theorem dX2_take_15 : decode cX2_take 15 = .ok (.aload_n 0, 1) := by decide +kernel
theorem dX2_take_16 : decode cX2_take 16 = .ok (.getfield 15, 3) := by decide +kernel
theorem dX2_take_19 : decode cX2_take 19 = .ok (.iload_n 1, 1) := by decide +kernel
theorem dX2_take_20 : decode cX2_take 20 = .ok (.iload_n 3, 1) := by decide +kernel
theorem dX2_take_21 : decode cX2_take 21 = .ok (.ishr, 1) := by decide +kernel
theorem dX2_take_22 : decode cX2_take 22 = .ok (.sipush 255, 3) := by decide +kernel
theorem dX2_take_25 : decode cX2_take 25 = .ok (.iand, 1) := by decide +kernel
theorem dX2_take_26 : decode cX2_take 26 = .ok (.iastore, 1) := by decide +kernel
theorem dX2_take_27 : decode cX2_take 27 = .ok (.aload_n 0, 1) := by decide +kernel
theorem dX2_take_28 : decode cX2_take 28 = .ok (.dup, 1) := by decide +kernel
theorem dX2_take_29 : decode cX2_take 29 = .ok (.getfield 15, 3) := by decide +kernel
theorem dX2_take_32 : decode cX2_take 32 = .ok (.iconst 1, 1) := by decide +kernel
theorem dX2_take_33 : decode cX2_take 33 = .ok (.iadd, 1) := by decide +kernel
theorem dX2_take_34 : decode cX2_take 34 = .ok (.putfield 15, 3) := by decide +kernel
theorem dX2_take_37 : decode cX2_take 37 = .ok (.iinc 3 (-8), 3) := by decide +kernel
theorem dX2_take_40 : decode cX2_take 40 = .ok (.goto (-33), 3) := by decide +kernel
theorem dX2_take_43 : decode cX2_take 43 = .ok (.return_, 1) := by decide +kernel
set_option maxRecDepth 20000 in
theorem ggX3_init_J7_fill_53178 : GoodIn wsX3_init wsJ7_fill_53178 := goodIn_r _ [19] (by decide +kernel) (by decide +kernel)
set_option maxRecDepth 20000 in
theorem gX3_init_J7_fill_53178 : GoodIn wsX3_init (va_wsS RX3 46 yJ7_fill_53178 wsJ7_fill_53178) := goodIn_app (goodIn_of _ (by decide +kernel)) ggX3_init_J7_fill_53178
theorem dX3_init_0 : decode cX3_init 0 = .ok (.aload_n 0, 1) := by decide +kernel
theorem dX3_init_1 : decode cX3_init 1 = .ok (.invokespecial 3, 3) := by decide +kernel
theorem dX3_init_4 : decode cX3_init 4 = .ok (.aload_n 0, 1) := by decide +kernel
theorem dX3_init_5 : decode cX3_init 5 = .ok (.iconst 0, 1) := by decide +kernel
theorem dX3_init_6 : decode cX3_init 6 = .ok (.putfield 9, 3) := by decide +kernel
theorem dX3_init_9 : decode cX3_init 9 = .ok (.aload_n 0, 1) := by decide +kernel
theorem dX3_init_10 : decode cX3_init 10 = .ok (.iconst 0, 1) := by decide +kernel
theorem dX3_init_11 : decode cX3_init 11 = .ok (.putfield 15, 3) := by decide +kernel
theorem dX3_init_14 : decode cX3_init 14 = .ok (.aload_n 0, 1) := by decide +kernel
theorem dX3_init_15 : decode cX3_init 15 = .ok (.iconst 1, 1) := by decide +kernel
theorem dX3_init_16 : decode cX3_init 16 = .ok (.putfield 18, 3) := by decide +kernel
theorem dX3_init_19 : decode cX3_init 19 = .ok (.aload_n 0, 1) := by decide +kernel
theorem dX3_init_20 : decode cX3_init 20 = .ok (.bipush 40, 2) := by decide +kernel
theorem dX3_init_22 : decode cX3_init 22 = .ok (.putfield 21, 3) := by decide +kernel
theorem dX3_init_25 : decode cX3_init 25 = .ok (.aload_n 0, 1) := by decide +kernel
theorem dX3_init_26 : decode cX3_init 26 = .ok (.iconst (-1), 1) := by decide +kernel
theorem dX3_init_27 : decode cX3_init 27 = .ok (.putfield 24, 3) := by decide +kernel
theorem dX3_init_30 : decode cX3_init 30 = .ok (.aload_n 0, 1) := by decide +kernel
theorem dX3_init_31 : decode cX3_init 31 = .ok (.iconst 0, 1) := by decide +kernel
theorem dX3_init_32 : decode cX3_init 32 = .ok (.putfield 27, 3) := by decide +kernel
theorem dX3_init_35 : decode cX3_init 35 = .ok (.aload_n 0, 1) := by decide +kernel
theorem dX3_init_36 : decode cX3_init 36 = .ok (.iconst 0, 1) := by decide +kernel
theorem dX3_init_37 : decode cX3_init 37 = .ok (.putfield 30, 3) := by decide +kernel
theorem dX3_init_40 : decode cX3_init 40 = .ok (.aload_n 0, 1) := by decide +kernel
theorem dX3_init_41 : decode cX3_init 41 = .ok (.bipush 8, 2) := by decide +kernel
theorem dX3_init_43 : decode cX3_init 43 = .ok (.newarray .int, 2) := by decide +kernel
theorem dX3_init_45 : decode cX3_init 45 = .ok (.putfield 33, 3) := by decide +kernel
theorem dX3_init_48 : decode cX3_init 48 = .ok (.aload_n 0, 1) := by decide +kernel
theorem dX3_init_49 : decode cX3_init 49 = .ok (.bipush 8, 2) := by decide +kernel
theorem dX3_init_51 : decode cX3_init 51 = .ok (.newarray .int, 2) := by decide +kernel
theorem dX3_init_53 : decode cX3_init 53 = .ok (.putfield 37, 3) := by decide +kernel
theorem dX3_init_56 : decode cX3_init 56 = .ok (.aload_n 0, 1) := by decide +kernel
theorem dX3_init_57 : decode cX3_init 57 = .ok (.bipush 8, 2) := by decide +kernel
theorem dX3_init_59 : decode cX3_init 59 = .ok (.newarray .int, 2) := by decide +kernel
theorem dX3_init_61 : decode cX3_init 61 = .ok (.putfield 40, 3) := by decide +kernel
theorem dX3_init_64 : decode cX3_init 64 = .ok (.aload_n 0, 1) := by decide +kernel
theorem dX3_init_65 : decode cX3_init 65 = .ok (.bipush 8, 2) := by decide +kernel
theorem dX3_init_67 : decode cX3_init 67 = .ok (.newarray .int, 2) := by decide +kernel
theorem dX3_init_69 : decode cX3_init 69 = .ok (.putfield 43, 3) := by decide +kernel
theorem dX3_init_72 : decode cX3_init 72 = .ok (.aload_n 0, 1) := by decide +kernel
theorem dX3_init_73 : decode cX3_init 73 = .ok (.getfield 37, 3) := by decide +kernel
theorem dX3_init_76 : decode cX3_init 76 = .ok (.bipush 10, 2) := by decide +kernel
theorem dX3_init_78 : decode cX3_init 78 = .ok (.invokestatic 46, 3) := by decide +kernel
theorem dX3_init_81 : decode cX3_init 81 = .ok (.aload_n 0, 1) := by decide +kernel
theorem dX3_init_82 : decode cX3_init 82 = .ok (.getfield 40, 3) := by decide +kernel
theorem dX3_init_85 : decode cX3_init 85 = .ok (.bipush 30, 2) := by decide +kernel
theorem dX3_init_87 : decode cX3_init 87 = .ok (.invokestatic 46, 3) := by decide +kernel
theorem dX3_init_90 : decode cX3_init 90 = .ok (.return_, 1) := by decide +kernel
theorem dX3_become_0 : decode cX3_become 0 = .ok (.aload_n 0, 1) := by decide +kernel
theorem dX3_become_1 : decode cX3_become 1 = .ok (.aload_n 1, 1) := by decide +kernel
theorem dX3_become_2 : decode cX3_become 2 = .ok (.getfield 9, 3) := by decide +kernel
theorem dX3_become_5 : decode cX3_become 5 = .ok (.putfield 9, 3) := by decide +kernel
theorem dX3_become_8 : decode cX3_become 8 = .ok (.aload_n 0, 1) := by decide +kernel
theorem dX3_become_9 : decode cX3_become 9 = .ok (.aload_n 1, 1) := by decide +kernel
theorem dX3_become_10 : decode cX3_become 10 = .ok (.getfield 15, 3) := by decide +kernel
theorem dX3_become_13 : decode cX3_become 13 = .ok (.putfield 15, 3) := by decide +kernel
theorem dX3_become_16 : decode cX3_become 16 = .ok (.aload_n 0, 1) := by decide +kernel
theorem dX3_become_17 : decode cX3_become 17 = .ok (.aload_n 1, 1) := by decide +kernel
theorem dX3_become_18 : decode cX3_become 18 = .ok (.getfield 18, 3) := by decide +kernel
theorem dX3_become_21 : decode cX3_become 21 = .ok (.putfield 18, 3) := by decide +kernel
theorem dX3_become_24 : decode cX3_become 24 = .ok (.aload_n 0, 1) := by decide +kernel
theorem dX3_become_25 : decode cX3_become 25 = .ok (.aload_n 1, 1) := by decide +kernel
theorem dX3_become_26 : decode cX3_become 26 = .ok (.getfield 21, 3) := by decide +kernel
theorem dX3_become_29 : decode cX3_become 29 = .ok (.putfield 21, 3) := by decide +kernel
theorem dX3_become_32 : decode cX3_become 32 = .ok (.aload_n 0, 1) := by decide +kernel
theorem dX3_become_33 : decode cX3_become 33 = .ok (.aload_n 1, 1) := by decide +kernel
theorem dX3_become_34 : decode cX3_become 34 = .ok (.getfield 24, 3) := by decide +kernel
theorem dX3_become_37 : decode cX3_become 37 = .ok (.putfield 24, 3) := by decide +kernel
theorem dX3_become_40 : decode cX3_become 40 = .ok (.aload_n 0, 1) := by decide +kernel
theorem dX3_become_41 : decode cX3_become 41 = .ok (.aload_n 1, 1) := by decide +kernel
theorem dX3_become_42 : decode cX3_become 42 = .ok (.getfield 27, 3) := by decide +kernel
theorem dX3_become_45 : decode cX3_become 45 = .ok (.putfield 27, 3) := by decide +kernel
theorem dX3_become_48 : decode cX3_become 48 = .ok (.aload_n 0, 1) := by decide +kernel
theorem dX3_become_49 : decode cX3_become 49 = .ok (.aload_n 1, 1) := by decide +kernel
theorem dX3_become_50 : decode cX3_become 50 = .ok (.getfield 30, 3) := by decide +kernel
theorem dX3_become_53 : decode cX3_become 53 = .ok (.putfield 30, 3) := by decide +kernel
theorem dX3_become_56 : decode cX3_become 56 = .ok (.aload_n 1, 1) := by decide +kernel
theorem dX3_become_57 : decode cX3_become 57 = .ok (.getfield 33, 3) := by decide +kernel
theorem dX3_become_60 : decode cX3_become 60 = .ok (.iconst 0, 1) := by decide +kernel
theorem dX3_become_61 : decode cX3_become 61 = .ok (.aload_n 0, 1) := by decide +kernel
theorem dX3_become_62 : decode cX3_become 62 = .ok (.getfield 33, 3) := by decide +kernel
theorem dX3_become_65 : decode cX3_become 65 = .ok (.iconst 0, 1) := by decide +kernel
theorem dX3_become_66 : decode cX3_become 66 = .ok (.bipush 8, 2) := by decide +kernel
theorem dX3_become_68 : decode cX3_become 68 = .ok (.invokestatic 52, 3) := by decide +kernel
theorem dX3_become_71 : decode cX3_become 71 = .ok (.aload_n 1, 1) := by decide +kernel
theorem dX3_become_72 : decode cX3_become 72 = .ok (.getfield 37, 3) := by decide +kernel
theorem dX3_become_75 : decode cX3_become 75 = .ok (.iconst 0, 1) := by decide +kernel
theorem dX3_become_76 : decode cX3_become 76 = .ok (.aload_n 0, 1) := by decide +kernel
theorem dX3_become_77 : decode cX3_become 77 = .ok (.getfield 37, 3) := by decide +kernel
theorem dX3_become_80 : decode cX3_become 80 = .ok (.iconst 0, 1) := by decide +kernel
theorem dX3_become_81 : decode cX3_become 81 = .ok (.bipush 8, 2) := by decide +kernel
theorem dX3_become_83 : decode cX3_become 83 = .ok (.invokestatic 52, 3) := by decide +kernel
theorem dX3_become_86 : decode cX3_become 86 = .ok (.aload_n 1, 1) := by decide +kernel
theorem dX3_become_87 : decode cX3_become 87 = .ok (.getfield 40, 3) := by decide +kernel
theorem dX3_become_90 : decode cX3_become 90 = .ok (.iconst 0, 1) := by decide +kernel
theorem dX3_become_91 : decode cX3_become 91 = .ok (.aload_n 0, 1) := by decide +kernel
theorem dX3_become_92 : decode cX3_become 92 = .ok (.getfield 40, 3) := by decide +kernel
theorem dX3_become_95 : decode cX3_become 95 = .ok (.iconst 0, 1) := by decide +kernel
theorem dX3_become_96 : decode cX3_become 96 = .ok (.bipush 8, 2) := by decide +kernel
theorem dX3_become_98 : decode cX3_become 98 = .ok (.invokestatic 52, 3) := by decide +kernel
theorem dX3_become_101 : decode cX3_become 101 = .ok (.aload_n 1, 1) := by decide +kernel
theorem dX3_become_102 : decode cX3_become 102 = .ok (.getfield 43, 3) := by decide +kernel
theorem dX3_become_105 : decode cX3_become 105 = .ok (.iconst 0, 1) := by decide +kernel
theorem dX3_become_106 : decode cX3_become 106 = .ok (.aload_n 0, 1) := by decide +kernel
theorem dX3_become_107 : decode cX3_become 107 = .ok (.getfield 43, 3) := by decide +kernel
theorem dX3_become_110 : decode cX3_become 110 = .ok (.iconst 0, 1) := by decide +kernel
theorem dX3_become_111 : decode cX3_become 111 = .ok (.bipush 8, 2) := by decide +kernel
theorem dX3_become_113 : decode cX3_become 113 = .ok (.invokestatic 52, 3) := by decide +kernel
theorem dX3_become_116 : decode cX3_become 116 = .ok (.return_, 1) := by decide +kernel
theorem dX3_putMan_0 : decode cX3_putMan 0 = .ok (.aload_n 0, 1) := by decide +kernel
theorem dX3_putMan_1 : decode cX3_putMan 1 = .ok (.getfield 15, 3) := by decide +kernel
theorem dX3_putMan_4 : decode cX3_putMan 4 = .ok (.istore_n 2, 1) := by decide +kernel
theorem dX3_putMan_5 : decode cX3_putMan 5 = .ok (.aload_n 0, 1) := by decide +kernel
theorem dX3_putMan_6 : decode cX3_putMan 6 = .ok (.iload_n 1, 1) := by decide +kernel
theorem dX3_putMan_7 : decode cX3_putMan 7 = .ok (.putfield 15, 3) := by decide +kernel
theorem dX3_putMan_10 : decode cX3_putMan 10 = .ok (.iload_n 2, 1) := by decide +kernel
theorem dX3_putMan_11 : decode cX3_putMan 11 = .ok (.ireturn, 1) := by decide +kernel
theorem dX3_putWay_0 : decode cX3_putWay 0 = .ok (.aload_n 0, 1) := by decide +kernel
theorem dX3_putWay_1 : decode cX3_putWay 1 = .ok (.getfield 18, 3) := by decide +kernel
theorem dX3_putWay_4 : decode cX3_putWay 4 = .ok (.istore_n 2, 1) := by decide +kernel
theorem dX3_putWay_5 : decode cX3_putWay 5 = .ok (.aload_n 0, 1) := by decide +kernel
theorem dX3_putWay_6 : decode cX3_putWay 6 = .ok (.iload_n 1, 1) := by decide +kernel
theorem dX3_putWay_7 : decode cX3_putWay 7 = .ok (.putfield 18, 3) := by decide +kernel
theorem dX3_putWay_10 : decode cX3_putWay 10 = .ok (.iload_n 2, 1) := by decide +kernel
theorem dX3_putWay_11 : decode cX3_putWay 11 = .ok (.ireturn, 1) := by decide +kernel
theorem dX3_putTray_0 : decode cX3_putTray 0 = .ok (.aload_n 0, 1) := by decide +kernel
theorem dX3_putTray_1 : decode cX3_putTray 1 = .ok (.getfield 21, 3) := by decide +kernel
theorem dX3_putTray_4 : decode cX3_putTray 4 = .ok (.istore_n 2, 1) := by decide +kernel
theorem dX3_putTray_5 : decode cX3_putTray 5 = .ok (.aload_n 0, 1) := by decide +kernel
theorem dX3_putTray_6 : decode cX3_putTray 6 = .ok (.iload_n 1, 1) := by decide +kernel
theorem dX3_putTray_7 : decode cX3_putTray 7 = .ok (.putfield 21, 3) := by decide +kernel
theorem dX3_putTray_10 : decode cX3_putTray 10 = .ok (.iload_n 2, 1) := by decide +kernel
theorem dX3_putTray_11 : decode cX3_putTray 11 = .ok (.ireturn, 1) := by decide +kernel
theorem dX3_putRang_0 : decode cX3_putRang 0 = .ok (.aload_n 0, 1) := by decide +kernel
theorem dX3_putRang_1 : decode cX3_putRang 1 = .ok (.getfield 24, 3) := by decide +kernel
theorem dX3_putRang_4 : decode cX3_putRang 4 = .ok (.istore_n 2, 1) := by decide +kernel
theorem dX3_putRang_5 : decode cX3_putRang 5 = .ok (.aload_n 0, 1) := by decide +kernel
theorem dX3_putRang_6 : decode cX3_putRang 6 = .ok (.iload_n 1, 1) := by decide +kernel
theorem dX3_putRang_7 : decode cX3_putRang 7 = .ok (.putfield 24, 3) := by decide +kernel
theorem dX3_putRang_10 : decode cX3_putRang 10 = .ok (.iload_n 2, 1) := by decide +kernel
theorem dX3_putRang_11 : decode cX3_putRang 11 = .ok (.ireturn, 1) := by decide +kernel
theorem dX3_putCrack_0 : decode cX3_putCrack 0 = .ok (.aload_n 0, 1) := by decide +kernel
theorem dX3_putCrack_1 : decode cX3_putCrack 1 = .ok (.getfield 27, 3) := by decide +kernel
theorem dX3_putCrack_4 : decode cX3_putCrack 4 = .ok (.istore_n 2, 1) := by decide +kernel
theorem dX3_putCrack_5 : decode cX3_putCrack 5 = .ok (.aload_n 0, 1) := by decide +kernel
theorem dX3_putCrack_6 : decode cX3_putCrack 6 = .ok (.iload_n 1, 1) := by decide +kernel
theorem dX3_putCrack_7 : decode cX3_putCrack 7 = .ok (.putfield 27, 3) := by decide +kernel
theorem dX3_putCrack_10 : decode cX3_putCrack 10 = .ok (.iload_n 2, 1) := by decide +kernel
theorem dX3_putCrack_11 : decode cX3_putCrack 11 = .ok (.ireturn, 1) := by decide +kernel
theorem dX3_isResting_0 : decode cX3_isResting 0 = .ok (.aload_n 0, 1) := by decide +kernel
theorem dX3_isResting_1 : decode cX3_isResting 1 = .ok (.getfield 9, 3) := by decide +kernel
theorem dX3_isResting_4 : decode cX3_isResting 4 = .ok (.iconst 5, 1) := by decide +kernel
theorem dX3_isResting_5 : decode cX3_isResting 5 = .ok (.irem, 1) := by decide +kernel
theorem dX3_isResting_6 : decode cX3_isResting 6 = .ok (.iconst 4, 1) := by decide +kernel
theorem dX3_isResting_7 : decode cX3_isResting 7 = .ok (.if_icmp .ne 7, 3) := by decide +kernel
theorem dX3_isResting_10 : decode cX3_isResting 10 = .ok (.iconst 1, 1) := by decide +kernel
theorem dX3_isResting_11 : decode cX3_isResting 11 = .ok (.goto 4, 3) := by decide +kernel
theorem dX3_isResting_14 : decode cX3_isResting 14 = .ok (.iconst 0, 1) := by decide +kernel
theorem dX3_isResting_15 : decode cX3_isResting 15 = .ok (.ireturn, 1) := by decide +kernel
set_option maxRecDepth 20000 in
theorem ggX3_toneAt_X0_tone : GoodIn wsX3_toneAt wsX0_tone := goodIn_r _ [7] (by decide +kernel) (by decide +kernel)
set_option maxRecDepth 20000 in
theorem gX3_toneAt_X0_tone : GoodIn wsX3_toneAt (va_wsS RX3 58 yX0_tone wsX0_tone) := goodIn_app (goodIn_of _ (by decide +kernel)) ggX3_toneAt_X0_tone
theorem dX3_toneAt_0 : decode cX3_toneAt 0 = .ok (.aload_n 0, 1) := by decide +kernel
theorem dX3_toneAt_1 : decode cX3_toneAt 1 = .ok (.getfield 33, 3) := by decide +kernel
theorem dX3_toneAt_4 : decode cX3_toneAt 4 = .ok (.iload_n 1, 1) := by decide +kernel
theorem dX3_toneAt_5 : decode cX3_toneAt 5 = .ok (.iaload, 1) := by decide +kernel
theorem dX3_toneAt_6 : decode cX3_toneAt 6 = .ok (.aload_n 0, 1) := by decide +kernel
theorem dX3_toneAt_7 : decode cX3_toneAt 7 = .ok (.getfield 37, 3) := by decide +kernel
theorem dX3_toneAt_10 : decode cX3_toneAt 10 = .ok (.iload_n 1, 1) := by decide +kernel
theorem dX3_toneAt_11 : decode cX3_toneAt 11 = .ok (.iaload, 1) := by decide +kernel
theorem dX3_toneAt_12 : decode cX3_toneAt 12 = .ok (.aload_n 0, 1) := by decide +kernel
theorem dX3_toneAt_13 : decode cX3_toneAt 13 = .ok (.getfield 9, 3) := by decide +kernel
theorem dX3_toneAt_16 : decode cX3_toneAt 16 = .ok (.invokestatic 58, 3) := by decide +kernel
theorem dX3_toneAt_19 : decode cX3_toneAt 19 = .ok (.ireturn, 1) := by decide +kernel
set_option maxRecDepth 20000 in
theorem ggX3_mindingAt_X0_tone : GoodIn wsX3_mindingAt wsX0_tone := goodIn_r _ [7] (by decide +kernel) (by decide +kernel)
set_option maxRecDepth 20000 in
theorem gX3_mindingAt_X0_tone : GoodIn wsX3_mindingAt (va_wsS RX3 58 yX0_tone wsX0_tone) := goodIn_app (goodIn_of _ (by decide +kernel)) ggX3_mindingAt_X0_tone
set_option maxRecDepth 20000 in
theorem ggX3_mindingAt_X0_minding : GoodIn wsX3_mindingAt wsX0_minding := goodIn_r _ [10] (by decide +kernel) (by decide +kernel)
set_option maxRecDepth 20000 in
theorem gX3_mindingAt_X0_minding : GoodIn wsX3_mindingAt (va_wsS RX3 64 yX0_minding wsX0_minding) := goodIn_app (goodIn_of _ (by decide +kernel)) ggX3_mindingAt_X0_minding
theorem dX3_mindingAt_0 : decode cX3_mindingAt 0 = .ok (.aload_n 0, 1) := by decide +kernel
theorem dX3_mindingAt_1 : decode cX3_mindingAt 1 = .ok (.getfield 33, 3) := by decide +kernel
theorem dX3_mindingAt_4 : decode cX3_mindingAt 4 = .ok (.iload_n 1, 1) := by decide +kernel
theorem dX3_mindingAt_5 : decode cX3_mindingAt 5 = .ok (.iaload, 1) := by decide +kernel
theorem dX3_mindingAt_6 : decode cX3_mindingAt 6 = .ok (.aload_n 0, 1) := by decide +kernel
theorem dX3_mindingAt_7 : decode cX3_mindingAt 7 = .ok (.getfield 37, 3) := by decide +kernel
theorem dX3_mindingAt_10 : decode cX3_mindingAt 10 = .ok (.iload_n 1, 1) := by decide +kernel
theorem dX3_mindingAt_11 : decode cX3_mindingAt 11 = .ok (.iaload, 1) := by decide +kernel
theorem dX3_mindingAt_12 : decode cX3_mindingAt 12 = .ok (.aload_n 0, 1) := by decide +kernel
theorem dX3_mindingAt_13 : decode cX3_mindingAt 13 = .ok (.getfield 9, 3) := by decide +kernel
theorem dX3_mindingAt_16 : decode cX3_mindingAt 16 = .ok (.invokestatic 58, 3) := by decide +kernel
theorem dX3_mindingAt_19 : decode cX3_mindingAt 19 = .ok (.istore_n 3, 1) := by decide +kernel
theorem dX3_mindingAt_20 : decode cX3_mindingAt 20 = .ok (.aload_n 0, 1) := by decide +kernel
theorem dX3_mindingAt_21 : decode cX3_mindingAt 21 = .ok (.getfield 33, 3) := by decide +kernel
theorem dX3_mindingAt_24 : decode cX3_mindingAt 24 = .ok (.iload_n 1, 1) := by decide +kernel
theorem dX3_mindingAt_25 : decode cX3_mindingAt 25 = .ok (.iaload, 1) := by decide +kernel
theorem dX3_mindingAt_26 : decode cX3_mindingAt 26 = .ok (.iload_n 2, 1) := by decide +kernel
theorem dX3_mindingAt_27 : decode cX3_mindingAt 27 = .ok (.iload_n 3, 1) := by decide +kernel
theorem dX3_mindingAt_28 : decode cX3_mindingAt 28 = .ok (.invokestatic 64, 3) := by decide +kernel
theorem dX3_mindingAt_31 : decode cX3_mindingAt 31 = .ok (.ireturn, 1) := by decide +kernel
set_option maxRecDepth 20000 in
theorem ggX3_buyingAt_X0_wanting : GoodIn wsX3_buyingAt wsX0_wanting := goodIn_r _ [11] (by decide +kernel) (by decide +kernel)
set_option maxRecDepth 20000 in
theorem gX3_buyingAt_X0_wanting : GoodIn wsX3_buyingAt (va_wsS RX3 67 yX0_wanting wsX0_wanting) := goodIn_app (goodIn_of _ (by decide +kernel)) ggX3_buyingAt_X0_wanting
theorem dX3_buyingAt_0 : decode cX3_buyingAt 0 = .ok (.aload_n 0, 1) := by decide +kernel
theorem dX3_buyingAt_1 : decode cX3_buyingAt 1 = .ok (.getfield 33, 3) := by decide +kernel
theorem dX3_buyingAt_4 : decode cX3_buyingAt 4 = .ok (.iload_n 1, 1) := by decide +kernel
theorem dX3_buyingAt_5 : decode cX3_buyingAt 5 = .ok (.iaload, 1) := by decide +kernel
theorem dX3_buyingAt_6 : decode cX3_buyingAt 6 = .ok (.iload_n 2, 1) := by decide +kernel
theorem dX3_buyingAt_7 : decode cX3_buyingAt 7 = .ok (.invokestatic 67, 3) := by decide +kernel
theorem dX3_buyingAt_10 : decode cX3_buyingAt 10 = .ok (.istore_n 3, 1) := by decide +kernel
theorem dX3_buyingAt_11 : decode cX3_buyingAt 11 = .ok (.iload_n 3, 1) := by decide +kernel
theorem dX3_buyingAt_12 : decode cX3_buyingAt 12 = .ok (.aload_n 0, 1) := by decide +kernel
theorem dX3_buyingAt_13 : decode cX3_buyingAt 13 = .ok (.getfield 40, 3) := by decide +kernel
theorem dX3_buyingAt_16 : decode cX3_buyingAt 16 = .ok (.iload_n 1, 1) := by decide +kernel
theorem dX3_buyingAt_17 : decode cX3_buyingAt 17 = .ok (.iaload, 1) := by decide +kernel
theorem dX3_buyingAt_18 : decode cX3_buyingAt 18 = .ok (.iconst 2, 1) := by decide +kernel
theorem dX3_buyingAt_19 : decode cX3_buyingAt 19 = .ok (.idiv, 1) := by decide +kernel
theorem dX3_buyingAt_20 : decode cX3_buyingAt 20 = .ok (.aload_n 0, 1) := by decide +kernel
theorem dX3_buyingAt_21 : decode cX3_buyingAt 21 = .ok (.getfield 21, 3) := by decide +kernel
theorem dX3_buyingAt_24 : decode cX3_buyingAt 24 = .ok (.invokestatic 71, 3) := by decide +kernel
theorem dX3_buyingAt_27 : decode cX3_buyingAt 27 = .ok (.invokestatic 71, 3) := by decide +kernel
theorem dX3_buyingAt_30 : decode cX3_buyingAt 30 = .ok (.ireturn, 1) := by decide +kernel
set_option maxRecDepth 20000 in
theorem ggX3_changeFamilies_X5_exchange : GoodIn wsX3_changeFamilies wsX5_exchange := goodIn_r _ [7] (by decide +kernel) (by decide +kernel)
set_option maxRecDepth 20000 in
theorem gX3_changeFamilies_X5_exchange_n76 : GoodIn wsX3_changeFamilies (wsX5_exchange) := ggX3_changeFamilies_X5_exchange
theorem dX3_changeFamilies_0 : decode cX3_changeFamilies 0 = .ok (.aload_n 0, 1) := by decide +kernel
theorem dX3_changeFamilies_1 : decode cX3_changeFamilies 1 = .ok (.getfield 33, 3) := by decide +kernel
theorem dX3_changeFamilies_4 : decode cX3_changeFamilies 4 = .ok (.iload_n 1, 1) := by decide +kernel
theorem dX3_changeFamilies_5 : decode cX3_changeFamilies 5 = .ok (.aload_n 0, 1) := by decide +kernel
theorem dX3_changeFamilies_6 : decode cX3_changeFamilies 6 = .ok (.getfield 33, 3) := by decide +kernel
theorem dX3_changeFamilies_9 : decode cX3_changeFamilies 9 = .ok (.iload_n 2, 1) := by decide +kernel
theorem dX3_changeFamilies_10 : decode cX3_changeFamilies 10 = .ok (.aload_n 0, 1) := by decide +kernel
theorem dX3_changeFamilies_11 : decode cX3_changeFamilies 11 = .ok (.getfield 33, 3) := by decide +kernel
theorem dX3_changeFamilies_14 : decode cX3_changeFamilies 14 = .ok (.iload_n 1, 1) := by decide +kernel
theorem dX3_changeFamilies_15 : decode cX3_changeFamilies 15 = .ok (.iaload, 1) := by decide +kernel
theorem dX3_changeFamilies_16 : decode cX3_changeFamilies 16 = .ok (.invokestatic 76, 3) := by decide +kernel
theorem dX3_changeFamilies_19 : decode cX3_changeFamilies 19 = .ok (.iastore, 1) := by decide +kernel
theorem dX3_changeFamilies_20 : decode cX3_changeFamilies 20 = .ok (.aload_n 0, 1) := by decide +kernel
theorem dX3_changeFamilies_21 : decode cX3_changeFamilies 21 = .ok (.getfield 37, 3) := by decide +kernel
theorem dX3_changeFamilies_24 : decode cX3_changeFamilies 24 = .ok (.iload_n 1, 1) := by decide +kernel
theorem dX3_changeFamilies_25 : decode cX3_changeFamilies 25 = .ok (.aload_n 0, 1) := by decide +kernel
theorem dX3_changeFamilies_26 : decode cX3_changeFamilies 26 = .ok (.getfield 37, 3) := by decide +kernel
theorem dX3_changeFamilies_29 : decode cX3_changeFamilies 29 = .ok (.iload_n 2, 1) := by decide +kernel
theorem dX3_changeFamilies_30 : decode cX3_changeFamilies 30 = .ok (.aload_n 0, 1) := by decide +kernel
theorem dX3_changeFamilies_31 : decode cX3_changeFamilies 31 = .ok (.getfield 37, 3) := by decide +kernel
theorem dX3_changeFamilies_34 : decode cX3_changeFamilies 34 = .ok (.iload_n 1, 1) := by decide +kernel
theorem dX3_changeFamilies_35 : decode cX3_changeFamilies 35 = .ok (.iaload, 1) := by decide +kernel
theorem dX3_changeFamilies_36 : decode cX3_changeFamilies 36 = .ok (.invokestatic 76, 3) := by decide +kernel
theorem dX3_changeFamilies_39 : decode cX3_changeFamilies 39 = .ok (.iastore, 1) := by decide +kernel
theorem dX3_changeFamilies_40 : decode cX3_changeFamilies 40 = .ok (.aload_n 0, 1) := by decide +kernel
theorem dX3_changeFamilies_41 : decode cX3_changeFamilies 41 = .ok (.getfield 40, 3) := by decide +kernel
theorem dX3_changeFamilies_44 : decode cX3_changeFamilies 44 = .ok (.iload_n 1, 1) := by decide +kernel
theorem dX3_changeFamilies_45 : decode cX3_changeFamilies 45 = .ok (.aload_n 0, 1) := by decide +kernel
theorem dX3_changeFamilies_46 : decode cX3_changeFamilies 46 = .ok (.getfield 40, 3) := by decide +kernel
theorem dX3_changeFamilies_49 : decode cX3_changeFamilies 49 = .ok (.iload_n 2, 1) := by decide +kernel
theorem dX3_changeFamilies_50 : decode cX3_changeFamilies 50 = .ok (.aload_n 0, 1) := by decide +kernel
theorem dX3_changeFamilies_51 : decode cX3_changeFamilies 51 = .ok (.getfield 40, 3) := by decide +kernel
theorem dX3_changeFamilies_54 : decode cX3_changeFamilies 54 = .ok (.iload_n 1, 1) := by decide +kernel
theorem dX3_changeFamilies_55 : decode cX3_changeFamilies 55 = .ok (.iaload, 1) := by decide +kernel
theorem dX3_changeFamilies_56 : decode cX3_changeFamilies 56 = .ok (.invokestatic 76, 3) := by decide +kernel
theorem dX3_changeFamilies_59 : decode cX3_changeFamilies 59 = .ok (.iastore, 1) := by decide +kernel
theorem dX3_changeFamilies_60 : decode cX3_changeFamilies 60 = .ok (.aload_n 0, 1) := by decide +kernel
theorem dX3_changeFamilies_61 : decode cX3_changeFamilies 61 = .ok (.getfield 43, 3) := by decide +kernel
theorem dX3_changeFamilies_64 : decode cX3_changeFamilies 64 = .ok (.iload_n 1, 1) := by decide +kernel
theorem dX3_changeFamilies_65 : decode cX3_changeFamilies 65 = .ok (.aload_n 0, 1) := by decide +kernel
theorem dX3_changeFamilies_66 : decode cX3_changeFamilies 66 = .ok (.getfield 43, 3) := by decide +kernel
theorem dX3_changeFamilies_69 : decode cX3_changeFamilies 69 = .ok (.iload_n 2, 1) := by decide +kernel
theorem dX3_changeFamilies_70 : decode cX3_changeFamilies 70 = .ok (.aload_n 0, 1) := by decide +kernel
theorem dX3_changeFamilies_71 : decode cX3_changeFamilies 71 = .ok (.getfield 43, 3) := by decide +kernel
theorem dX3_changeFamilies_74 : decode cX3_changeFamilies 74 = .ok (.iload_n 1, 1) := by decide +kernel
theorem dX3_changeFamilies_75 : decode cX3_changeFamilies 75 = .ok (.iaload, 1) := by decide +kernel
theorem dX3_changeFamilies_76 : decode cX3_changeFamilies 76 = .ok (.invokestatic 76, 3) := by decide +kernel
theorem dX3_changeFamilies_79 : decode cX3_changeFamilies 79 = .ok (.iastore, 1) := by decide +kernel
theorem dX3_changeFamilies_80 : decode cX3_changeFamilies 80 = .ok (.return_, 1) := by decide +kernel
theorem dX3_housesOfOtherKinds_0 : decode cX3_housesOfOtherKinds 0 = .ok (.iconst 0, 1) := by decide +kernel
theorem dX3_housesOfOtherKinds_1 : decode cX3_housesOfOtherKinds 1 = .ok (.istore_n 1, 1) := by decide +kernel
theorem dX3_housesOfOtherKinds_2 : decode cX3_housesOfOtherKinds 2 = .ok (.aload_n 0, 1) := by decide +kernel
theorem dX3_housesOfOtherKinds_3 : decode cX3_housesOfOtherKinds 3 = .ok (.getfield 33, 3) := by decide +kernel
theorem dX3_housesOfOtherKinds_6 : decode cX3_housesOfOtherKinds 6 = .ok (.astore_n 2, 1) := by decide +kernel
theorem dX3_housesOfOtherKinds_7 : decode cX3_housesOfOtherKinds 7 = .ok (.aload_n 2, 1) := by decide +kernel
theorem dX3_housesOfOtherKinds_8 : decode cX3_housesOfOtherKinds 8 = .ok (.arraylength, 1) := by decide +kernel
theorem dX3_housesOfOtherKinds_9 : decode cX3_housesOfOtherKinds 9 = .ok (.istore_n 3, 1) := by decide +kernel
theorem dX3_housesOfOtherKinds_10 : decode cX3_housesOfOtherKinds 10 = .ok (.iconst 0, 1) := by decide +kernel
theorem dX3_housesOfOtherKinds_11 : decode cX3_housesOfOtherKinds 11 = .ok (.istore 4, 2) := by decide +kernel
theorem dX3_housesOfOtherKinds_13 : decode cX3_housesOfOtherKinds 13 = .ok (.iload 4, 2) := by decide +kernel
theorem dX3_housesOfOtherKinds_15 : decode cX3_housesOfOtherKinds 15 = .ok (.iload_n 3, 1) := by decide +kernel
theorem dX3_housesOfOtherKinds_16 : decode cX3_housesOfOtherKinds 16 = .ok (.if_icmp .ge 23, 3) := by decide +kernel
theorem dX3_housesOfOtherKinds_19 : decode cX3_housesOfOtherKinds 19 = .ok (.aload_n 2, 1) := by decide +kernel
theorem dX3_housesOfOtherKinds_20 : decode cX3_housesOfOtherKinds 20 = .ok (.iload 4, 2) := by decide +kernel
theorem dX3_housesOfOtherKinds_22 : decode cX3_housesOfOtherKinds 22 = .ok (.iaload, 1) := by decide +kernel
theorem dX3_housesOfOtherKinds_23 : decode cX3_housesOfOtherKinds 23 = .ok (.istore 5, 2) := by decide +kernel
theorem dX3_housesOfOtherKinds_25 : decode cX3_housesOfOtherKinds 25 = .ok (.iload 5, 2) := by decide +kernel
theorem dX3_housesOfOtherKinds_27 : decode cX3_housesOfOtherKinds 27 = .ok (.ifCond .eq 6, 3) := by decide +kernel
theorem dX3_housesOfOtherKinds_30 : decode cX3_housesOfOtherKinds 30 = .ok (.iinc 1 1, 3) := by decide +kernel
theorem dX3_housesOfOtherKinds_33 : decode cX3_housesOfOtherKinds 33 = .ok (.iinc 4 1, 3) := by decide +kernel
theorem dX3_housesOfOtherKinds_36 : decode cX3_housesOfOtherKinds 36 = .ok (.goto (-23), 3) := by decide +kernel
theorem dX3_housesOfOtherKinds_39 : decode cX3_housesOfOtherKinds 39 = .ok (.iload_n 1, 1) := by decide +kernel
theorem dX3_housesOfOtherKinds_40 : decode cX3_housesOfOtherKinds 40 = .ok (.ireturn, 1) := by decide +kernel
set_option maxRecDepth 20000 in
theorem ggX3_goHours_X3_goHour : GoodIn wsX3_goHours wsX3_goHour := goodIn_r _ [5, 6, 7, 8, 9, 10, 4, 11, 12, 13, 14, 15, 16, 17, 18, 19, 20, 21, 22, 23, 24, 25, 26, 27, 28, 29, 30, 31, 32, 33, 34, 35, 36, 37, 38, 39, 40, 41, 42, 43, 44, 45, 46, 47, 48, 49, 50, 51, 52, 53, 54, 55, 56, 57, 58, 59, 60, 61, 62, 63, 64, 65, 66, 67, 68, 69, 70, 71, 72, 73, 74, 75, 76, 77] (by decide +kernel) (by decide +kernel)
set_option maxRecDepth 20000 in
theorem gX3_goHours_X3_goHour : GoodIn wsX3_goHours (wsV RX3 80 RX3 yX3_goHour wsX3_goHour) := goodIn_app (goodIn_of _ (by decide +kernel)) ggX3_goHours_X3_goHour
theorem dX3_goHours_0 : decode cX3_goHours 0 = .ok (.iconst 0, 1) := by decide +kernel
theorem dX3_goHours_1 : decode cX3_goHours 1 = .ok (.istore_n 2, 1) := by decide +kernel
theorem dX3_goHours_2 : decode cX3_goHours 2 = .ok (.iload_n 2, 1) := by decide +kernel
theorem dX3_goHours_3 : decode cX3_goHours 3 = .ok (.iload_n 1, 1) := by decide +kernel
theorem dX3_goHours_4 : decode cX3_goHours 4 = .ok (.if_icmp .ge 13, 3) := by decide +kernel
theorem dX3_goHours_7 : decode cX3_goHours 7 = .ok (.aload_n 0, 1) := by decide +kernel
theorem dX3_goHours_8 : decode cX3_goHours 8 = .ok (.invokevirtual 80, 3) := by decide +kernel
theorem dX3_goHours_11 : decode cX3_goHours 11 = .ok (.iinc 2 1, 3) := by decide +kernel
theorem dX3_goHours_14 : decode cX3_goHours 14 = .ok (.goto (-12), 3) := by decide +kernel
theorem dX3_goHours_17 : decode cX3_goHours 17 = .ok (.return_, 1) := by decide +kernel
set_option maxRecDepth 20000 in
theorem ggX3_goHour_X3_isResting : GoodIn wsX3_goHour wsX3_isResting := goodIn_r _ [7, 2, 63, 64, 65, 66, 67, 68, 69, 70, 71, 72, 73] (by decide +kernel) (by decide +kernel)
set_option maxRecDepth 20000 in
theorem gX3_goHour_X3_isResting : GoodIn wsX3_goHour (wsV RX3 83 RX3 yX3_isResting wsX3_isResting) := goodIn_app (goodIn_of _ (by decide +kernel)) ggX3_goHour_X3_isResting
set_option maxRecDepth 20000 in
theorem ggX3_goHour_X3_hearAndBuy : GoodIn wsX3_goHour wsX3_hearAndBuy := goodIn_r _ [11, 12, 13, 1, 14, 15, 16, 17, 18, 19, 20, 21, 22, 23, 24, 25, 6, 26, 27, 2, 28, 29, 30, 31, 32, 33, 34, 35, 36, 37, 38, 39, 40, 41, 42, 43, 44, 45, 46, 47, 48, 63, 64, 65, 66, 67, 68, 69, 70, 71, 72, 73] (by decide +kernel) (by decide +kernel)
set_option maxRecDepth 20000 in
theorem gX3_goHour_X3_hearAndBuy : GoodIn wsX3_goHour (wsV RX3 87 RX3 yX3_hearAndBuy wsX3_hearAndBuy) := goodIn_app (goodIn_of _ (by decide +kernel)) ggX3_goHour_X3_hearAndBuy
set_option maxRecDepth 20000 in
theorem ggX3_goHour_X3_listen : GoodIn wsX3_goHour wsX3_listen := goodIn_r _ [52, 53, 13, 1, 17, 18, 19, 20, 54, 55, 56, 6, 57, 27, 12, 2, 28, 29, 30, 31, 63, 64, 65, 66, 67, 68, 69, 70, 71, 72, 73] (by decide +kernel) (by decide +kernel)
set_option maxRecDepth 20000 in
theorem gX3_goHour_X3_listen : GoodIn wsX3_goHour (wsV RX3 90 RX3 yX3_listen wsX3_listen) := goodIn_app (goodIn_of _ (by decide +kernel)) ggX3_goHour_X3_listen
set_option maxRecDepth 20000 in
theorem ggX3_goHour_X3_walk : GoodIn wsX3_goHour wsX3_walk := goodIn_r _ [61, 62, 13, 63, 64, 65, 66, 67, 68, 69, 70, 71, 72, 73] (by decide +kernel) (by decide +kernel)
set_option maxRecDepth 20000 in
theorem gX3_goHour_X3_walk : GoodIn wsX3_goHour (wsV RX3 93 RX3 yX3_walk wsX3_walk) := goodIn_app (goodIn_of _ (by decide +kernel)) ggX3_goHour_X3_walk
theorem dX3_goHour_0 : decode cX3_goHour 0 = .ok (.aload_n 0, 1) := by decide +kernel
theorem dX3_goHour_1 : decode cX3_goHour 1 = .ok (.invokevirtual 83, 3) := by decide +kernel
theorem dX3_goHour_4 : decode cX3_goHour 4 = .ok (.ifCond .ne 23, 3) := by decide +kernel
theorem dX3_goHour_7 : decode cX3_goHour 7 = .ok (.aload_n 0, 1) := by decide +kernel
theorem dX3_goHour_8 : decode cX3_goHour 8 = .ok (.getfield 24, 3) := by decide +kernel
theorem dX3_goHour_11 : decode cX3_goHour 11 = .ok (.iconst (-1), 1) := by decide +kernel
theorem dX3_goHour_12 : decode cX3_goHour 12 = .ok (.if_icmp .eq 7, 3) := by decide +kernel
theorem dX3_goHour_15 : decode cX3_goHour 15 = .ok (.aload_n 0, 1) := by decide +kernel
theorem dX3_goHour_16 : decode cX3_goHour 16 = .ok (.invokevirtual 87, 3) := by decide +kernel
theorem dX3_goHour_19 : decode cX3_goHour 19 = .ok (.aload_n 0, 1) := by decide +kernel
theorem dX3_goHour_20 : decode cX3_goHour 20 = .ok (.invokevirtual 90, 3) := by decide +kernel
theorem dX3_goHour_23 : decode cX3_goHour 23 = .ok (.aload_n 0, 1) := by decide +kernel
theorem dX3_goHour_24 : decode cX3_goHour 24 = .ok (.invokevirtual 93, 3) := by decide +kernel
theorem dX3_goHour_27 : decode cX3_goHour 27 = .ok (.aload_n 0, 1) := by decide +kernel
theorem dX3_goHour_28 : decode cX3_goHour 28 = .ok (.dup, 1) := by decide +kernel
theorem dX3_goHour_29 : decode cX3_goHour 29 = .ok (.getfield 9, 3) := by decide +kernel
theorem dX3_goHour_32 : decode cX3_goHour 32 = .ok (.iconst 1, 1) := by decide +kernel
theorem dX3_goHour_33 : decode cX3_goHour 33 = .ok (.iadd, 1) := by decide +kernel
theorem dX3_goHour_34 : decode cX3_goHour 34 = .ok (.putfield 9, 3) := by decide +kernel
theorem dX3_goHour_37 : decode cX3_goHour 37 = .ok (.return_, 1) := by decide +kernel
set_option maxRecDepth 20000 in
theorem ggX3_hearAndBuy_X3_mindingAt : GoodIn wsX3_hearAndBuy wsX3_mindingAt := goodIn_r _ [17, 18, 1, 19, 20, 21, 22, 23, 24, 25, 26, 41, 42, 43, 44, 45, 46, 47, 48, 49, 50, 51] (by decide +kernel) (by decide +kernel)
set_option maxRecDepth 20000 in
theorem gX3_hearAndBuy_X3_mindingAt : GoodIn wsX3_hearAndBuy (wsV RX3 96 RX3 yX3_mindingAt wsX3_mindingAt) := goodIn_app (goodIn_of _ (by decide +kernel)) ggX3_hearAndBuy_X3_mindingAt
set_option maxRecDepth 20000 in
theorem ggX3_hearAndBuy_X5_held : GoodIn wsX3_hearAndBuy wsX5_held := goodIn_r _ [29, 30, 8, 9, 10, 31, 32, 33] (by decide +kernel) (by decide +kernel)
set_option maxRecDepth 20000 in
theorem gX3_hearAndBuy_X5_held_n99 : GoodIn wsX3_hearAndBuy (wsX5_held) := ggX3_hearAndBuy_X5_held
set_option maxRecDepth 20000 in
theorem ggX3_hearAndBuy_X3_buyingAt : GoodIn wsX3_hearAndBuy wsX3_buyingAt := goodIn_r _ [37, 18, 5, 4, 7, 8, 9, 10, 38, 39, 22, 40, 41, 42, 43, 44, 45, 46, 47, 48, 49, 50, 51] (by decide +kernel) (by decide +kernel)
set_option maxRecDepth 20000 in
theorem gX3_hearAndBuy_X3_buyingAt : GoodIn wsX3_hearAndBuy (wsV RX3 102 RX3 yX3_buyingAt wsX3_buyingAt) := goodIn_app (goodIn_of _ (by decide +kernel)) ggX3_hearAndBuy_X3_buyingAt
theorem dX3_hearAndBuy_0 : decode cX3_hearAndBuy 0 = .ok (.aload_n 0, 1) := by decide +kernel
theorem dX3_hearAndBuy_1 : decode cX3_hearAndBuy 1 = .ok (.getfield 37, 3) := by decide +kernel
theorem dX3_hearAndBuy_4 : decode cX3_hearAndBuy 4 = .ok (.aload_n 0, 1) := by decide +kernel
theorem dX3_hearAndBuy_5 : decode cX3_hearAndBuy 5 = .ok (.getfield 15, 3) := by decide +kernel
theorem dX3_hearAndBuy_8 : decode cX3_hearAndBuy 8 = .ok (.aload_n 0, 1) := by decide +kernel
theorem dX3_hearAndBuy_9 : decode cX3_hearAndBuy 9 = .ok (.getfield 37, 3) := by decide +kernel
theorem dX3_hearAndBuy_12 : decode cX3_hearAndBuy 12 = .ok (.aload_n 0, 1) := by decide +kernel
theorem dX3_hearAndBuy_13 : decode cX3_hearAndBuy 13 = .ok (.getfield 15, 3) := by decide +kernel
theorem dX3_hearAndBuy_16 : decode cX3_hearAndBuy 16 = .ok (.iaload, 1) := by decide +kernel
theorem dX3_hearAndBuy_17 : decode cX3_hearAndBuy 17 = .ok (.aload_n 0, 1) := by decide +kernel
theorem dX3_hearAndBuy_18 : decode cX3_hearAndBuy 18 = .ok (.aload_n 0, 1) := by decide +kernel
theorem dX3_hearAndBuy_19 : decode cX3_hearAndBuy 19 = .ok (.getfield 15, 3) := by decide +kernel
theorem dX3_hearAndBuy_22 : decode cX3_hearAndBuy 22 = .ok (.aload_n 0, 1) := by decide +kernel
theorem dX3_hearAndBuy_23 : decode cX3_hearAndBuy 23 = .ok (.getfield 24, 3) := by decide +kernel
theorem dX3_hearAndBuy_26 : decode cX3_hearAndBuy 26 = .ok (.invokevirtual 96, 3) := by decide +kernel
theorem dX3_hearAndBuy_29 : decode cX3_hearAndBuy 29 = .ok (.iadd, 1) := by decide +kernel
theorem dX3_hearAndBuy_30 : decode cX3_hearAndBuy 30 = .ok (.iconst 0, 1) := by decide +kernel
theorem dX3_hearAndBuy_31 : decode cX3_hearAndBuy 31 = .ok (.bipush 20, 2) := by decide +kernel
theorem dX3_hearAndBuy_33 : decode cX3_hearAndBuy 33 = .ok (.invokestatic 99, 3) := by decide +kernel
theorem dX3_hearAndBuy_36 : decode cX3_hearAndBuy 36 = .ok (.iastore, 1) := by decide +kernel
theorem dX3_hearAndBuy_37 : decode cX3_hearAndBuy 37 = .ok (.aload_n 0, 1) := by decide +kernel
theorem dX3_hearAndBuy_38 : decode cX3_hearAndBuy 38 = .ok (.aload_n 0, 1) := by decide +kernel
theorem dX3_hearAndBuy_39 : decode cX3_hearAndBuy 39 = .ok (.getfield 15, 3) := by decide +kernel
theorem dX3_hearAndBuy_42 : decode cX3_hearAndBuy 42 = .ok (.aload_n 0, 1) := by decide +kernel
theorem dX3_hearAndBuy_43 : decode cX3_hearAndBuy 43 = .ok (.getfield 24, 3) := by decide +kernel
theorem dX3_hearAndBuy_46 : decode cX3_hearAndBuy 46 = .ok (.invokevirtual 102, 3) := by decide +kernel
theorem dX3_hearAndBuy_49 : decode cX3_hearAndBuy 49 = .ok (.istore_n 1, 1) := by decide +kernel
theorem dX3_hearAndBuy_50 : decode cX3_hearAndBuy 50 = .ok (.iconst 2, 1) := by decide +kernel
theorem dX3_hearAndBuy_51 : decode cX3_hearAndBuy 51 = .ok (.iload_n 1, 1) := by decide +kernel
theorem dX3_hearAndBuy_52 : decode cX3_hearAndBuy 52 = .ok (.imul, 1) := by decide +kernel
theorem dX3_hearAndBuy_53 : decode cX3_hearAndBuy 53 = .ok (.istore_n 2, 1) := by decide +kernel
theorem dX3_hearAndBuy_54 : decode cX3_hearAndBuy 54 = .ok (.aload_n 0, 1) := by decide +kernel
theorem dX3_hearAndBuy_55 : decode cX3_hearAndBuy 55 = .ok (.dup, 1) := by decide +kernel
theorem dX3_hearAndBuy_56 : decode cX3_hearAndBuy 56 = .ok (.getfield 21, 3) := by decide +kernel
theorem dX3_hearAndBuy_59 : decode cX3_hearAndBuy 59 = .ok (.iload_n 1, 1) := by decide +kernel
theorem dX3_hearAndBuy_60 : decode cX3_hearAndBuy 60 = .ok (.isub, 1) := by decide +kernel
theorem dX3_hearAndBuy_61 : decode cX3_hearAndBuy 61 = .ok (.putfield 21, 3) := by decide +kernel
theorem dX3_hearAndBuy_64 : decode cX3_hearAndBuy 64 = .ok (.aload_n 0, 1) := by decide +kernel
theorem dX3_hearAndBuy_65 : decode cX3_hearAndBuy 65 = .ok (.getfield 40, 3) := by decide +kernel
theorem dX3_hearAndBuy_68 : decode cX3_hearAndBuy 68 = .ok (.aload_n 0, 1) := by decide +kernel
theorem dX3_hearAndBuy_69 : decode cX3_hearAndBuy 69 = .ok (.getfield 15, 3) := by decide +kernel
theorem dX3_hearAndBuy_72 : decode cX3_hearAndBuy 72 = .ok (.dup2, 1) := by decide +kernel
theorem dX3_hearAndBuy_73 : decode cX3_hearAndBuy 73 = .ok (.iaload, 1) := by decide +kernel
theorem dX3_hearAndBuy_74 : decode cX3_hearAndBuy 74 = .ok (.iload_n 2, 1) := by decide +kernel
theorem dX3_hearAndBuy_75 : decode cX3_hearAndBuy 75 = .ok (.isub, 1) := by decide +kernel
theorem dX3_hearAndBuy_76 : decode cX3_hearAndBuy 76 = .ok (.iastore, 1) := by decide +kernel
theorem dX3_hearAndBuy_77 : decode cX3_hearAndBuy 77 = .ok (.aload_n 0, 1) := by decide +kernel
theorem dX3_hearAndBuy_78 : decode cX3_hearAndBuy 78 = .ok (.getfield 43, 3) := by decide +kernel
theorem dX3_hearAndBuy_81 : decode cX3_hearAndBuy 81 = .ok (.aload_n 0, 1) := by decide +kernel
theorem dX3_hearAndBuy_82 : decode cX3_hearAndBuy 82 = .ok (.getfield 15, 3) := by decide +kernel
theorem dX3_hearAndBuy_85 : decode cX3_hearAndBuy 85 = .ok (.sipush 9999, 3) := by decide +kernel
theorem dX3_hearAndBuy_88 : decode cX3_hearAndBuy 88 = .ok (.aload_n 0, 1) := by decide +kernel
theorem dX3_hearAndBuy_89 : decode cX3_hearAndBuy 89 = .ok (.getfield 43, 3) := by decide +kernel
theorem dX3_hearAndBuy_92 : decode cX3_hearAndBuy 92 = .ok (.aload_n 0, 1) := by decide +kernel
theorem dX3_hearAndBuy_93 : decode cX3_hearAndBuy 93 = .ok (.getfield 15, 3) := by decide +kernel
theorem dX3_hearAndBuy_96 : decode cX3_hearAndBuy 96 = .ok (.iaload, 1) := by decide +kernel
theorem dX3_hearAndBuy_97 : decode cX3_hearAndBuy 97 = .ok (.iload_n 1, 1) := by decide +kernel
theorem dX3_hearAndBuy_98 : decode cX3_hearAndBuy 98 = .ok (.iadd, 1) := by decide +kernel
theorem dX3_hearAndBuy_99 : decode cX3_hearAndBuy 99 = .ok (.invokestatic 71, 3) := by decide +kernel
theorem dX3_hearAndBuy_102 : decode cX3_hearAndBuy 102 = .ok (.iastore, 1) := by decide +kernel
theorem dX3_hearAndBuy_103 : decode cX3_hearAndBuy 103 = .ok (.aload_n 0, 1) := by decide +kernel
theorem dX3_hearAndBuy_104 : decode cX3_hearAndBuy 104 = .ok (.ldc 105, 2) := by decide +kernel
theorem dX3_hearAndBuy_106 : decode cX3_hearAndBuy 106 = .ok (.aload_n 0, 1) := by decide +kernel
theorem dX3_hearAndBuy_107 : decode cX3_hearAndBuy 107 = .ok (.getfield 30, 3) := by decide +kernel
theorem dX3_hearAndBuy_110 : decode cX3_hearAndBuy 110 = .ok (.iload_n 2, 1) := by decide +kernel
theorem dX3_hearAndBuy_111 : decode cX3_hearAndBuy 111 = .ok (.iadd, 1) := by decide +kernel
theorem dX3_hearAndBuy_112 : decode cX3_hearAndBuy 112 = .ok (.invokestatic 71, 3) := by decide +kernel
theorem dX3_hearAndBuy_115 : decode cX3_hearAndBuy 115 = .ok (.putfield 30, 3) := by decide +kernel
theorem dX3_hearAndBuy_118 : decode cX3_hearAndBuy 118 = .ok (.return_, 1) := by decide +kernel
set_option maxRecDepth 20000 in
theorem ggX3_listen_X3_toneAt : GoodIn wsX3_listen wsX3_toneAt := goodIn_r _ [12, 13, 14, 15, 16, 17, 18, 19, 20, 21, 22, 23, 24, 25, 26, 27, 28, 29, 30] (by decide +kernel) (by decide +kernel)
set_option maxRecDepth 20000 in
theorem gX3_listen_X3_toneAt : GoodIn wsX3_listen (wsV RX3 106 RX3 yX3_toneAt wsX3_toneAt) := goodIn_app (goodIn_of _ (by decide +kernel)) ggX3_listen_X3_toneAt
theorem dX3_listen_0 : decode cX3_listen 0 = .ok (.aload_n 0, 1) := by decide +kernel
theorem dX3_listen_1 : decode cX3_listen 1 = .ok (.aload_n 0, 1) := by decide +kernel
theorem dX3_listen_2 : decode cX3_listen 2 = .ok (.getfield 27, 3) := by decide +kernel
theorem dX3_listen_5 : decode cX3_listen 5 = .ok (.bipush 50, 2) := by decide +kernel
theorem dX3_listen_7 : decode cX3_listen 7 = .ok (.if_icmp .lt 7, 3) := by decide +kernel
theorem dX3_listen_10 : decode cX3_listen 10 = .ok (.iconst 3, 1) := by decide +kernel
theorem dX3_listen_11 : decode cX3_listen 11 = .ok (.goto 11, 3) := by decide +kernel
theorem dX3_listen_14 : decode cX3_listen 14 = .ok (.aload_n 0, 1) := by decide +kernel
theorem dX3_listen_15 : decode cX3_listen 15 = .ok (.aload_n 0, 1) := by decide +kernel
theorem dX3_listen_16 : decode cX3_listen 16 = .ok (.getfield 15, 3) := by decide +kernel
theorem dX3_listen_19 : decode cX3_listen 19 = .ok (.invokevirtual 106, 3) := by decide +kernel
theorem dX3_listen_22 : decode cX3_listen 22 = .ok (.putfield 24, 3) := by decide +kernel
theorem dX3_listen_25 : decode cX3_listen 25 = .ok (.aload_n 0, 1) := by decide +kernel
theorem dX3_listen_26 : decode cX3_listen 26 = .ok (.bipush 99, 2) := by decide +kernel
theorem dX3_listen_28 : decode cX3_listen 28 = .ok (.aload_n 0, 1) := by decide +kernel
theorem dX3_listen_29 : decode cX3_listen 29 = .ok (.getfield 27, 3) := by decide +kernel
theorem dX3_listen_32 : decode cX3_listen 32 = .ok (.iconst 1, 1) := by decide +kernel
theorem dX3_listen_33 : decode cX3_listen 33 = .ok (.iadd, 1) := by decide +kernel
theorem dX3_listen_34 : decode cX3_listen 34 = .ok (.invokestatic 71, 3) := by decide +kernel
theorem dX3_listen_37 : decode cX3_listen 37 = .ok (.putfield 27, 3) := by decide +kernel
theorem dX3_listen_40 : decode cX3_listen 40 = .ok (.return_, 1) := by decide +kernel
theorem dX3_walk_0 : decode cX3_walk 0 = .ok (.aload_n 0, 1) := by decide +kernel
theorem dX3_walk_1 : decode cX3_walk 1 = .ok (.getfield 18, 3) := by decide +kernel
theorem dX3_walk_4 : decode cX3_walk 4 = .ok (.iconst 1, 1) := by decide +kernel
theorem dX3_walk_5 : decode cX3_walk 5 = .ok (.if_icmp .ne 7, 3) := by decide +kernel
theorem dX3_walk_8 : decode cX3_walk 8 = .ok (.iconst 1, 1) := by decide +kernel
theorem dX3_walk_9 : decode cX3_walk 9 = .ok (.goto 5, 3) := by decide +kernel
theorem dX3_walk_12 : decode cX3_walk 12 = .ok (.bipush 7, 2) := by decide +kernel
theorem dX3_walk_14 : decode cX3_walk 14 = .ok (.istore_n 1, 1) := by decide +kernel
theorem dX3_walk_15 : decode cX3_walk 15 = .ok (.aload_n 0, 1) := by decide +kernel
theorem dX3_walk_16 : decode cX3_walk 16 = .ok (.aload_n 0, 1) := by decide +kernel
theorem dX3_walk_17 : decode cX3_walk 17 = .ok (.getfield 15, 3) := by decide +kernel
theorem dX3_walk_20 : decode cX3_walk 20 = .ok (.iload_n 1, 1) := by decide +kernel
theorem dX3_walk_21 : decode cX3_walk 21 = .ok (.iadd, 1) := by decide +kernel
theorem dX3_walk_22 : decode cX3_walk 22 = .ok (.bipush 8, 2) := by decide +kernel
theorem dX3_walk_24 : decode cX3_walk 24 = .ok (.irem, 1) := by decide +kernel
theorem dX3_walk_25 : decode cX3_walk 25 = .ok (.putfield 15, 3) := by decide +kernel
theorem dX3_walk_28 : decode cX3_walk 28 = .ok (.return_, 1) := by decide +kernel
theorem dX4_init_0 : decode cX4_init 0 = .ok (.aload_n 0, 1) := by decide +kernel
theorem dX4_init_1 : decode cX4_init 1 = .ok (.invokespecial 3, 3) := by decide +kernel
theorem dX4_init_4 : decode cX4_init 4 = .ok (.aload_n 0, 1) := by decide +kernel
theorem dX4_init_5 : decode cX4_init 5 = .ok (.aload_n 1, 1) := by decide +kernel
theorem dX4_init_6 : decode cX4_init 6 = .ok (.putfield 9, 3) := by decide +kernel
theorem dX4_init_9 : decode cX4_init 9 = .ok (.aload_n 0, 1) := by decide +kernel
theorem dX4_init_10 : decode cX4_init 10 = .ok (.iconst 0, 1) := by decide +kernel
theorem dX4_init_11 : decode cX4_init 11 = .ok (.putfield 15, 3) := by decide +kernel
theorem dX4_init_14 : decode cX4_init 14 = .ok (.aload_n 0, 1) := by decide +kernel
theorem dX4_init_15 : decode cX4_init 15 = .ok (.iconst 0, 1) := by decide +kernel
theorem dX4_init_16 : decode cX4_init 16 = .ok (.putfield 19, 3) := by decide +kernel
theorem dX4_init_19 : decode cX4_init 19 = .ok (.aload_n 0, 1) := by decide +kernel
theorem dX4_init_20 : decode cX4_init 20 = .ok (.iconst 0, 1) := by decide +kernel
theorem dX4_init_21 : decode cX4_init 21 = .ok (.putfield 22, 3) := by decide +kernel
theorem dX4_init_24 : decode cX4_init 24 = .ok (.aload_n 0, 1) := by decide +kernel
theorem dX4_init_25 : decode cX4_init 25 = .ok (.iconst 0, 1) := by decide +kernel
theorem dX4_init_26 : decode cX4_init 26 = .ok (.putfield 25, 3) := by decide +kernel
theorem dX4_init_29 : decode cX4_init 29 = .ok (.return_, 1) := by decide +kernel
set_option maxRecDepth 20000 in
theorem ggX4_tellTo_X4_advance : GoodIn wsX4_tellTo wsX4_advance := goodIn_r _ [8, 1, 2, 9, 10, 3, 11, 12, 13, 14, 7, 15, 108, 109, 110, 111, 112, 113, 114] (by decide +kernel) (by decide +kernel)
set_option maxRecDepth 20000 in
theorem gX4_tellTo_X4_advance : GoodIn wsX4_tellTo (wsV RX4 28 RX4 yX4_advance wsX4_advance) := goodIn_app (goodIn_of _ (by decide +kernel)) ggX4_tellTo_X4_advance
set_option maxRecDepth 20000 in
theorem ggX4_tellTo_X4_isItemTold : GoodIn wsX4_tellTo wsX4_isItemTold := goodIn_r _ [19, 20, 21, 22, 7, 23, 24, 25, 26, 27, 28, 29, 30, 3, 1, 2, 9, 11, 31, 32, 33, 34, 35, 36, 37, 38, 39, 40, 41, 42, 43, 44, 45, 46, 47, 48, 49, 50, 51, 52, 53, 54, 55, 56, 57, 58, 59, 60, 61, 62, 63, 64, 65, 66, 67, 68, 69, 70, 71, 72, 73, 74, 75, 76, 77, 78, 79, 80, 81, 82, 83, 84, 85, 86, 87, 88, 89, 90, 91, 4, 5, 6, 8, 10, 12, 13, 14, 15, 92, 93, 94, 95, 96, 97, 98, 99, 100, 101, 102, 103, 104, 105, 106, 107, 108, 109, 110, 111, 112, 113, 114, 115, 116, 117, 118, 119, 120, 121, 122, 123, 124, 125] (by decide +kernel) (by decide +kernel)
set_option maxRecDepth 20000 in
theorem gX4_tellTo_X4_isItemTold : GoodIn wsX4_tellTo (wsV RX4 31 RX4 yX4_isItemTold wsX4_isItemTold) := goodIn_app (goodIn_of _ (by decide +kernel)) ggX4_tellTo_X4_isItemTold
theorem dX4_tellTo_0 : decode cX4_tellTo 0 = .ok (.aload_n 0, 1) := by decide +kernel
theorem dX4_tellTo_1 : decode cX4_tellTo 1 = .ok (.iconst 0, 1) := by decide +kernel
theorem dX4_tellTo_2 : decode cX4_tellTo 2 = .ok (.putfield 22, 3) := by decide +kernel
theorem dX4_tellTo_5 : decode cX4_tellTo 5 = .ok (.aload_n 0, 1) := by decide +kernel
theorem dX4_tellTo_6 : decode cX4_tellTo 6 = .ok (.invokevirtual 28, 3) := by decide +kernel
theorem dX4_tellTo_9 : decode cX4_tellTo 9 = .ok (.iconst 1, 1) := by decide +kernel
theorem dX4_tellTo_10 : decode cX4_tellTo 10 = .ok (.istore_n 2, 1) := by decide +kernel
theorem dX4_tellTo_11 : decode cX4_tellTo 11 = .ok (.iload_n 2, 1) := by decide +kernel
theorem dX4_tellTo_12 : decode cX4_tellTo 12 = .ok (.bipush 120, 2) := by decide +kernel
theorem dX4_tellTo_14 : decode cX4_tellTo 14 = .ok (.if_icmp .gt 52, 3) := by decide +kernel
theorem dX4_tellTo_17 : decode cX4_tellTo 17 = .ok (.aload_n 0, 1) := by decide +kernel
theorem dX4_tellTo_18 : decode cX4_tellTo 18 = .ok (.aload_n 1, 1) := by decide +kernel
theorem dX4_tellTo_19 : decode cX4_tellTo 19 = .ok (.invokevirtual 31, 3) := by decide +kernel
theorem dX4_tellTo_22 : decode cX4_tellTo 22 = .ok (.ifCond .ne 10, 3) := by decide +kernel
theorem dX4_tellTo_25 : decode cX4_tellTo 25 = .ok (.iconst (-1), 1) := by decide +kernel
theorem dX4_tellTo_26 : decode cX4_tellTo 26 = .ok (.aload_n 0, 1) := by decide +kernel
theorem dX4_tellTo_27 : decode cX4_tellTo 27 = .ok (.getfield 19, 3) := by decide +kernel
theorem dX4_tellTo_30 : decode cX4_tellTo 30 = .ok (.isub, 1) := by decide +kernel
theorem dX4_tellTo_31 : decode cX4_tellTo 31 = .ok (.ireturn, 1) := by decide +kernel
theorem dX4_tellTo_32 : decode cX4_tellTo 32 = .ok (.aload_n 0, 1) := by decide +kernel
theorem dX4_tellTo_33 : decode cX4_tellTo 33 = .ok (.getfield 15, 3) := by decide +kernel
theorem dX4_tellTo_36 : decode cX4_tellTo 36 = .ok (.ifCond .ne 5, 3) := by decide +kernel
theorem dX4_tellTo_39 : decode cX4_tellTo 39 = .ok (.iload_n 2, 1) := by decide +kernel
theorem dX4_tellTo_40 : decode cX4_tellTo 40 = .ok (.ireturn, 1) := by decide +kernel
theorem dX4_tellTo_41 : decode cX4_tellTo 41 = .ok (.aload_n 0, 1) := by decide +kernel
theorem dX4_tellTo_42 : decode cX4_tellTo 42 = .ok (.getfield 15, 3) := by decide +kernel
theorem dX4_tellTo_45 : decode cX4_tellTo 45 = .ok (.iconst 3, 1) := by decide +kernel
theorem dX4_tellTo_46 : decode cX4_tellTo 46 = .ok (.if_icmp .eq 10, 3) := by decide +kernel
theorem dX4_tellTo_49 : decode cX4_tellTo 49 = .ok (.iconst (-1), 1) := by decide +kernel
theorem dX4_tellTo_50 : decode cX4_tellTo 50 = .ok (.aload_n 0, 1) := by decide +kernel
theorem dX4_tellTo_51 : decode cX4_tellTo 51 = .ok (.getfield 19, 3) := by decide +kernel
theorem dX4_tellTo_54 : decode cX4_tellTo 54 = .ok (.isub, 1) := by decide +kernel
theorem dX4_tellTo_55 : decode cX4_tellTo 55 = .ok (.ireturn, 1) := by decide +kernel
theorem dX4_tellTo_56 : decode cX4_tellTo 56 = .ok (.aload_n 0, 1) := by decide +kernel
theorem dX4_tellTo_57 : decode cX4_tellTo 57 = .ok (.invokevirtual 28, 3) := by decide +kernel
theorem dX4_tellTo_60 : decode cX4_tellTo 60 = .ok (.iinc 2 1, 3) := by decide +kernel
theorem dX4_tellTo_63 : decode cX4_tellTo 63 = .ok (.goto (-52), 3) := by decide +kernel
theorem dX4_tellTo_66 : decode cX4_tellTo 66 = .ok (.iconst (-1), 1) := by decide +kernel
theorem dX4_tellTo_67 : decode cX4_tellTo 67 = .ok (.aload_n 0, 1) := by decide +kernel
theorem dX4_tellTo_68 : decode cX4_tellTo 68 = .ok (.getfield 19, 3) := by decide +kernel
theorem dX4_tellTo_71 : decode cX4_tellTo 71 = .ok (.isub, 1) := by decide +kernel
theorem dX4_tellTo_72 : decode cX4_tellTo 72 = .ok (.ireturn, 1) := by decide +kernel
set_option maxRecDepth 20000 in
theorem ggX4_isItemTold_X4_kindNamed : GoodIn wsX4_isItemTold wsX4_kindNamed := goodIn_r _ [5, 6, 7, 4, 8, 9, 10, 11, 12, 13, 14, 15, 16, 17, 18, 19, 20, 21, 22, 23, 24, 25, 26, 27, 28, 29, 30, 31, 32, 33, 34, 35, 36, 37, 38, 39, 40, 41, 42, 43, 44, 45, 46, 47, 48, 49, 50, 51, 52, 53, 54, 55, 56, 57, 58, 59, 60, 61, 62, 63, 64, 65, 66, 104, 105, 106, 107, 108, 109, 110] (by decide +kernel) (by decide +kernel)
set_option maxRecDepth 20000 in
theorem gX4_isItemTold_X4_kindNamed : GoodIn wsX4_isItemTold (wsV RX4 35 RX4 yX4_kindNamed wsX4_kindNamed) := goodIn_app (goodIn_of _ (by decide +kernel)) ggX4_isItemTold_X4_kindNamed
set_option maxRecDepth 20000 in
theorem ggX4_isItemTold_X4_isHouseTold : GoodIn wsX4_isItemTold wsX4_isHouseTold := goodIn_r _ [70, 71, 72, 73, 74, 75, 76, 77, 4, 78, 13, 15, 14, 16, 17, 79, 80, 81, 82, 83, 84, 85, 86, 87, 9, 10, 11, 12, 18, 19, 20, 21, 22, 23, 24, 25, 26, 27, 28, 29, 30, 31, 32, 33, 34, 35, 36, 37, 38, 39, 40, 41, 42, 43, 44, 45, 46, 47, 48, 49, 50, 51, 52, 53, 54, 55, 56, 57, 58, 59, 60, 61, 62, 63, 64, 65, 66, 104, 105, 106, 107, 108, 111, 112, 113, 114, 115, 116, 117, 118, 119, 120, 121, 109, 110] (by decide +kernel) (by decide +kernel)
set_option maxRecDepth 20000 in
theorem gX4_isItemTold_X4_isHouseTold : GoodIn wsX4_isItemTold (wsV RX4 41 RX4 yX4_isHouseTold wsX4_isHouseTold) := goodIn_app (goodIn_of _ (by decide +kernel)) ggX4_isItemTold_X4_isHouseTold
set_option maxRecDepth 20000 in
theorem ggX4_isItemTold_X4_isWord : GoodIn wsX4_isItemTold wsX4_isWord := goodIn_r _ [12, 13, 14, 15, 16, 17, 18, 19, 20, 21, 22, 23, 24, 25, 26, 27, 28, 29, 30, 31, 32, 33, 34, 35, 36, 37, 38, 39, 40, 41, 42, 43, 44, 45, 46, 47, 48, 49, 50, 51, 52, 53, 54, 55, 56, 57, 58, 59, 60, 61, 62, 63, 64, 65, 66, 104, 105, 106, 107, 108, 109, 110] (by decide +kernel) (by decide +kernel)
set_option maxRecDepth 20000 in
theorem gX4_isItemTold_X4_isWord : GoodIn wsX4_isItemTold (wsV RX4 47 RX4 yX4_isWord wsX4_isWord) := goodIn_app (goodIn_of _ (by decide +kernel)) ggX4_isItemTold_X4_isWord
set_option maxRecDepth 20000 in
theorem ggX4_isItemTold_X4_isManTold : GoodIn wsX4_isItemTold wsX4_isManTold := goodIn_r _ [91, 71, 92, 93, 75, 76, 77, 4, 78, 13, 15, 14, 16, 17, 79, 80, 81, 82, 83, 84, 85, 86, 87, 9, 10, 11, 12, 18, 19, 20, 21, 22, 23, 24, 25, 26, 27, 28, 29, 30, 31, 32, 33, 34, 35, 36, 37, 38, 39, 40, 41, 42, 43, 44, 45, 46, 47, 48, 49, 50, 51, 52, 53, 54, 55, 56, 57, 58, 59, 60, 61, 62, 63, 64, 65, 66, 104, 105, 106, 107, 108, 111, 112, 113, 114, 115, 116, 117, 118, 119, 120, 121, 109, 110] (by decide +kernel) (by decide +kernel)
set_option maxRecDepth 20000 in
theorem gX4_isItemTold_X4_isManTold : GoodIn wsX4_isItemTold (wsV RX4 51 RX4 yX4_isManTold wsX4_isManTold) := goodIn_app (goodIn_of _ (by decide +kernel)) ggX4_isItemTold_X4_isManTold
set_option maxRecDepth 20000 in
theorem ggX4_isItemTold_X4_isTrayTold : GoodIn wsX4_isItemTold wsX4_isTrayTold := goodIn_r _ [97, 71, 98, 75, 76, 77, 4, 78, 13, 15, 14, 16, 17, 79, 80, 81, 82, 83, 84, 85, 86, 87, 104, 105, 106, 107, 108, 111, 112, 113, 114, 115, 116, 117, 118, 119, 120, 121, 109, 110] (by decide +kernel) (by decide +kernel)
set_option maxRecDepth 20000 in
theorem gX4_isItemTold_X4_isTrayTold : GoodIn wsX4_isItemTold (wsV RX4 56 RX4 yX4_isTrayTold wsX4_isTrayTold) := goodIn_app (goodIn_of _ (by decide +kernel)) ggX4_isItemTold_X4_isTrayTold
set_option maxRecDepth 20000 in
theorem ggX4_isItemTold_X4_isCrackTold : GoodIn wsX4_isItemTold wsX4_isCrackTold := goodIn_r _ [102, 71, 103, 75, 76, 77, 4, 78, 13, 15, 14, 16, 17, 79, 80, 81, 82, 83, 84, 85, 86, 87, 104, 105, 106, 107, 108, 111, 112, 113, 114, 115, 116, 117, 118, 119, 120, 121, 109, 110] (by decide +kernel) (by decide +kernel)
set_option maxRecDepth 20000 in
theorem gX4_isItemTold_X4_isCrackTold : GoodIn wsX4_isItemTold (wsV RX4 61 RX4 yX4_isCrackTold wsX4_isCrackTold) := goodIn_app (goodIn_of _ (by decide +kernel)) ggX4_isItemTold_X4_isCrackTold
theorem dX4_isItemTold_0 : decode cX4_isItemTold 0 = .ok (.aload_n 0, 1) := by decide +kernel
theorem dX4_isItemTold_1 : decode cX4_isItemTold 1 = .ok (.invokevirtual 35, 3) := by decide +kernel
theorem dX4_isItemTold_4 : decode cX4_isItemTold 4 = .ok (.istore_n 2, 1) := by decide +kernel
theorem dX4_isItemTold_5 : decode cX4_isItemTold 5 = .ok (.iload_n 2, 1) := by decide +kernel
theorem dX4_isItemTold_6 : decode cX4_isItemTold 6 = .ok (.iconst (-1), 1) := by decide +kernel
theorem dX4_isItemTold_7 : decode cX4_isItemTold 7 = .ok (.if_icmp .eq 10, 3) := by decide +kernel
theorem dX4_isItemTold_10 : decode cX4_isItemTold 10 = .ok (.aload_n 0, 1) := by decide +kernel
theorem dX4_isItemTold_11 : decode cX4_isItemTold 11 = .ok (.aload_n 1, 1) := by decide +kernel
theorem dX4_isItemTold_12 : decode cX4_isItemTold 12 = .ok (.iload_n 2, 1) := by decide +kernel
theorem dX4_isItemTold_13 : decode cX4_isItemTold 13 = .ok (.invokevirtual 41, 3) := by decide +kernel
theorem dX4_isItemTold_16 : decode cX4_isItemTold 16 = .ok (.ireturn, 1) := by decide +kernel
theorem dX4_isItemTold_17 : decode cX4_isItemTold 17 = .ok (.aload_n 0, 1) := by decide +kernel
theorem dX4_isItemTold_18 : decode cX4_isItemTold 18 = .ok (.ldc 45, 2) := by decide +kernel
theorem dX4_isItemTold_20 : decode cX4_isItemTold 20 = .ok (.invokevirtual 47, 3) := by decide +kernel
theorem dX4_isItemTold_23 : decode cX4_isItemTold 23 = .ok (.ifCond .eq 9, 3) := by decide +kernel
theorem dX4_isItemTold_26 : decode cX4_isItemTold 26 = .ok (.aload_n 0, 1) := by decide +kernel
theorem dX4_isItemTold_27 : decode cX4_isItemTold 27 = .ok (.aload_n 1, 1) := by decide +kernel
theorem dX4_isItemTold_28 : decode cX4_isItemTold 28 = .ok (.invokevirtual 51, 3) := by decide +kernel
theorem dX4_isItemTold_31 : decode cX4_isItemTold 31 = .ok (.ireturn, 1) := by decide +kernel
theorem dX4_isItemTold_32 : decode cX4_isItemTold 32 = .ok (.aload_n 0, 1) := by decide +kernel
theorem dX4_isItemTold_33 : decode cX4_isItemTold 33 = .ok (.ldc 54, 2) := by decide +kernel
theorem dX4_isItemTold_35 : decode cX4_isItemTold 35 = .ok (.invokevirtual 47, 3) := by decide +kernel
theorem dX4_isItemTold_38 : decode cX4_isItemTold 38 = .ok (.ifCond .eq 9, 3) := by decide +kernel
theorem dX4_isItemTold_41 : decode cX4_isItemTold 41 = .ok (.aload_n 0, 1) := by decide +kernel
theorem dX4_isItemTold_42 : decode cX4_isItemTold 42 = .ok (.aload_n 1, 1) := by decide +kernel
theorem dX4_isItemTold_43 : decode cX4_isItemTold 43 = .ok (.invokevirtual 56, 3) := by decide +kernel
theorem dX4_isItemTold_46 : decode cX4_isItemTold 46 = .ok (.ireturn, 1) := by decide +kernel
theorem dX4_isItemTold_47 : decode cX4_isItemTold 47 = .ok (.aload_n 0, 1) := by decide +kernel
theorem dX4_isItemTold_48 : decode cX4_isItemTold 48 = .ok (.ldc 59, 2) := by decide +kernel
theorem dX4_isItemTold_50 : decode cX4_isItemTold 50 = .ok (.invokevirtual 47, 3) := by decide +kernel
theorem dX4_isItemTold_53 : decode cX4_isItemTold 53 = .ok (.ifCond .eq 15, 3) := by decide +kernel
theorem dX4_isItemTold_56 : decode cX4_isItemTold 56 = .ok (.aload_n 0, 1) := by decide +kernel
theorem dX4_isItemTold_57 : decode cX4_isItemTold 57 = .ok (.aload_n 1, 1) := by decide +kernel
theorem dX4_isItemTold_58 : decode cX4_isItemTold 58 = .ok (.invokevirtual 61, 3) := by decide +kernel
theorem dX4_isItemTold_61 : decode cX4_isItemTold 61 = .ok (.ifCond .eq 7, 3) := by decide +kernel
theorem dX4_isItemTold_64 : decode cX4_isItemTold 64 = .ok (.iconst 1, 1) := by decide +kernel
theorem dX4_isItemTold_65 : decode cX4_isItemTold 65 = .ok (.goto 4, 3) := by decide +kernel
theorem dX4_isItemTold_68 : decode cX4_isItemTold 68 = .ok (.iconst 0, 1) := by decide +kernel
theorem dX4_isItemTold_69 : decode cX4_isItemTold 69 = .ok (.ireturn, 1) := by decide +kernel
set_option maxRecDepth 20000 in
theorem ggX4_isHouseTold_X4_isNumberNext : GoodIn wsX4_isHouseTold wsX4_isNumberNext := goodIn_r _ [9, 10, 1, 11, 12, 13, 14, 15, 16, 17, 8, 18, 19, 20, 21, 22, 23, 77, 78, 79, 80, 81, 93, 94] (by decide +kernel) (by decide +kernel)
set_option maxRecDepth 20000 in
theorem gX4_isHouseTold_X4_isNumberNext : GoodIn wsX4_isHouseTold (wsV RX4 64 RX4 yX4_isNumberNext wsX4_isNumberNext) := goodIn_app (goodIn_of _ (by decide +kernel)) ggX4_isHouseTold_X4_isNumberNext
set_option maxRecDepth 20000 in
theorem ggX4_isHouseTold_X4_isWord : GoodIn wsX4_isHouseTold wsX4_isWord := goodIn_r _ [27, 10, 12, 11, 13, 14, 28, 29, 30, 31, 32, 33, 34, 35, 36, 37, 38, 39, 40, 41, 42, 43, 44, 45, 46, 47, 48, 49, 50, 51, 52, 53, 54, 55, 56, 57, 58, 59, 60, 61, 62, 63, 64, 65, 66, 67, 68, 69, 70, 71, 72, 73, 74, 75, 76, 77, 78, 79, 80, 81, 93, 94] (by decide +kernel) (by decide +kernel)
set_option maxRecDepth 20000 in
theorem gX4_isHouseTold_X4_isWord : GoodIn wsX4_isHouseTold (wsV RX4 47 RX4 yX4_isWord wsX4_isWord) := goodIn_app (goodIn_of _ (by decide +kernel)) ggX4_isHouseTold_X4_isWord
theorem dX4_isHouseTold_0 : decode cX4_isHouseTold 0 = .ok (.aload_n 0, 1) := by decide +kernel
theorem dX4_isHouseTold_1 : decode cX4_isHouseTold 1 = .ok (.bipush 7, 2) := by decide +kernel
theorem dX4_isHouseTold_3 : decode cX4_isHouseTold 3 = .ok (.invokevirtual 64, 3) := by decide +kernel
theorem dX4_isHouseTold_6 : decode cX4_isHouseTold 6 = .ok (.ifCond .ne 5, 3) := by decide +kernel
theorem dX4_isHouseTold_9 : decode cX4_isHouseTold 9 = .ok (.iconst 0, 1) := by decide +kernel
theorem dX4_isHouseTold_10 : decode cX4_isHouseTold 10 = .ok (.ireturn, 1) := by decide +kernel
theorem dX4_isHouseTold_11 : decode cX4_isHouseTold 11 = .ok (.aload_n 0, 1) := by decide +kernel
theorem dX4_isHouseTold_12 : decode cX4_isHouseTold 12 = .ok (.getfield 25, 3) := by decide +kernel
theorem dX4_isHouseTold_15 : decode cX4_isHouseTold 15 = .ok (.istore_n 3, 1) := by decide +kernel
theorem dX4_isHouseTold_16 : decode cX4_isHouseTold 16 = .ok (.aload_n 1, 1) := by decide +kernel
theorem dX4_isHouseTold_17 : decode cX4_isHouseTold 17 = .ok (.getfield 68, 3) := by decide +kernel
theorem dX4_isHouseTold_20 : decode cX4_isHouseTold 20 = .ok (.iload_n 3, 1) := by decide +kernel
theorem dX4_isHouseTold_21 : decode cX4_isHouseTold 21 = .ok (.iload_n 2, 1) := by decide +kernel
theorem dX4_isHouseTold_22 : decode cX4_isHouseTold 22 = .ok (.iastore, 1) := by decide +kernel
theorem dX4_isHouseTold_23 : decode cX4_isHouseTold 23 = .ok (.aload_n 0, 1) := by decide +kernel
theorem dX4_isHouseTold_24 : decode cX4_isHouseTold 24 = .ok (.ldc 74, 2) := by decide +kernel
theorem dX4_isHouseTold_26 : decode cX4_isHouseTold 26 = .ok (.invokevirtual 47, 3) := by decide +kernel
theorem dX4_isHouseTold_29 : decode cX4_isHouseTold 29 = .ok (.ifCond .eq 24, 3) := by decide +kernel
theorem dX4_isHouseTold_32 : decode cX4_isHouseTold 32 = .ok (.aload_n 0, 1) := by decide +kernel
theorem dX4_isHouseTold_33 : decode cX4_isHouseTold 33 = .ok (.bipush 20, 2) := by decide +kernel
theorem dX4_isHouseTold_35 : decode cX4_isHouseTold 35 = .ok (.invokevirtual 64, 3) := by decide +kernel
theorem dX4_isHouseTold_38 : decode cX4_isHouseTold 38 = .ok (.ifCond .ne 5, 3) := by decide +kernel
theorem dX4_isHouseTold_41 : decode cX4_isHouseTold 41 = .ok (.iconst 0, 1) := by decide +kernel
theorem dX4_isHouseTold_42 : decode cX4_isHouseTold 42 = .ok (.ireturn, 1) := by decide +kernel
theorem dX4_isHouseTold_43 : decode cX4_isHouseTold 43 = .ok (.aload_n 1, 1) := by decide +kernel
theorem dX4_isHouseTold_44 : decode cX4_isHouseTold 44 = .ok (.getfield 76, 3) := by decide +kernel
theorem dX4_isHouseTold_47 : decode cX4_isHouseTold 47 = .ok (.iload_n 3, 1) := by decide +kernel
theorem dX4_isHouseTold_48 : decode cX4_isHouseTold 48 = .ok (.aload_n 0, 1) := by decide +kernel
theorem dX4_isHouseTold_49 : decode cX4_isHouseTold 49 = .ok (.getfield 25, 3) := by decide +kernel
theorem dX4_isHouseTold_52 : decode cX4_isHouseTold 52 = .ok (.iastore, 1) := by decide +kernel
theorem dX4_isHouseTold_53 : decode cX4_isHouseTold 53 = .ok (.aload_n 0, 1) := by decide +kernel
theorem dX4_isHouseTold_54 : decode cX4_isHouseTold 54 = .ok (.ldc 79, 2) := by decide +kernel
theorem dX4_isHouseTold_56 : decode cX4_isHouseTold 56 = .ok (.invokevirtual 47, 3) := by decide +kernel
theorem dX4_isHouseTold_59 : decode cX4_isHouseTold 59 = .ok (.ifCond .eq 25, 3) := by decide +kernel
theorem dX4_isHouseTold_62 : decode cX4_isHouseTold 62 = .ok (.aload_n 0, 1) := by decide +kernel
theorem dX4_isHouseTold_63 : decode cX4_isHouseTold 63 = .ok (.sipush 999, 3) := by decide +kernel
theorem dX4_isHouseTold_66 : decode cX4_isHouseTold 66 = .ok (.invokevirtual 64, 3) := by decide +kernel
theorem dX4_isHouseTold_69 : decode cX4_isHouseTold 69 = .ok (.ifCond .ne 5, 3) := by decide +kernel
theorem dX4_isHouseTold_72 : decode cX4_isHouseTold 72 = .ok (.iconst 0, 1) := by decide +kernel
theorem dX4_isHouseTold_73 : decode cX4_isHouseTold 73 = .ok (.ireturn, 1) := by decide +kernel
theorem dX4_isHouseTold_74 : decode cX4_isHouseTold 74 = .ok (.aload_n 1, 1) := by decide +kernel
theorem dX4_isHouseTold_75 : decode cX4_isHouseTold 75 = .ok (.getfield 81, 3) := by decide +kernel
theorem dX4_isHouseTold_78 : decode cX4_isHouseTold 78 = .ok (.iload_n 3, 1) := by decide +kernel
theorem dX4_isHouseTold_79 : decode cX4_isHouseTold 79 = .ok (.aload_n 0, 1) := by decide +kernel
theorem dX4_isHouseTold_80 : decode cX4_isHouseTold 80 = .ok (.getfield 25, 3) := by decide +kernel
theorem dX4_isHouseTold_83 : decode cX4_isHouseTold 83 = .ok (.iastore, 1) := by decide +kernel
theorem dX4_isHouseTold_84 : decode cX4_isHouseTold 84 = .ok (.iconst 1, 1) := by decide +kernel
theorem dX4_isHouseTold_85 : decode cX4_isHouseTold 85 = .ok (.ireturn, 1) := by decide +kernel
set_option maxRecDepth 20000 in
theorem ggX4_isManTold_X4_isNumberNext : GoodIn wsX4_isManTold wsX4_isNumberNext := goodIn_r _ [8, 9, 1, 10, 11, 12, 13, 14, 15, 16, 7, 17, 18, 19, 20, 21, 22, 76, 77, 78, 79, 80, 92, 93] (by decide +kernel) (by decide +kernel)
set_option maxRecDepth 20000 in
theorem gX4_isManTold_X4_isNumberNext : GoodIn wsX4_isManTold (wsV RX4 64 RX4 yX4_isNumberNext wsX4_isNumberNext) := goodIn_app (goodIn_of _ (by decide +kernel)) ggX4_isManTold_X4_isNumberNext
set_option maxRecDepth 20000 in
theorem ggX4_isManTold_X4_isWord : GoodIn wsX4_isManTold wsX4_isWord := goodIn_r _ [26, 9, 11, 10, 12, 13, 27, 28, 29, 30, 31, 32, 33, 34, 35, 36, 37, 38, 39, 40, 41, 42, 43, 44, 45, 46, 47, 48, 49, 50, 51, 52, 53, 54, 55, 56, 57, 58, 59, 60, 61, 62, 63, 64, 65, 66, 67, 68, 69, 70, 71, 72, 73, 74, 75, 76, 77, 78, 79, 80, 92, 93] (by decide +kernel) (by decide +kernel)
set_option maxRecDepth 20000 in
theorem gX4_isManTold_X4_isWord : GoodIn wsX4_isManTold (wsV RX4 47 RX4 yX4_isWord wsX4_isWord) := goodIn_app (goodIn_of _ (by decide +kernel)) ggX4_isManTold_X4_isWord
set_option maxRecDepth 20000 in
theorem ggX4_isManTold_X4_advance : GoodIn wsX4_isManTold wsX4_advance := goodIn_r _ [17, 11, 10, 12, 18, 9, 13, 19, 20, 21, 7, 22, 76, 77, 78, 79, 80, 92, 93] (by decide +kernel) (by decide +kernel)
set_option maxRecDepth 20000 in
theorem gX4_isManTold_X4_advance : GoodIn wsX4_isManTold (wsV RX4 28 RX4 yX4_advance wsX4_advance) := goodIn_app (goodIn_of _ (by decide +kernel)) ggX4_isManTold_X4_advance
theorem dX4_isManTold_0 : decode cX4_isManTold 0 = .ok (.aload_n 0, 1) := by decide +kernel
theorem dX4_isManTold_1 : decode cX4_isManTold 1 = .ok (.bipush 7, 2) := by decide +kernel
theorem dX4_isManTold_3 : decode cX4_isManTold 3 = .ok (.invokevirtual 64, 3) := by decide +kernel
theorem dX4_isManTold_6 : decode cX4_isManTold 6 = .ok (.ifCond .ne 5, 3) := by decide +kernel
theorem dX4_isManTold_9 : decode cX4_isManTold 9 = .ok (.iconst 0, 1) := by decide +kernel
theorem dX4_isManTold_10 : decode cX4_isManTold 10 = .ok (.ireturn, 1) := by decide +kernel
theorem dX4_isManTold_11 : decode cX4_isManTold 11 = .ok (.aload_n 1, 1) := by decide +kernel
theorem dX4_isManTold_12 : decode cX4_isManTold 12 = .ok (.aload_n 0, 1) := by decide +kernel
theorem dX4_isManTold_13 : decode cX4_isManTold 13 = .ok (.getfield 25, 3) := by decide +kernel
theorem dX4_isManTold_16 : decode cX4_isManTold 16 = .ok (.putfield 83, 3) := by decide +kernel
theorem dX4_isManTold_19 : decode cX4_isManTold 19 = .ok (.aload_n 1, 1) := by decide +kernel
theorem dX4_isManTold_20 : decode cX4_isManTold 20 = .ok (.iconst 1, 1) := by decide +kernel
theorem dX4_isManTold_21 : decode cX4_isManTold 21 = .ok (.putfield 86, 3) := by decide +kernel
theorem dX4_isManTold_24 : decode cX4_isManTold 24 = .ok (.aload_n 0, 1) := by decide +kernel
theorem dX4_isManTold_25 : decode cX4_isManTold 25 = .ok (.ldc 89, 2) := by decide +kernel
theorem dX4_isManTold_27 : decode cX4_isManTold 27 = .ok (.invokevirtual 47, 3) := by decide +kernel
theorem dX4_isManTold_30 : decode cX4_isManTold 30 = .ok (.ifCond .eq 12, 3) := by decide +kernel
theorem dX4_isManTold_33 : decode cX4_isManTold 33 = .ok (.aload_n 1, 1) := by decide +kernel
theorem dX4_isManTold_34 : decode cX4_isManTold 34 = .ok (.iconst 0, 1) := by decide +kernel
theorem dX4_isManTold_35 : decode cX4_isManTold 35 = .ok (.putfield 86, 3) := by decide +kernel
theorem dX4_isManTold_38 : decode cX4_isManTold 38 = .ok (.aload_n 0, 1) := by decide +kernel
theorem dX4_isManTold_39 : decode cX4_isManTold 39 = .ok (.invokevirtual 28, 3) := by decide +kernel
theorem dX4_isManTold_42 : decode cX4_isManTold 42 = .ok (.iconst 1, 1) := by decide +kernel
theorem dX4_isManTold_43 : decode cX4_isManTold 43 = .ok (.ireturn, 1) := by decide +kernel
set_option maxRecDepth 20000 in
theorem ggX4_isTrayTold_X4_isNumberNext : GoodIn wsX4_isTrayTold wsX4_isNumberNext := goodIn_r _ [7, 8, 1, 9, 10, 11, 12, 13, 14, 15, 6, 16, 17, 18, 19, 20, 21, 22, 23, 24, 25, 26, 38, 39] (by decide +kernel) (by decide +kernel)
set_option maxRecDepth 20000 in
theorem gX4_isTrayTold_X4_isNumberNext : GoodIn wsX4_isTrayTold (wsV RX4 64 RX4 yX4_isNumberNext wsX4_isNumberNext) := goodIn_app (goodIn_of _ (by decide +kernel)) ggX4_isTrayTold_X4_isNumberNext
theorem dX4_isTrayTold_0 : decode cX4_isTrayTold 0 = .ok (.aload_n 0, 1) := by decide +kernel
theorem dX4_isTrayTold_1 : decode cX4_isTrayTold 1 = .ok (.sipush 999, 3) := by decide +kernel
theorem dX4_isTrayTold_4 : decode cX4_isTrayTold 4 = .ok (.invokevirtual 64, 3) := by decide +kernel
theorem dX4_isTrayTold_7 : decode cX4_isTrayTold 7 = .ok (.ifCond .ne 5, 3) := by decide +kernel
theorem dX4_isTrayTold_10 : decode cX4_isTrayTold 10 = .ok (.iconst 0, 1) := by decide +kernel
theorem dX4_isTrayTold_11 : decode cX4_isTrayTold 11 = .ok (.ireturn, 1) := by decide +kernel
theorem dX4_isTrayTold_12 : decode cX4_isTrayTold 12 = .ok (.aload_n 1, 1) := by decide +kernel
theorem dX4_isTrayTold_13 : decode cX4_isTrayTold 13 = .ok (.aload_n 0, 1) := by decide +kernel
theorem dX4_isTrayTold_14 : decode cX4_isTrayTold 14 = .ok (.getfield 25, 3) := by decide +kernel
theorem dX4_isTrayTold_17 : decode cX4_isTrayTold 17 = .ok (.putfield 91, 3) := by decide +kernel
theorem dX4_isTrayTold_20 : decode cX4_isTrayTold 20 = .ok (.iconst 1, 1) := by decide +kernel
theorem dX4_isTrayTold_21 : decode cX4_isTrayTold 21 = .ok (.ireturn, 1) := by decide +kernel
set_option maxRecDepth 20000 in
theorem ggX4_isCrackTold_X4_isNumberNext : GoodIn wsX4_isCrackTold wsX4_isNumberNext := goodIn_r _ [7, 8, 1, 9, 10, 11, 12, 13, 14, 15, 6, 16, 17, 18, 19, 20, 21, 22, 23, 24, 25, 26, 38, 39] (by decide +kernel) (by decide +kernel)
set_option maxRecDepth 20000 in
theorem gX4_isCrackTold_X4_isNumberNext : GoodIn wsX4_isCrackTold (wsV RX4 64 RX4 yX4_isNumberNext wsX4_isNumberNext) := goodIn_app (goodIn_of _ (by decide +kernel)) ggX4_isCrackTold_X4_isNumberNext
theorem dX4_isCrackTold_0 : decode cX4_isCrackTold 0 = .ok (.aload_n 0, 1) := by decide +kernel
theorem dX4_isCrackTold_1 : decode cX4_isCrackTold 1 = .ok (.bipush 99, 2) := by decide +kernel
theorem dX4_isCrackTold_3 : decode cX4_isCrackTold 3 = .ok (.invokevirtual 64, 3) := by decide +kernel
theorem dX4_isCrackTold_6 : decode cX4_isCrackTold 6 = .ok (.ifCond .ne 5, 3) := by decide +kernel
theorem dX4_isCrackTold_9 : decode cX4_isCrackTold 9 = .ok (.iconst 0, 1) := by decide +kernel
theorem dX4_isCrackTold_10 : decode cX4_isCrackTold 10 = .ok (.ireturn, 1) := by decide +kernel
theorem dX4_isCrackTold_11 : decode cX4_isCrackTold 11 = .ok (.aload_n 1, 1) := by decide +kernel
theorem dX4_isCrackTold_12 : decode cX4_isCrackTold 12 = .ok (.aload_n 0, 1) := by decide +kernel
theorem dX4_isCrackTold_13 : decode cX4_isCrackTold 13 = .ok (.getfield 25, 3) := by decide +kernel
theorem dX4_isCrackTold_16 : decode cX4_isCrackTold 16 = .ok (.putfield 93, 3) := by decide +kernel
theorem dX4_isCrackTold_19 : decode cX4_isCrackTold 19 = .ok (.iconst 1, 1) := by decide +kernel
theorem dX4_isCrackTold_20 : decode cX4_isCrackTold 20 = .ok (.ireturn, 1) := by decide +kernel
set_option maxRecDepth 20000 in
theorem ggX4_kindNamed_X4_nameOf : GoodIn wsX4_kindNamed wsX4_nameOf := goodIn_r _ [4] (by decide +kernel) (by decide +kernel)
set_option maxRecDepth 20000 in
theorem gX4_kindNamed_X4_nameOf : GoodIn wsX4_kindNamed (va_wsS RX4 95 yX4_nameOf wsX4_nameOf) := goodIn_app (goodIn_of _ (by decide +kernel)) ggX4_kindNamed_X4_nameOf
set_option maxRecDepth 20000 in
theorem ggX4_kindNamed_X4_isWord : GoodIn wsX4_kindNamed wsX4_isWord := goodIn_r _ [8, 9, 10, 11, 12, 13, 14, 15, 16, 17, 18, 19, 20, 21, 22, 23, 24, 25, 26, 27, 28, 29, 30, 31, 32, 33, 34, 35, 36, 37, 38, 39, 40, 41, 42, 43, 44, 45, 46, 47, 48, 49, 50, 51, 52, 53, 54, 55, 56, 57, 58, 59, 60, 61, 62, 63, 64, 65, 66, 67, 68, 69] (by decide +kernel) (by decide +kernel)
set_option maxRecDepth 20000 in
theorem gX4_kindNamed_X4_isWord : GoodIn wsX4_kindNamed (wsV RX4 47 RX4 yX4_isWord wsX4_isWord) := goodIn_app (goodIn_of _ (by decide +kernel)) ggX4_kindNamed_X4_isWord
theorem dX4_kindNamed_0 : decode cX4_kindNamed 0 = .ok (.iconst 0, 1) := by decide +kernel
theorem dX4_kindNamed_1 : decode cX4_kindNamed 1 = .ok (.istore_n 1, 1) := by decide +kernel
theorem dX4_kindNamed_2 : decode cX4_kindNamed 2 = .ok (.iload_n 1, 1) := by decide +kernel
theorem dX4_kindNamed_3 : decode cX4_kindNamed 3 = .ok (.bipush 6, 2) := by decide +kernel
theorem dX4_kindNamed_5 : decode cX4_kindNamed 5 = .ok (.if_icmp .ge 22, 3) := by decide +kernel
theorem dX4_kindNamed_8 : decode cX4_kindNamed 8 = .ok (.aload_n 0, 1) := by decide +kernel
theorem dX4_kindNamed_9 : decode cX4_kindNamed 9 = .ok (.iload_n 1, 1) := by decide +kernel
theorem dX4_kindNamed_10 : decode cX4_kindNamed 10 = .ok (.invokestatic 95, 3) := by decide +kernel
theorem dX4_kindNamed_13 : decode cX4_kindNamed 13 = .ok (.invokevirtual 47, 3) := by decide +kernel
theorem dX4_kindNamed_16 : decode cX4_kindNamed 16 = .ok (.ifCond .eq 5, 3) := by decide +kernel
theorem dX4_kindNamed_19 : decode cX4_kindNamed 19 = .ok (.iload_n 1, 1) := by decide +kernel
theorem dX4_kindNamed_20 : decode cX4_kindNamed 20 = .ok (.ireturn, 1) := by decide +kernel
theorem dX4_kindNamed_21 : decode cX4_kindNamed 21 = .ok (.iinc 1 1, 3) := by decide +kernel
theorem dX4_kindNamed_24 : decode cX4_kindNamed 24 = .ok (.goto (-22), 3) := by decide +kernel
theorem dX4_kindNamed_27 : decode cX4_kindNamed 27 = .ok (.iconst (-1), 1) := by decide +kernel
theorem dX4_kindNamed_28 : decode cX4_kindNamed 28 = .ok (.ireturn, 1) := by decide +kernel
theorem dX4_nameOf_0 : decode cX4_nameOf 0 = .ok (.iload_n 0, 1) := by decide +kernel
theorem dX4_nameOf_1 : decode cX4_nameOf 1 = .ok (.tableswitch 50 1 5 #[35, 38, 41, 44, 47], 35) := by decide +kernel
theorem dX4_nameOf_36 : decode cX4_nameOf 36 = .ok (.ldc 99, 2) := by decide +kernel
theorem dX4_nameOf_38 : decode cX4_nameOf 38 = .ok (.areturn, 1) := by decide +kernel
theorem dX4_nameOf_39 : decode cX4_nameOf 39 = .ok (.ldc 101, 2) := by decide +kernel
theorem dX4_nameOf_41 : decode cX4_nameOf 41 = .ok (.areturn, 1) := by decide +kernel
theorem dX4_nameOf_42 : decode cX4_nameOf 42 = .ok (.ldc 103, 2) := by decide +kernel
theorem dX4_nameOf_44 : decode cX4_nameOf 44 = .ok (.areturn, 1) := by decide +kernel
theorem dX4_nameOf_45 : decode cX4_nameOf 45 = .ok (.ldc 105, 2) := by decide +kernel
theorem dX4_nameOf_47 : decode cX4_nameOf 47 = .ok (.areturn, 1) := by decide +kernel
theorem dX4_nameOf_48 : decode cX4_nameOf 48 = .ok (.ldc 107, 2) := by decide +kernel
theorem dX4_nameOf_50 : decode cX4_nameOf 50 = .ok (.areturn, 1) := by decide +kernel
theorem dX4_nameOf_51 : decode cX4_nameOf 51 = .ok (.ldc 109, 2) := by decide +kernel
theorem dX4_nameOf_53 : decode cX4_nameOf 53 = .ok (.areturn, 1) := by decide +kernel
set_option maxRecDepth 20000 in
theorem ggX4_isWord_J0_length_8abf5 : GoodIn wsX4_isWord wsJ0_length_8abf5 := goodIn_r _ [10, 11, 12, 13, 14, 9, 15, 16, 17] (by decide +kernel) (by decide +kernel)
set_option maxRecDepth 20000 in
theorem gX4_isWord_J0_length_8abf5 : GoodIn wsX4_isWord (wsV RX4 111 RJ0 yJ0_length_8abf5 wsJ0_length_8abf5) := goodIn_app (goodIn_of _ (by decide +kernel)) ggX4_isWord_J0_length_8abf5
set_option maxRecDepth 20000 in
theorem ggX4_isWord_J0_charAt_5068e : GoodIn wsX4_isWord wsJ0_charAt_5068e := goodIn_r _ [21, 11, 22, 23, 24, 9, 25, 16, 17, 26, 27, 28, 29, 30, 31, 32, 33, 34, 35, 36, 37, 38, 39, 40, 41, 42, 43, 44, 45, 46, 47, 48, 49, 50, 51, 52, 53, 54] (by decide +kernel) (by decide +kernel)
set_option maxRecDepth 20000 in
theorem gX4_isWord_J0_charAt_5068e : GoodIn wsX4_isWord (wsV RX4 121 RJ0 yJ0_charAt_5068e wsJ0_charAt_5068e) := goodIn_app (goodIn_of _ (by decide +kernel)) ggX4_isWord_J0_charAt_5068e
theorem dX4_isWord_0 : decode cX4_isWord 0 = .ok (.aload_n 0, 1) := by decide +kernel
theorem dX4_isWord_1 : decode cX4_isWord 1 = .ok (.getfield 15, 3) := by decide +kernel
theorem dX4_isWord_4 : decode cX4_isWord 4 = .ok (.iconst 1, 1) := by decide +kernel
theorem dX4_isWord_5 : decode cX4_isWord 5 = .ok (.if_icmp .ne 19, 3) := by decide +kernel
theorem dX4_isWord_8 : decode cX4_isWord 8 = .ok (.aload_n 0, 1) := by decide +kernel
theorem dX4_isWord_9 : decode cX4_isWord 9 = .ok (.getfield 22, 3) := by decide +kernel
theorem dX4_isWord_12 : decode cX4_isWord 12 = .ok (.aload_n 0, 1) := by decide +kernel
theorem dX4_isWord_13 : decode cX4_isWord 13 = .ok (.getfield 19, 3) := by decide +kernel
theorem dX4_isWord_16 : decode cX4_isWord 16 = .ok (.isub, 1) := by decide +kernel
theorem dX4_isWord_17 : decode cX4_isWord 17 = .ok (.aload_n 1, 1) := by decide +kernel
theorem dX4_isWord_18 : decode cX4_isWord 18 = .ok (.invokevirtual 111, 3) := by decide +kernel
theorem dX4_isWord_21 : decode cX4_isWord 21 = .ok (.if_icmp .eq 5, 3) := by decide +kernel
theorem dX4_isWord_24 : decode cX4_isWord 24 = .ok (.iconst 0, 1) := by decide +kernel
theorem dX4_isWord_25 : decode cX4_isWord 25 = .ok (.ireturn, 1) := by decide +kernel
theorem dX4_isWord_26 : decode cX4_isWord 26 = .ok (.iconst 0, 1) := by decide +kernel
theorem dX4_isWord_27 : decode cX4_isWord 27 = .ok (.istore_n 2, 1) := by decide +kernel
theorem dX4_isWord_28 : decode cX4_isWord 28 = .ok (.iload_n 2, 1) := by decide +kernel
theorem dX4_isWord_29 : decode cX4_isWord 29 = .ok (.aload_n 1, 1) := by decide +kernel
theorem dX4_isWord_30 : decode cX4_isWord 30 = .ok (.invokevirtual 111, 3) := by decide +kernel
theorem dX4_isWord_33 : decode cX4_isWord 33 = .ok (.if_icmp .ge 33, 3) := by decide +kernel
theorem dX4_isWord_36 : decode cX4_isWord 36 = .ok (.aload_n 0, 1) := by decide +kernel
theorem dX4_isWord_37 : decode cX4_isWord 37 = .ok (.getfield 9, 3) := by decide +kernel
theorem dX4_isWord_40 : decode cX4_isWord 40 = .ok (.getfield 116, 3) := by decide +kernel
theorem dX4_isWord_43 : decode cX4_isWord 43 = .ok (.aload_n 0, 1) := by decide +kernel
theorem dX4_isWord_44 : decode cX4_isWord 44 = .ok (.getfield 19, 3) := by decide +kernel
theorem dX4_isWord_47 : decode cX4_isWord 47 = .ok (.iload_n 2, 1) := by decide +kernel
theorem dX4_isWord_48 : decode cX4_isWord 48 = .ok (.iadd, 1) := by decide +kernel
theorem dX4_isWord_49 : decode cX4_isWord 49 = .ok (.iaload, 1) := by decide +kernel
theorem dX4_isWord_50 : decode cX4_isWord 50 = .ok (.aload_n 1, 1) := by decide +kernel
theorem dX4_isWord_51 : decode cX4_isWord 51 = .ok (.iload_n 2, 1) := by decide +kernel
theorem dX4_isWord_52 : decode cX4_isWord 52 = .ok (.invokevirtual 121, 3) := by decide +kernel
theorem dX4_isWord_55 : decode cX4_isWord 55 = .ok (.if_icmp .eq 5, 3) := by decide +kernel
theorem dX4_isWord_58 : decode cX4_isWord 58 = .ok (.iconst 0, 1) := by decide +kernel
theorem dX4_isWord_59 : decode cX4_isWord 59 = .ok (.ireturn, 1) := by decide +kernel
theorem dX4_isWord_60 : decode cX4_isWord 60 = .ok (.iinc 2 1, 3) := by decide +kernel
theorem dX4_isWord_63 : decode cX4_isWord 63 = .ok (.goto (-35), 3) := by decide +kernel
theorem dX4_isWord_66 : decode cX4_isWord 66 = .ok (.iconst 1, 1) := by decide +kernel
theorem dX4_isWord_67 : decode cX4_isWord 67 = .ok (.ireturn, 1) := by decide +kernel
set_option maxRecDepth 20000 in
theorem ggX4_isNumberNext_X4_advance : GoodIn wsX4_isNumberNext wsX4_advance := goodIn_r _ [11, 4, 3, 5, 12, 1, 6, 13, 14, 15, 10, 16, 17, 18, 19, 20, 21, 22, 23] (by decide +kernel) (by decide +kernel)
set_option maxRecDepth 20000 in
theorem gX4_isNumberNext_X4_advance : GoodIn wsX4_isNumberNext (wsV RX4 28 RX4 yX4_advance wsX4_advance) := goodIn_app (goodIn_of _ (by decide +kernel)) ggX4_isNumberNext_X4_advance
theorem dX4_isNumberNext_0 : decode cX4_isNumberNext 0 = .ok (.aload_n 0, 1) := by decide +kernel
theorem dX4_isNumberNext_1 : decode cX4_isNumberNext 1 = .ok (.invokevirtual 28, 3) := by decide +kernel
theorem dX4_isNumberNext_4 : decode cX4_isNumberNext 4 = .ok (.aload_n 0, 1) := by decide +kernel
theorem dX4_isNumberNext_5 : decode cX4_isNumberNext 5 = .ok (.getfield 15, 3) := by decide +kernel
theorem dX4_isNumberNext_8 : decode cX4_isNumberNext 8 = .ok (.iconst 2, 1) := by decide +kernel
theorem dX4_isNumberNext_9 : decode cX4_isNumberNext 9 = .ok (.if_icmp .eq 5, 3) := by decide +kernel
theorem dX4_isNumberNext_12 : decode cX4_isNumberNext 12 = .ok (.iconst 0, 1) := by decide +kernel
theorem dX4_isNumberNext_13 : decode cX4_isNumberNext 13 = .ok (.ireturn, 1) := by decide +kernel
theorem dX4_isNumberNext_14 : decode cX4_isNumberNext 14 = .ok (.aload_n 0, 1) := by decide +kernel
theorem dX4_isNumberNext_15 : decode cX4_isNumberNext 15 = .ok (.iconst 0, 1) := by decide +kernel
theorem dX4_isNumberNext_16 : decode cX4_isNumberNext 16 = .ok (.putfield 25, 3) := by decide +kernel
theorem dX4_isNumberNext_19 : decode cX4_isNumberNext 19 = .ok (.aload_n 0, 1) := by decide +kernel
theorem dX4_isNumberNext_20 : decode cX4_isNumberNext 20 = .ok (.getfield 19, 3) := by decide +kernel
theorem dX4_isNumberNext_23 : decode cX4_isNumberNext 23 = .ok (.istore_n 2, 1) := by decide +kernel
theorem dX4_isNumberNext_24 : decode cX4_isNumberNext 24 = .ok (.iload_n 2, 1) := by decide +kernel
theorem dX4_isNumberNext_25 : decode cX4_isNumberNext 25 = .ok (.aload_n 0, 1) := by decide +kernel
theorem dX4_isNumberNext_26 : decode cX4_isNumberNext 26 = .ok (.getfield 22, 3) := by decide +kernel
theorem dX4_isNumberNext_29 : decode cX4_isNumberNext 29 = .ok (.if_icmp .ge 43, 3) := by decide +kernel
theorem dX4_isNumberNext_32 : decode cX4_isNumberNext 32 = .ok (.aload_n 0, 1) := by decide +kernel
theorem dX4_isNumberNext_33 : decode cX4_isNumberNext 33 = .ok (.bipush 10, 2) := by decide +kernel
theorem dX4_isNumberNext_35 : decode cX4_isNumberNext 35 = .ok (.aload_n 0, 1) := by decide +kernel
theorem dX4_isNumberNext_36 : decode cX4_isNumberNext 36 = .ok (.getfield 25, 3) := by decide +kernel
theorem dX4_isNumberNext_39 : decode cX4_isNumberNext 39 = .ok (.imul, 1) := by decide +kernel
theorem dX4_isNumberNext_40 : decode cX4_isNumberNext 40 = .ok (.aload_n 0, 1) := by decide +kernel
theorem dX4_isNumberNext_41 : decode cX4_isNumberNext 41 = .ok (.getfield 9, 3) := by decide +kernel
theorem dX4_isNumberNext_44 : decode cX4_isNumberNext 44 = .ok (.getfield 116, 3) := by decide +kernel
theorem dX4_isNumberNext_47 : decode cX4_isNumberNext 47 = .ok (.iload_n 2, 1) := by decide +kernel
theorem dX4_isNumberNext_48 : decode cX4_isNumberNext 48 = .ok (.iaload, 1) := by decide +kernel
theorem dX4_isNumberNext_49 : decode cX4_isNumberNext 49 = .ok (.iadd, 1) := by decide +kernel
theorem dX4_isNumberNext_50 : decode cX4_isNumberNext 50 = .ok (.bipush 48, 2) := by decide +kernel
theorem dX4_isNumberNext_52 : decode cX4_isNumberNext 52 = .ok (.isub, 1) := by decide +kernel
theorem dX4_isNumberNext_53 : decode cX4_isNumberNext 53 = .ok (.putfield 25, 3) := by decide +kernel
theorem dX4_isNumberNext_56 : decode cX4_isNumberNext 56 = .ok (.aload_n 0, 1) := by decide +kernel
theorem dX4_isNumberNext_57 : decode cX4_isNumberNext 57 = .ok (.getfield 25, 3) := by decide +kernel
theorem dX4_isNumberNext_60 : decode cX4_isNumberNext 60 = .ok (.iload_n 1, 1) := by decide +kernel
theorem dX4_isNumberNext_61 : decode cX4_isNumberNext 61 = .ok (.if_icmp .le 5, 3) := by decide +kernel
theorem dX4_isNumberNext_64 : decode cX4_isNumberNext 64 = .ok (.iconst 0, 1) := by decide +kernel
theorem dX4_isNumberNext_65 : decode cX4_isNumberNext 65 = .ok (.ireturn, 1) := by decide +kernel
theorem dX4_isNumberNext_66 : decode cX4_isNumberNext 66 = .ok (.iinc 2 1, 3) := by decide +kernel
theorem dX4_isNumberNext_69 : decode cX4_isNumberNext 69 = .ok (.goto (-45), 3) := by decide +kernel
theorem dX4_isNumberNext_72 : decode cX4_isNumberNext 72 = .ok (.aload_n 0, 1) := by decide +kernel
theorem dX4_isNumberNext_73 : decode cX4_isNumberNext 73 = .ok (.invokevirtual 28, 3) := by decide +kernel
theorem dX4_isNumberNext_76 : decode cX4_isNumberNext 76 = .ok (.iconst 1, 1) := by decide +kernel
theorem dX4_isNumberNext_77 : decode cX4_isNumberNext 77 = .ok (.ireturn, 1) := by decide +kernel
set_option maxRecDepth 20000 in
theorem ggX4_advance_X4_placeBehind : GoodIn wsX4_advance wsX4_placeBehind := goodIn_r _ [11, 3, 4, 6, 12, 13, 14, 15, 16, 17, 18] (by decide +kernel) (by decide +kernel)
set_option maxRecDepth 20000 in
theorem gX4_advance_X4_placeBehind : GoodIn wsX4_advance (wsV RX4 125 RX4 yX4_placeBehind wsX4_placeBehind) := goodIn_app (goodIn_of _ (by decide +kernel)) ggX4_advance_X4_placeBehind
theorem dX4_advance_0 : decode cX4_advance 0 = .ok (.aload_n 0, 1) := by decide +kernel
theorem dX4_advance_1 : decode cX4_advance 1 = .ok (.aload_n 0, 1) := by decide +kernel
theorem dX4_advance_2 : decode cX4_advance 2 = .ok (.aload_n 0, 1) := by decide +kernel
theorem dX4_advance_3 : decode cX4_advance 3 = .ok (.getfield 22, 3) := by decide +kernel
theorem dX4_advance_6 : decode cX4_advance 6 = .ok (.bipush 32, 2) := by decide +kernel
theorem dX4_advance_8 : decode cX4_advance 8 = .ok (.bipush 32, 2) := by decide +kernel
theorem dX4_advance_10 : decode cX4_advance 10 = .ok (.invokevirtual 125, 3) := by decide +kernel
theorem dX4_advance_13 : decode cX4_advance 13 = .ok (.putfield 19, 3) := by decide +kernel
theorem dX4_advance_16 : decode cX4_advance 16 = .ok (.aload_n 0, 1) := by decide +kernel
theorem dX4_advance_17 : decode cX4_advance 17 = .ok (.aload_n 0, 1) := by decide +kernel
theorem dX4_advance_18 : decode cX4_advance 18 = .ok (.getfield 19, 3) := by decide +kernel
theorem dX4_advance_21 : decode cX4_advance 21 = .ok (.bipush 97, 2) := by decide +kernel
theorem dX4_advance_23 : decode cX4_advance 23 = .ok (.bipush 122, 2) := by decide +kernel
theorem dX4_advance_25 : decode cX4_advance 25 = .ok (.invokevirtual 125, 3) := by decide +kernel
theorem dX4_advance_28 : decode cX4_advance 28 = .ok (.istore_n 1, 1) := by decide +kernel
theorem dX4_advance_29 : decode cX4_advance 29 = .ok (.aload_n 0, 1) := by decide +kernel
theorem dX4_advance_30 : decode cX4_advance 30 = .ok (.aload_n 0, 1) := by decide +kernel
theorem dX4_advance_31 : decode cX4_advance 31 = .ok (.getfield 19, 3) := by decide +kernel
theorem dX4_advance_34 : decode cX4_advance 34 = .ok (.bipush 48, 2) := by decide +kernel
theorem dX4_advance_36 : decode cX4_advance 36 = .ok (.bipush 57, 2) := by decide +kernel
theorem dX4_advance_38 : decode cX4_advance 38 = .ok (.invokevirtual 125, 3) := by decide +kernel
theorem dX4_advance_41 : decode cX4_advance 41 = .ok (.istore_n 2, 1) := by decide +kernel
theorem dX4_advance_42 : decode cX4_advance 42 = .ok (.aload_n 0, 1) := by decide +kernel
theorem dX4_advance_43 : decode cX4_advance 43 = .ok (.getfield 19, 3) := by decide +kernel
theorem dX4_advance_46 : decode cX4_advance 46 = .ok (.aload_n 0, 1) := by decide +kernel
theorem dX4_advance_47 : decode cX4_advance 47 = .ok (.getfield 9, 3) := by decide +kernel
theorem dX4_advance_50 : decode cX4_advance 50 = .ok (.getfield 129, 3) := by decide +kernel
theorem dX4_advance_53 : decode cX4_advance 53 = .ok (.if_icmp .lt 19, 3) := by decide +kernel
theorem dX4_advance_56 : decode cX4_advance 56 = .ok (.aload_n 0, 1) := by decide +kernel
theorem dX4_advance_57 : decode cX4_advance 57 = .ok (.iconst 0, 1) := by decide +kernel
theorem dX4_advance_58 : decode cX4_advance 58 = .ok (.putfield 15, 3) := by decide +kernel
theorem dX4_advance_61 : decode cX4_advance 61 = .ok (.aload_n 0, 1) := by decide +kernel
theorem dX4_advance_62 : decode cX4_advance 62 = .ok (.aload_n 0, 1) := by decide +kernel
theorem dX4_advance_63 : decode cX4_advance 63 = .ok (.getfield 19, 3) := by decide +kernel
theorem dX4_advance_66 : decode cX4_advance 66 = .ok (.putfield 22, 3) := by decide +kernel
theorem dX4_advance_69 : decode cX4_advance 69 = .ok (.goto 81, 3) := by decide +kernel
theorem dX4_advance_72 : decode cX4_advance 72 = .ok (.iload_n 1, 1) := by decide +kernel
theorem dX4_advance_73 : decode cX4_advance 73 = .ok (.aload_n 0, 1) := by decide +kernel
theorem dX4_advance_74 : decode cX4_advance 74 = .ok (.getfield 19, 3) := by decide +kernel
theorem dX4_advance_77 : decode cX4_advance 77 = .ok (.if_icmp .le 16, 3) := by decide +kernel
theorem dX4_advance_80 : decode cX4_advance 80 = .ok (.aload_n 0, 1) := by decide +kernel
theorem dX4_advance_81 : decode cX4_advance 81 = .ok (.iconst 1, 1) := by decide +kernel
theorem dX4_advance_82 : decode cX4_advance 82 = .ok (.putfield 15, 3) := by decide +kernel
theorem dX4_advance_85 : decode cX4_advance 85 = .ok (.aload_n 0, 1) := by decide +kernel
theorem dX4_advance_86 : decode cX4_advance 86 = .ok (.iload_n 1, 1) := by decide +kernel
theorem dX4_advance_87 : decode cX4_advance 87 = .ok (.putfield 22, 3) := by decide +kernel
theorem dX4_advance_90 : decode cX4_advance 90 = .ok (.goto 60, 3) := by decide +kernel
theorem dX4_advance_93 : decode cX4_advance 93 = .ok (.iload_n 2, 1) := by decide +kernel
theorem dX4_advance_94 : decode cX4_advance 94 = .ok (.aload_n 0, 1) := by decide +kernel
theorem dX4_advance_95 : decode cX4_advance 95 = .ok (.getfield 19, 3) := by decide +kernel
theorem dX4_advance_98 : decode cX4_advance 98 = .ok (.if_icmp .le 16, 3) := by decide +kernel
theorem dX4_advance_101 : decode cX4_advance 101 = .ok (.aload_n 0, 1) := by decide +kernel
theorem dX4_advance_102 : decode cX4_advance 102 = .ok (.iconst 2, 1) := by decide +kernel
theorem dX4_advance_103 : decode cX4_advance 103 = .ok (.putfield 15, 3) := by decide +kernel
theorem dX4_advance_106 : decode cX4_advance 106 = .ok (.aload_n 0, 1) := by decide +kernel
theorem dX4_advance_107 : decode cX4_advance 107 = .ok (.iload_n 2, 1) := by decide +kernel
theorem dX4_advance_108 : decode cX4_advance 108 = .ok (.putfield 22, 3) := by decide +kernel
theorem dX4_advance_111 : decode cX4_advance 111 = .ok (.goto 39, 3) := by decide +kernel
theorem dX4_advance_114 : decode cX4_advance 114 = .ok (.aload_n 0, 1) := by decide +kernel
theorem dX4_advance_115 : decode cX4_advance 115 = .ok (.aload_n 0, 1) := by decide +kernel
theorem dX4_advance_116 : decode cX4_advance 116 = .ok (.getfield 9, 3) := by decide +kernel
theorem dX4_advance_119 : decode cX4_advance 119 = .ok (.getfield 116, 3) := by decide +kernel
theorem dX4_advance_122 : decode cX4_advance 122 = .ok (.aload_n 0, 1) := by decide +kernel
theorem dX4_advance_123 : decode cX4_advance 123 = .ok (.getfield 19, 3) := by decide +kernel
theorem dX4_advance_126 : decode cX4_advance 126 = .ok (.iaload, 1) := by decide +kernel
theorem dX4_advance_127 : decode cX4_advance 127 = .ok (.bipush 59, 2) := by decide +kernel
theorem dX4_advance_129 : decode cX4_advance 129 = .ok (.if_icmp .ne 7, 3) := by decide +kernel
theorem dX4_advance_132 : decode cX4_advance 132 = .ok (.iconst 3, 1) := by decide +kernel
theorem dX4_advance_133 : decode cX4_advance 133 = .ok (.goto 4, 3) := by decide +kernel
theorem dX4_advance_136 : decode cX4_advance 136 = .ok (.iconst 4, 1) := by decide +kernel
theorem dX4_advance_137 : decode cX4_advance 137 = .ok (.putfield 15, 3) := by decide +kernel
theorem dX4_advance_140 : decode cX4_advance 140 = .ok (.aload_n 0, 1) := by decide +kernel
theorem dX4_advance_141 : decode cX4_advance 141 = .ok (.aload_n 0, 1) := by decide +kernel
theorem dX4_advance_142 : decode cX4_advance 142 = .ok (.getfield 19, 3) := by decide +kernel
theorem dX4_advance_145 : decode cX4_advance 145 = .ok (.iconst 1, 1) := by decide +kernel
theorem dX4_advance_146 : decode cX4_advance 146 = .ok (.iadd, 1) := by decide +kernel
theorem dX4_advance_147 : decode cX4_advance 147 = .ok (.putfield 22, 3) := by decide +kernel
theorem dX4_advance_150 : decode cX4_advance 150 = .ok (.return_, 1) := by decide +kernel
theorem dX4_placeBehind_0 : decode cX4_placeBehind 0 = .ok (.iload_n 1, 1) := by decide +kernel
theorem dX4_placeBehind_1 : decode cX4_placeBehind 1 = .ok (.istore 4, 2) := by decide +kernel
theorem dX4_placeBehind_3 : decode cX4_placeBehind 3 = .ok (.iload 4, 2) := by decide +kernel
theorem dX4_placeBehind_5 : decode cX4_placeBehind 5 = .ok (.aload_n 0, 1) := by decide +kernel
theorem dX4_placeBehind_6 : decode cX4_placeBehind 6 = .ok (.getfield 9, 3) := by decide +kernel
theorem dX4_placeBehind_9 : decode cX4_placeBehind 9 = .ok (.getfield 129, 3) := by decide +kernel
theorem dX4_placeBehind_12 : decode cX4_placeBehind 12 = .ok (.if_icmp .ge 37, 3) := by decide +kernel
theorem dX4_placeBehind_15 : decode cX4_placeBehind 15 = .ok (.aload_n 0, 1) := by decide +kernel
theorem dX4_placeBehind_16 : decode cX4_placeBehind 16 = .ok (.getfield 9, 3) := by decide +kernel
theorem dX4_placeBehind_19 : decode cX4_placeBehind 19 = .ok (.getfield 116, 3) := by decide +kernel
theorem dX4_placeBehind_22 : decode cX4_placeBehind 22 = .ok (.iload 4, 2) := by decide +kernel
theorem dX4_placeBehind_24 : decode cX4_placeBehind 24 = .ok (.iaload, 1) := by decide +kernel
theorem dX4_placeBehind_25 : decode cX4_placeBehind 25 = .ok (.iload_n 2, 1) := by decide +kernel
theorem dX4_placeBehind_26 : decode cX4_placeBehind 26 = .ok (.if_icmp .lt 23, 3) := by decide +kernel
theorem dX4_placeBehind_29 : decode cX4_placeBehind 29 = .ok (.aload_n 0, 1) := by decide +kernel
theorem dX4_placeBehind_30 : decode cX4_placeBehind 30 = .ok (.getfield 9, 3) := by decide +kernel
theorem dX4_placeBehind_33 : decode cX4_placeBehind 33 = .ok (.getfield 116, 3) := by decide +kernel
theorem dX4_placeBehind_36 : decode cX4_placeBehind 36 = .ok (.iload 4, 2) := by decide +kernel
theorem dX4_placeBehind_38 : decode cX4_placeBehind 38 = .ok (.iaload, 1) := by decide +kernel
theorem dX4_placeBehind_39 : decode cX4_placeBehind 39 = .ok (.iload_n 3, 1) := by decide +kernel
theorem dX4_placeBehind_40 : decode cX4_placeBehind 40 = .ok (.if_icmp .gt 9, 3) := by decide +kernel
theorem dX4_placeBehind_43 : decode cX4_placeBehind 43 = .ok (.iinc 4 1, 3) := by decide +kernel
theorem dX4_placeBehind_46 : decode cX4_placeBehind 46 = .ok (.goto (-43), 3) := by decide +kernel
theorem dX4_placeBehind_49 : decode cX4_placeBehind 49 = .ok (.iload 4, 2) := by decide +kernel
theorem dX4_placeBehind_51 : decode cX4_placeBehind 51 = .ok (.ireturn, 1) := by decide +kernel
set_option maxRecDepth 20000 in
theorem ggX5_init_X3_init : GoodIn wsX5_init wsX3_init := goodIn_r _ [27, 28, 2, 3, 29, 30, 31, 32, 33, 34, 35, 23, 36, 37, 38, 39, 40, 41, 42, 43, 67, 68, 69, 70, 71, 72, 73, 74, 75, 76, 77] (by decide +kernel) (by decide +kernel)
set_option maxRecDepth 20000 in
theorem gX5_init_X3_init : GoodIn wsX5_init (wsX3_init) := ggX5_init_X3_init
set_option maxRecDepth 20000 in
theorem ggX5_init_X2_init : GoodIn wsX5_init wsX2_init := goodIn_r _ [46, 47, 2, 3, 23, 48, 49, 86, 87] (by decide +kernel) (by decide +kernel)
set_option maxRecDepth 20000 in
theorem gX5_init_X2_init : GoodIn wsX5_init (wsX2_init) := ggX5_init_X2_init
set_option maxRecDepth 20000 in
theorem ggX5_init_X4_init : GoodIn wsX5_init wsX4_init := goodIn_r _ [52, 53, 2, 3, 54, 55, 56, 57, 58, 88, 89, 90, 91, 92] (by decide +kernel) (by decide +kernel)
set_option maxRecDepth 20000 in
theorem gX5_init_X4_init : GoodIn wsX5_init (wsX4_init) := ggX5_init_X4_init
set_option maxRecDepth 20000 in
theorem ggX5_init_X1_init : GoodIn wsX5_init wsX1_init := goodIn_r _ [61, 62, 2, 3, 63, 64, 65, 66, 93, 94, 95] (by decide +kernel) (by decide +kernel)
set_option maxRecDepth 20000 in
theorem gX5_init_X1_init : GoodIn wsX5_init (wsX1_init) := ggX5_init_X1_init
theorem dX5_init_0 : decode cX5_init 0 = .ok (.aload_n 0, 1) := by decide +kernel
theorem dX5_init_1 : decode cX5_init 1 = .ok (.invokespecial 1, 3) := by decide +kernel
theorem dX5_init_4 : decode cX5_init 4 = .ok (.aload_n 0, 1) := by decide +kernel
theorem dX5_init_5 : decode cX5_init 5 = .ok (.new 7, 3) := by decide +kernel
theorem dX5_init_8 : decode cX5_init 8 = .ok (.dup, 1) := by decide +kernel
theorem dX5_init_9 : decode cX5_init 9 = .ok (.invokespecial 9, 3) := by decide +kernel
theorem dX5_init_12 : decode cX5_init 12 = .ok (.putfield 10, 3) := by decide +kernel
theorem dX5_init_15 : decode cX5_init 15 = .ok (.aload_n 0, 1) := by decide +kernel
theorem dX5_init_16 : decode cX5_init 16 = .ok (.new 7, 3) := by decide +kernel
theorem dX5_init_19 : decode cX5_init 19 = .ok (.dup, 1) := by decide +kernel
theorem dX5_init_20 : decode cX5_init 20 = .ok (.invokespecial 9, 3) := by decide +kernel
theorem dX5_init_23 : decode cX5_init 23 = .ok (.putfield 16, 3) := by decide +kernel
theorem dX5_init_26 : decode cX5_init 26 = .ok (.aload_n 0, 1) := by decide +kernel
theorem dX5_init_27 : decode cX5_init 27 = .ok (.new 7, 3) := by decide +kernel
theorem dX5_init_30 : decode cX5_init 30 = .ok (.dup, 1) := by decide +kernel
theorem dX5_init_31 : decode cX5_init 31 = .ok (.invokespecial 9, 3) := by decide +kernel
theorem dX5_init_34 : decode cX5_init 34 = .ok (.putfield 19, 3) := by decide +kernel
theorem dX5_init_37 : decode cX5_init 37 = .ok (.aload_n 0, 1) := by decide +kernel
theorem dX5_init_38 : decode cX5_init 38 = .ok (.iconst 0, 1) := by decide +kernel
theorem dX5_init_39 : decode cX5_init 39 = .ok (.putfield 22, 3) := by decide +kernel
theorem dX5_init_42 : decode cX5_init 42 = .ok (.aload_n 0, 1) := by decide +kernel
theorem dX5_init_43 : decode cX5_init 43 = .ok (.new 26, 3) := by decide +kernel
theorem dX5_init_46 : decode cX5_init 46 = .ok (.dup, 1) := by decide +kernel
theorem dX5_init_47 : decode cX5_init 47 = .ok (.invokespecial 28, 3) := by decide +kernel
theorem dX5_init_50 : decode cX5_init 50 = .ok (.putfield 29, 3) := by decide +kernel
theorem dX5_init_53 : decode cX5_init 53 = .ok (.aload_n 0, 1) := by decide +kernel
theorem dX5_init_54 : decode cX5_init 54 = .ok (.new 33, 3) := by decide +kernel
theorem dX5_init_57 : decode cX5_init 57 = .ok (.dup, 1) := by decide +kernel
theorem dX5_init_58 : decode cX5_init 58 = .ok (.aload_n 0, 1) := by decide +kernel
theorem dX5_init_59 : decode cX5_init 59 = .ok (.getfield 29, 3) := by decide +kernel
theorem dX5_init_62 : decode cX5_init 62 = .ok (.invokespecial 35, 3) := by decide +kernel
theorem dX5_init_65 : decode cX5_init 65 = .ok (.putfield 38, 3) := by decide +kernel
theorem dX5_init_68 : decode cX5_init 68 = .ok (.aload_n 0, 1) := by decide +kernel
theorem dX5_init_69 : decode cX5_init 69 = .ok (.iconst 4, 1) := by decide +kernel
theorem dX5_init_70 : decode cX5_init 70 = .ok (.anewarray 42, 3) := by decide +kernel
theorem dX5_init_73 : decode cX5_init 73 = .ok (.putfield 44, 3) := by decide +kernel
theorem dX5_init_76 : decode cX5_init 76 = .ok (.iconst 0, 1) := by decide +kernel
theorem dX5_init_77 : decode cX5_init 77 = .ok (.istore_n 1, 1) := by decide +kernel
