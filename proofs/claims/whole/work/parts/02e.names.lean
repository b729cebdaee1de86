theorem dX6_set_3 : decode cX6_set 3 = .ok (.ldc2_w 107, 3) := by decide +kernel
theorem dX6_set_6 : decode cX6_set 6 = .ok (.invokestatic 48, 3) := by decide +kernel
theorem dX6_set_9 : decode cX6_set 9 = .ok (.ifCond .eq 41, 3) := by decide +kernel
theorem dX6_set_12 : decode cX6_set 12 = .ok (.iload_n 3, 1) := by decide +kernel
theorem dX6_set_13 : decode cX6_set 13 = .ok (.i2l, 1) := by decide +kernel
theorem dX6_set_14 : decode cX6_set 14 = .ok (.lconst 0, 1) := by decide +kernel
theorem dX6_set_15 : decode cX6_set 15 = .ok (.iload_n 2, 1) := by decide +kernel
theorem dX6_set_16 : decode cX6_set 16 = .ok (.iconst 1, 1) := by decide +kernel
theorem dX6_set_17 : decode cX6_set 17 = .ok (.if_icmp .ne 9, 3) := by decide +kernel
theorem dX6_set_20 : decode cX6_set 20 = .ok (.ldc2_w 109, 3) := by decide +kernel
theorem dX6_set_23 : decode cX6_set 23 = .ok (.goto 17, 3) := by decide +kernel
theorem dX6_set_26 : decode cX6_set 26 = .ok (.iload_n 2, 1) := by decide +kernel
theorem dX6_set_27 : decode cX6_set 27 = .ok (.iconst 2, 1) := by decide +kernel
theorem dX6_set_28 : decode cX6_set 28 = .ok (.if_icmp .ne 9, 3) := by decide +kernel
theorem dX6_set_31 : decode cX6_set 31 = .ok (.ldc2_w 60, 3) := by decide +kernel
theorem dX6_set_34 : decode cX6_set 34 = .ok (.goto 6, 3) := by decide +kernel
theorem dX6_set_37 : decode cX6_set 37 = .ok (.ldc2_w 111, 3) := by decide +kernel
theorem dX6_set_40 : decode cX6_set 40 = .ok (.invokestatic 48, 3) := by decide +kernel
theorem dX6_set_43 : decode cX6_set 43 = .ok (.ifCond .eq 7, 3) := by decide +kernel
theorem dX6_set_46 : decode cX6_set 46 = .ok (.iconst 1, 1) := by decide +kernel
theorem dX6_set_47 : decode cX6_set 47 = .ok (.goto 4, 3) := by decide +kernel
theorem dX6_set_50 : decode cX6_set 50 = .ok (.iconst 0, 1) := by decide +kernel
theorem dX6_set_51 : decode cX6_set 51 = .ok (.istore 4, 2) := by decide +kernel
theorem dX6_set_53 : decode cX6_set 53 = .ok (.iload_n 1, 1) := by decide +kernel
theorem dX6_set_54 : decode cX6_set 54 = .ok (.invokestatic 56, 3) := by decide +kernel
theorem dX6_set_57 : decode cX6_set 57 = .ok (.ifCond .eq 21, 3) := by decide +kernel
theorem dX6_set_60 : decode cX6_set 60 = .ok (.iload 4, 2) := by decide +kernel
theorem dX6_set_62 : decode cX6_set 62 = .ok (.ifCond .eq 16, 3) := by decide +kernel
theorem dX6_set_65 : decode cX6_set 65 = .ok (.aload_n 0, 1) := by decide +kernel
theorem dX6_set_66 : decode cX6_set 66 = .ok (.iload_n 1, 1) := by decide +kernel
theorem dX6_set_67 : decode cX6_set 67 = .ok (.iload_n 2, 1) := by decide +kernel
theorem dX6_set_68 : decode cX6_set 68 = .ok (.invokestatic 41, 3) := by decide +kernel
theorem dX6_set_71 : decode cX6_set 71 = .ok (.iload_n 3, 1) := by decide +kernel
theorem dX6_set_72 : decode cX6_set 72 = .ok (.invokevirtual 70, 3) := by decide +kernel
theorem dX6_set_75 : decode cX6_set 75 = .ok (.goto 9, 3) := by decide +kernel
theorem dX6_set_78 : decode cX6_set 78 = .ok (.aload_n 0, 1) := by decide +kernel
theorem dX6_set_79 : decode cX6_set 79 = .ok (.ldc 45, 2) := by decide +kernel
theorem dX6_set_81 : decode cX6_set 81 = .ok (.invokevirtual 73, 3) := by decide +kernel
theorem dX6_set_84 : decode cX6_set 84 = .ok (.ireturn, 1) := by decide +kernel
set_option maxRecDepth 20000 in
theorem ggX6_turn_X6_isHouse : GoodIn wsX6_turn wsX6_isHouse := goodIn_r _ [5, 6, 7, 8, 4, 9] (by decide +kernel) (by decide +kernel)
set_option maxRecDepth 20000 in
theorem gX6_turn_X6_isHouse : GoodIn wsX6_turn (va_wsS RX6 56 yX6_isHouse wsX6_isHouse) := goodIn_app (goodIn_of _ (by decide +kernel)) ggX6_turn_X6_isHouse
set_option maxRecDepth 20000 in
theorem ggX6_turn_X6_isKind : GoodIn wsX6_turn wsX6_isKind := goodIn_r _ [12, 13, 7, 8, 4, 9] (by decide +kernel) (by decide +kernel)
set_option maxRecDepth 20000 in
theorem gX6_turn_X6_isKind : GoodIn wsX6_turn (va_wsS RX6 113 yX6_isKind wsX6_isKind) := goodIn_app (goodIn_of _ (by decide +kernel)) ggX6_turn_X6_isKind
set_option maxRecDepth 20000 in
theorem ggX6_turn_X6_spotOf : GoodIn wsX6_turn wsX6_spotOf := goodIn_r _ [16] (by decide +kernel) (by decide +kernel)
set_option maxRecDepth 20000 in
theorem gX6_turn_X6_spotOf : GoodIn wsX6_turn (va_wsS RX6 41 yX6_spotOf wsX6_spotOf) := goodIn_app (goodIn_of _ (by decide +kernel)) ggX6_turn_X6_spotOf
set_option maxRecDepth 20000 in
theorem ggX6_turn_X6_becomes : GoodIn wsX6_turn wsX6_becomes := goodIn_r _ [20, 21, 27, 28, 29, 30, 31, 32, 33, 34, 35, 36, 37, 38, 39, 40, 41, 42] (by decide +kernel) (by decide +kernel)
set_option maxRecDepth 20000 in
theorem gX6_turn_X6_becomes : GoodIn wsX6_turn (wsV RX6 70 RX6 yX6_becomes wsX6_becomes) := goodIn_app (goodIn_of _ (by decide +kernel)) ggX6_turn_X6_becomes
set_option maxRecDepth 20000 in
theorem ggX6_turn_X6_finds : GoodIn wsX6_turn wsX6_finds := goodIn_r _ [25, 26, 1, 27, 28, 29, 30, 31, 32, 33, 34, 35, 36, 37, 38, 39, 40, 41, 42] (by decide +kernel) (by decide +kernel)
set_option maxRecDepth 20000 in
theorem gX6_turn_X6_finds : GoodIn wsX6_turn (wsV RX6 73 RX6 yX6_finds wsX6_finds) := goodIn_app (goodIn_of _ (by decide +kernel)) ggX6_turn_X6_finds
theorem dX6_turn_0 : decode cX6_turn 0 = .ok (.iload_n 1, 1) := by decide +kernel
theorem dX6_turn_1 : decode cX6_turn 1 = .ok (.invokestatic 56, 3) := by decide +kernel
theorem dX6_turn_4 : decode cX6_turn 4 = .ok (.ifCond .eq 23, 3) := by decide +kernel
theorem dX6_turn_7 : decode cX6_turn 7 = .ok (.iload_n 2, 1) := by decide +kernel
theorem dX6_turn_8 : decode cX6_turn 8 = .ok (.invokestatic 113, 3) := by decide +kernel
theorem dX6_turn_11 : decode cX6_turn 11 = .ok (.ifCond .eq 16, 3) := by decide +kernel
theorem dX6_turn_14 : decode cX6_turn 14 = .ok (.aload_n 0, 1) := by decide +kernel
theorem dX6_turn_15 : decode cX6_turn 15 = .ok (.iload_n 1, 1) := by decide +kernel
theorem dX6_turn_16 : decode cX6_turn 16 = .ok (.iconst 0, 1) := by decide +kernel
theorem dX6_turn_17 : decode cX6_turn 17 = .ok (.invokestatic 41, 3) := by decide +kernel
theorem dX6_turn_20 : decode cX6_turn 20 = .ok (.iload_n 2, 1) := by decide +kernel
theorem dX6_turn_21 : decode cX6_turn 21 = .ok (.invokevirtual 70, 3) := by decide +kernel
theorem dX6_turn_24 : decode cX6_turn 24 = .ok (.goto 9, 3) := by decide +kernel
theorem dX6_turn_27 : decode cX6_turn 27 = .ok (.aload_n 0, 1) := by decide +kernel
theorem dX6_turn_28 : decode cX6_turn 28 = .ok (.ldc 45, 2) := by decide +kernel
theorem dX6_turn_30 : decode cX6_turn 30 = .ok (.invokevirtual 73, 3) := by decide +kernel
theorem dX6_turn_33 : decode cX6_turn 33 = .ok (.ireturn, 1) := by decide +kernel
theorem dX6_isUnder_0 : decode cX6_isUnder 0 = .ok (.iload_n 1, 1) := by decide +kernel
theorem dX6_isUnder_1 : decode cX6_isUnder 1 = .ok (.ifCond .eq 20, 3) := by decide +kernel
theorem dX6_isUnder_4 : decode cX6_isUnder 4 = .ok (.iload_n 0, 1) := by decide +kernel
theorem dX6_isUnder_5 : decode cX6_isUnder 5 = .ok (.iload_n 1, 1) := by decide +kernel
theorem dX6_isUnder_6 : decode cX6_isUnder 6 = .ok (.if_icmp .eq 15, 3) := by decide +kernel
theorem dX6_isUnder_9 : decode cX6_isUnder 9 = .ok (.iload_n 0, 1) := by decide +kernel
theorem dX6_isUnder_10 : decode cX6_isUnder 10 = .ok (.iconst 3, 1) := by decide +kernel
theorem dX6_isUnder_11 : decode cX6_isUnder 11 = .ok (.if_icmp .le 14, 3) := by decide +kernel
theorem dX6_isUnder_14 : decode cX6_isUnder 14 = .ok (.iload_n 0, 1) := by decide +kernel
theorem dX6_isUnder_15 : decode cX6_isUnder 15 = .ok (.iconst 3, 1) := by decide +kernel
theorem dX6_isUnder_16 : decode cX6_isUnder 16 = .ok (.isub, 1) := by decide +kernel
theorem dX6_isUnder_17 : decode cX6_isUnder 17 = .ok (.iload_n 1, 1) := by decide +kernel
theorem dX6_isUnder_18 : decode cX6_isUnder 18 = .ok (.if_icmp .ne 7, 3) := by decide +kernel
theorem dX6_isUnder_21 : decode cX6_isUnder 21 = .ok (.iconst 1, 1) := by decide +kernel
theorem dX6_isUnder_22 : decode cX6_isUnder 22 = .ok (.goto 4, 3) := by decide +kernel
theorem dX6_isUnder_25 : decode cX6_isUnder 25 = .ok (.iconst 0, 1) := by decide +kernel
theorem dX6_isUnder_26 : decode cX6_isUnder 26 = .ok (.ireturn, 1) := by decide +kernel
set_option maxRecDepth 20000 in
theorem ggX6_as_X6_isHouse : GoodIn wsX6_as wsX6_isHouse := goodIn_r _ [6, 7, 8, 9, 5, 10] (by decide +kernel) (by decide +kernel)
set_option maxRecDepth 20000 in
theorem gX6_as_X6_isHouse : GoodIn wsX6_as (va_wsS RX6 56 yX6_isHouse wsX6_isHouse) := goodIn_app (goodIn_of _ (by decide +kernel)) ggX6_as_X6_isHouse
set_option maxRecDepth 20000 in
theorem ggX6_as_X6_isKind : GoodIn wsX6_as wsX6_isKind := goodIn_r _ [13, 14, 8, 9, 5, 10] (by decide +kernel) (by decide +kernel)
set_option maxRecDepth 20000 in
theorem gX6_as_X6_isKind : GoodIn wsX6_as (va_wsS RX6 113 yX6_isKind wsX6_isKind) := goodIn_app (goodIn_of _ (by decide +kernel)) ggX6_as_X6_isKind
set_option maxRecDepth 20000 in
theorem ggX6_as_X6_finds : GoodIn wsX6_as wsX6_finds := goodIn_r _ [18, 19, 1, 31, 32, 33, 34, 35, 36, 37, 38, 39, 40, 41, 42, 43, 44, 45, 46] (by decide +kernel) (by decide +kernel)
set_option maxRecDepth 20000 in
theorem gX6_as_X6_finds : GoodIn wsX6_as (wsV RX6 73 RX6 yX6_finds wsX6_finds) := goodIn_app (goodIn_of _ (by decide +kernel)) ggX6_as_X6_finds
set_option maxRecDepth 20000 in
theorem ggX6_as_X6_its : GoodIn wsX6_as wsX6_its := goodIn_r _ [23, 24, 25, 26, 5, 27, 31, 32, 33, 34, 35, 36, 37, 38, 39, 40, 41, 42, 43, 44, 45, 46] (by decide +kernel) (by decide +kernel)
set_option maxRecDepth 20000 in
theorem gX6_as_X6_its : GoodIn wsX6_as (wsV RX6 81 RX6 yX6_its wsX6_its) := goodIn_app (goodIn_of _ (by decide +kernel)) ggX6_as_X6_its
set_option maxRecDepth 20000 in
theorem ggX6_as_X6_isUnder : GoodIn wsX6_as wsX6_isUnder := goodIn_r _ [30] (by decide +kernel) (by decide +kernel)
set_option maxRecDepth 20000 in
theorem gX6_as_X6_isUnder : GoodIn wsX6_as (va_wsS RX6 116 yX6_isUnder wsX6_isUnder) := goodIn_app (goodIn_of _ (by decide +kernel)) ggX6_as_X6_isUnder
theorem dX6_as_0 : decode cX6_as 0 = .ok (.iload_n 1, 1) := by decide +kernel
theorem dX6_as_1 : decode cX6_as 1 = .ok (.invokestatic 56, 3) := by decide +kernel
theorem dX6_as_4 : decode cX6_as 4 = .ok (.ifCond .eq 10, 3) := by decide +kernel
theorem dX6_as_7 : decode cX6_as 7 = .ok (.iload_n 2, 1) := by decide +kernel
theorem dX6_as_8 : decode cX6_as 8 = .ok (.invokestatic 113, 3) := by decide +kernel
theorem dX6_as_11 : decode cX6_as 11 = .ok (.ifCond .ne 10, 3) := by decide +kernel
theorem dX6_as_14 : decode cX6_as 14 = .ok (.aload_n 0, 1) := by decide +kernel
theorem dX6_as_15 : decode cX6_as 15 = .ok (.ldc 45, 2) := by decide +kernel
theorem dX6_as_17 : decode cX6_as 17 = .ok (.invokevirtual 73, 3) := by decide +kernel
theorem dX6_as_20 : decode cX6_as 20 = .ok (.ireturn, 1) := by decide +kernel
theorem dX6_as_21 : decode cX6_as 21 = .ok (.aload_n 0, 1) := by decide +kernel
theorem dX6_as_22 : decode cX6_as 22 = .ok (.iload_n 1, 1) := by decide +kernel
theorem dX6_as_23 : decode cX6_as 23 = .ok (.iconst 0, 1) := by decide +kernel
theorem dX6_as_24 : decode cX6_as 24 = .ok (.invokevirtual 81, 3) := by decide +kernel
theorem dX6_as_27 : decode cX6_as 27 = .ok (.iload_n 2, 1) := by decide +kernel
theorem dX6_as_28 : decode cX6_as 28 = .ok (.invokestatic 116, 3) := by decide +kernel
theorem dX6_as_31 : decode cX6_as 31 = .ok (.ifCond .eq 12, 3) := by decide +kernel
theorem dX6_as_34 : decode cX6_as 34 = .ok (.aload_n 0, 1) := by decide +kernel
theorem dX6_as_35 : decode cX6_as 35 = .ok (.iload_n 1, 1) := by decide +kernel
theorem dX6_as_36 : decode cX6_as 36 = .ok (.iconst 1, 1) := by decide +kernel
theorem dX6_as_37 : decode cX6_as 37 = .ok (.invokevirtual 81, 3) := by decide +kernel
theorem dX6_as_40 : decode cX6_as 40 = .ok (.goto 9, 3) := by decide +kernel
theorem dX6_as_43 : decode cX6_as 43 = .ok (.aload_n 0, 1) := by decide +kernel
theorem dX6_as_44 : decode cX6_as 44 = .ok (.ldc 119, 2) := by decide +kernel
theorem dX6_as_46 : decode cX6_as 46 = .ok (.invokevirtual 73, 3) := by decide +kernel
theorem dX6_as_49 : decode cX6_as 49 = .ok (.ireturn, 1) := by decide +kernel
set_option maxRecDepth 20000 in
theorem ggX6_moves_X6_spotOf : GoodIn wsX6_moves wsX6_spotOf := goodIn_r _ [5] (by decide +kernel) (by decide +kernel)
set_option maxRecDepth 20000 in
theorem gX6_moves_X6_spotOf : GoodIn wsX6_moves (va_wsS RX6 41 yX6_spotOf wsX6_spotOf) := goodIn_app (goodIn_of _ (by decide +kernel)) ggX6_moves_X6_spotOf
set_option maxRecDepth 20000 in
theorem ggX6_moves_X6_its : GoodIn wsX6_moves wsX6_its := goodIn_r _ [9, 1, 2, 3, 4, 5, 14, 15, 16, 17, 18, 19, 20, 21, 22, 23, 24, 25, 26, 27, 28, 29] (by decide +kernel) (by decide +kernel)
set_option maxRecDepth 20000 in
theorem gX6_moves_X6_its : GoodIn wsX6_moves (wsV RX6 81 RX6 yX6_its wsX6_its) := goodIn_app (goodIn_of _ (by decide +kernel)) ggX6_moves_X6_its
set_option maxRecDepth 20000 in
theorem ggX6_moves_X6_becomes : GoodIn wsX6_moves wsX6_becomes := goodIn_r _ [13, 1, 14, 15, 16, 17, 18, 19, 20, 21, 22, 23, 24, 25, 26, 27, 28, 29] (by decide +kernel) (by decide +kernel)
set_option maxRecDepth 20000 in
theorem gX6_moves_X6_becomes : GoodIn wsX6_moves (wsV RX6 70 RX6 yX6_becomes wsX6_becomes) := goodIn_app (goodIn_of _ (by decide +kernel)) ggX6_moves_X6_becomes
theorem dX6_moves_0 : decode cX6_moves 0 = .ok (.iconst 0, 1) := by decide +kernel
theorem dX6_moves_1 : decode cX6_moves 1 = .ok (.istore_n 3, 1) := by decide +kernel
theorem dX6_moves_2 : decode cX6_moves 2 = .ok (.iload_n 3, 1) := by decide +kernel
theorem dX6_moves_3 : decode cX6_moves 3 = .ok (.iconst 3, 1) := by decide +kernel
theorem dX6_moves_4 : decode cX6_moves 4 = .ok (.if_icmp .gt 38, 3) := by decide +kernel
theorem dX6_moves_7 : decode cX6_moves 7 = .ok (.aload_n 0, 1) := by decide +kernel
theorem dX6_moves_8 : decode cX6_moves 8 = .ok (.iload_n 1, 1) := by decide +kernel
theorem dX6_moves_9 : decode cX6_moves 9 = .ok (.iload_n 3, 1) := by decide +kernel
theorem dX6_moves_10 : decode cX6_moves 10 = .ok (.invokestatic 41, 3) := by decide +kernel
theorem dX6_moves_13 : decode cX6_moves 13 = .ok (.aload_n 0, 1) := by decide +kernel
theorem dX6_moves_14 : decode cX6_moves 14 = .ok (.iload_n 2, 1) := by decide +kernel
theorem dX6_moves_15 : decode cX6_moves 15 = .ok (.iload_n 3, 1) := by decide +kernel
theorem dX6_moves_16 : decode cX6_moves 16 = .ok (.invokevirtual 81, 3) := by decide +kernel
theorem dX6_moves_19 : decode cX6_moves 19 = .ok (.invokevirtual 70, 3) := by decide +kernel
theorem dX6_moves_22 : decode cX6_moves 22 = .ok (.istore 4, 2) := by decide +kernel
theorem dX6_moves_24 : decode cX6_moves 24 = .ok (.aload_n 0, 1) := by decide +kernel
theorem dX6_moves_25 : decode cX6_moves 25 = .ok (.getfield 7, 3) := by decide +kernel
theorem dX6_moves_28 : decode cX6_moves 28 = .ok (.iload_n 2, 1) := by decide +kernel
theorem dX6_moves_29 : decode cX6_moves 29 = .ok (.iload_n 3, 1) := by decide +kernel
theorem dX6_moves_30 : decode cX6_moves 30 = .ok (.invokestatic 41, 3) := by decide +kernel
theorem dX6_moves_33 : decode cX6_moves 33 = .ok (.iload 4, 2) := by decide +kernel
theorem dX6_moves_35 : decode cX6_moves 35 = .ok (.iastore, 1) := by decide +kernel
theorem dX6_moves_36 : decode cX6_moves 36 = .ok (.iinc 3 1, 3) := by decide +kernel
theorem dX6_moves_39 : decode cX6_moves 39 = .ok (.goto (-37), 3) := by decide +kernel
theorem dX6_moves_42 : decode cX6_moves 42 = .ok (.return_, 1) := by decide +kernel
set_option maxRecDepth 20000 in
theorem ggX6_move_X6_isHouse : GoodIn wsX6_move wsX6_isHouse := goodIn_r _ [5, 6, 7, 8, 4, 9] (by decide +kernel) (by decide +kernel)
set_option maxRecDepth 20000 in
theorem gX6_move_X6_isHouse : GoodIn wsX6_move (va_wsS RX6 56 yX6_isHouse wsX6_isHouse) := goodIn_app (goodIn_of _ (by decide +kernel)) ggX6_move_X6_isHouse
set_option maxRecDepth 20000 in
theorem ggX6_move_X6_finds : GoodIn wsX6_move wsX6_finds := goodIn_r _ [13, 14, 1, 31, 32, 33, 34, 35, 36, 37, 38, 39, 40, 41, 42, 43, 44, 45, 46] (by decide +kernel) (by decide +kernel)
set_option maxRecDepth 20000 in
theorem gX6_move_X6_finds : GoodIn wsX6_move (wsV RX6 73 RX6 yX6_finds wsX6_finds) := goodIn_app (goodIn_of _ (by decide +kernel)) ggX6_move_X6_finds
set_option maxRecDepth 20000 in
theorem ggX6_move_X6_moves : GoodIn wsX6_move wsX6_moves := goodIn_r _ [18, 19, 20, 21, 4, 22, 23, 24, 25, 26, 27, 28, 29, 30, 31, 32, 33, 34, 35, 36, 37, 38, 39, 40, 41, 42, 43, 44, 45, 46] (by decide +kernel) (by decide +kernel)
set_option maxRecDepth 20000 in
theorem gX6_move_X6_moves : GoodIn wsX6_move (wsV RX6 120 RX6 yX6_moves wsX6_moves) := goodIn_app (goodIn_of _ (by decide +kernel)) ggX6_move_X6_moves
theorem dX6_move_0 : decode cX6_move 0 = .ok (.iload_n 1, 1) := by decide +kernel
theorem dX6_move_1 : decode cX6_move 1 = .ok (.invokestatic 56, 3) := by decide +kernel
theorem dX6_move_4 : decode cX6_move 4 = .ok (.ifCond .eq 15, 3) := by decide +kernel
theorem dX6_move_7 : decode cX6_move 7 = .ok (.iload_n 2, 1) := by decide +kernel
theorem dX6_move_8 : decode cX6_move 8 = .ok (.invokestatic 56, 3) := by decide +kernel
theorem dX6_move_11 : decode cX6_move 11 = .ok (.ifCond .eq 8, 3) := by decide +kernel
theorem dX6_move_14 : decode cX6_move 14 = .ok (.iload_n 1, 1) := by decide +kernel
theorem dX6_move_15 : decode cX6_move 15 = .ok (.iload_n 2, 1) := by decide +kernel
theorem dX6_move_16 : decode cX6_move 16 = .ok (.if_icmp .ne 10, 3) := by decide +kernel
theorem dX6_move_19 : decode cX6_move 19 = .ok (.aload_n 0, 1) := by decide +kernel
theorem dX6_move_20 : decode cX6_move 20 = .ok (.ldc 45, 2) := by decide +kernel
theorem dX6_move_22 : decode cX6_move 22 = .ok (.invokevirtual 73, 3) := by decide +kernel
theorem dX6_move_25 : decode cX6_move 25 = .ok (.ireturn, 1) := by decide +kernel
theorem dX6_move_26 : decode cX6_move 26 = .ok (.aload_n 0, 1) := by decide +kernel
theorem dX6_move_27 : decode cX6_move 27 = .ok (.iload_n 1, 1) := by decide +kernel
theorem dX6_move_28 : decode cX6_move 28 = .ok (.iload_n 2, 1) := by decide +kernel
theorem dX6_move_29 : decode cX6_move 29 = .ok (.invokevirtual 120, 3) := by decide +kernel
theorem dX6_move_32 : decode cX6_move 32 = .ok (.iconst 1, 1) := by decide +kernel
theorem dX6_move_33 : decode cX6_move 33 = .ok (.ireturn, 1) := by decide +kernel
set_option maxRecDepth 20000 in
theorem ggX6_isHeard_X6_its : GoodIn wsX6_isHeard wsX6_its := goodIn_r _ [7, 1, 8, 9, 6, 10, 33, 34, 35, 36, 37, 38, 39, 40, 41, 42, 43, 44, 45, 46, 47, 48] (by decide +kernel) (by decide +kernel)
set_option maxRecDepth 20000 in
theorem gX6_isHeard_X6_its : GoodIn wsX6_isHeard (wsV RX6 81 RX6 yX6_its wsX6_its) := goodIn_app (goodIn_of _ (by decide +kernel)) ggX6_isHeard_X6_its
set_option maxRecDepth 20000 in
theorem ggX6_isHeard_X6_mindsOf : GoodIn wsX6_isHeard wsX6_mindsOf := goodIn_r _ [14, 15, 16, 17, 6, 18, 1, 3, 4, 5, 7, 8, 9, 10, 19, 20, 21, 22, 23, 24, 33, 34, 35, 36, 37, 38, 39, 40, 41, 42, 43, 44, 45, 46, 47, 48] (by decide +kernel) (by decide +kernel)
set_option maxRecDepth 20000 in
theorem gX6_isHeard_X6_mindsOf : GoodIn wsX6_isHeard (wsV RX6 101 RX6 yX6_mindsOf wsX6_mindsOf) := goodIn_app (goodIn_of _ (by decide +kernel)) ggX6_isHeard_X6_mindsOf
set_option maxRecDepth 20000 in
theorem ggX6_isHeard_X6_atLeastNothing : GoodIn wsX6_isHeard wsX6_atLeastNothing := goodIn_r _ [24] (by decide +kernel) (by decide +kernel)
set_option maxRecDepth 20000 in
theorem gX6_isHeard_X6_atLeastNothing : GoodIn wsX6_isHeard (va_wsS RX6 87 yX6_atLeastNothing wsX6_atLeastNothing) := goodIn_app (goodIn_of _ (by decide +kernel)) ggX6_isHeard_X6_atLeastNothing
set_option maxRecDepth 20000 in
theorem ggX6_isHeard_X6_spotOf : GoodIn wsX6_isHeard wsX6_spotOf := goodIn_r _ [10] (by decide +kernel) (by decide +kernel)
set_option maxRecDepth 20000 in
theorem gX6_isHeard_X6_spotOf : GoodIn wsX6_isHeard (va_wsS RX6 41 yX6_spotOf wsX6_spotOf) := goodIn_app (goodIn_of _ (by decide +kernel)) ggX6_isHeard_X6_spotOf
set_option maxRecDepth 20000 in
theorem ggX6_isHeard_X6_heldTo : GoodIn wsX6_isHeard wsX6_heldTo := goodIn_r _ [21] (by decide +kernel) (by decide +kernel)
set_option maxRecDepth 20000 in
theorem gX6_isHeard_X6_heldTo : GoodIn wsX6_isHeard (va_wsS RX6 84 yX6_heldTo wsX6_heldTo) := goodIn_app (goodIn_of _ (by decide +kernel)) ggX6_isHeard_X6_heldTo
set_option maxRecDepth 20000 in
theorem ggX6_isHeard_X6_buysOf : GoodIn wsX6_isHeard wsX6_buysOf := goodIn_r _ [28, 1, 29, 30, 31, 6, 32, 3, 4, 5, 7, 8, 9, 10, 19, 20, 21, 33, 34, 35, 36, 37, 38, 39, 40, 41, 42, 43, 44, 45, 46, 47, 48] (by decide +kernel) (by decide +kernel)
set_option maxRecDepth 20000 in
theorem gX6_isHeard_X6_buysOf : GoodIn wsX6_isHeard (wsV RX6 104 RX6 yX6_buysOf wsX6_buysOf) := goodIn_app (goodIn_of _ (by decide +kernel)) ggX6_isHeard_X6_buysOf
theorem dX6_isHeard_0 : decode cX6_isHeard 0 = .ok (.aload_n 0, 1) := by decide +kernel
theorem dX6_isHeard_1 : decode cX6_isHeard 1 = .ok (.iload_n 1, 1) := by decide +kernel
theorem dX6_isHeard_2 : decode cX6_isHeard 2 = .ok (.iconst 1, 1) := by decide +kernel
theorem dX6_isHeard_3 : decode cX6_isHeard 3 = .ok (.invokevirtual 81, 3) := by decide +kernel
theorem dX6_isHeard_6 : decode cX6_isHeard 6 = .ok (.aload_n 0, 1) := by decide +kernel
theorem dX6_isHeard_7 : decode cX6_isHeard 7 = .ok (.iload_n 1, 1) := by decide +kernel
theorem dX6_isHeard_8 : decode cX6_isHeard 8 = .ok (.aload_n 0, 1) := by decide +kernel
theorem dX6_isHeard_9 : decode cX6_isHeard 9 = .ok (.getfield 7, 3) := by decide +kernel
theorem dX6_isHeard_12 : decode cX6_isHeard 12 = .ok (.iconst 4, 1) := by decide +kernel
theorem dX6_isHeard_13 : decode cX6_isHeard 13 = .ok (.iaload, 1) := by decide +kernel
theorem dX6_isHeard_14 : decode cX6_isHeard 14 = .ok (.invokevirtual 101, 3) := by decide +kernel
theorem dX6_isHeard_17 : decode cX6_isHeard 17 = .ok (.iadd, 1) := by decide +kernel
theorem dX6_isHeard_18 : decode cX6_isHeard 18 = .ok (.invokestatic 87, 3) := by decide +kernel
theorem dX6_isHeard_21 : decode cX6_isHeard 21 = .ok (.istore_n 2, 1) := by decide +kernel
theorem dX6_isHeard_22 : decode cX6_isHeard 22 = .ok (.aload_n 0, 1) := by decide +kernel
theorem dX6_isHeard_23 : decode cX6_isHeard 23 = .ok (.getfield 7, 3) := by decide +kernel
theorem dX6_isHeard_26 : decode cX6_isHeard 26 = .ok (.iload_n 1, 1) := by decide +kernel
theorem dX6_isHeard_27 : decode cX6_isHeard 27 = .ok (.iconst 1, 1) := by decide +kernel
theorem dX6_isHeard_28 : decode cX6_isHeard 28 = .ok (.invokestatic 41, 3) := by decide +kernel
theorem dX6_isHeard_31 : decode cX6_isHeard 31 = .ok (.iload_n 2, 1) := by decide +kernel
theorem dX6_isHeard_32 : decode cX6_isHeard 32 = .ok (.bipush 20, 2) := by decide +kernel
theorem dX6_isHeard_34 : decode cX6_isHeard 34 = .ok (.invokestatic 84, 3) := by decide +kernel
theorem dX6_isHeard_37 : decode cX6_isHeard 37 = .ok (.iastore, 1) := by decide +kernel
theorem dX6_isHeard_38 : decode cX6_isHeard 38 = .ok (.aload_n 0, 1) := by decide +kernel
theorem dX6_isHeard_39 : decode cX6_isHeard 39 = .ok (.iload_n 1, 1) := by decide +kernel
theorem dX6_isHeard_40 : decode cX6_isHeard 40 = .ok (.aload_n 0, 1) := by decide +kernel
theorem dX6_isHeard_41 : decode cX6_isHeard 41 = .ok (.getfield 7, 3) := by decide +kernel
theorem dX6_isHeard_44 : decode cX6_isHeard 44 = .ok (.iconst 4, 1) := by decide +kernel
theorem dX6_isHeard_45 : decode cX6_isHeard 45 = .ok (.iaload, 1) := by decide +kernel
theorem dX6_isHeard_46 : decode cX6_isHeard 46 = .ok (.invokevirtual 104, 3) := by decide +kernel
theorem dX6_isHeard_49 : decode cX6_isHeard 49 = .ok (.istore_n 3, 1) := by decide +kernel
theorem dX6_isHeard_50 : decode cX6_isHeard 50 = .ok (.aload_n 0, 1) := by decide +kernel
theorem dX6_isHeard_51 : decode cX6_isHeard 51 = .ok (.getfield 7, 3) := by decide +kernel
theorem dX6_isHeard_54 : decode cX6_isHeard 54 = .ok (.iconst 3, 1) := by decide +kernel
theorem dX6_isHeard_55 : decode cX6_isHeard 55 = .ok (.dup2, 1) := by decide +kernel
theorem dX6_isHeard_56 : decode cX6_isHeard 56 = .ok (.iaload, 1) := by decide +kernel
theorem dX6_isHeard_57 : decode cX6_isHeard 57 = .ok (.iload_n 3, 1) := by decide +kernel
theorem dX6_isHeard_58 : decode cX6_isHeard 58 = .ok (.isub, 1) := by decide +kernel
theorem dX6_isHeard_59 : decode cX6_isHeard 59 = .ok (.iastore, 1) := by decide +kernel
theorem dX6_isHeard_60 : decode cX6_isHeard 60 = .ok (.aload_n 0, 1) := by decide +kernel
theorem dX6_isHeard_61 : decode cX6_isHeard 61 = .ok (.getfield 7, 3) := by decide +kernel
theorem dX6_isHeard_64 : decode cX6_isHeard 64 = .ok (.iload_n 1, 1) := by decide +kernel
theorem dX6_isHeard_65 : decode cX6_isHeard 65 = .ok (.iconst 3, 1) := by decide +kernel
theorem dX6_isHeard_66 : decode cX6_isHeard 66 = .ok (.invokestatic 41, 3) := by decide +kernel
theorem dX6_isHeard_69 : decode cX6_isHeard 69 = .ok (.aload_n 0, 1) := by decide +kernel
theorem dX6_isHeard_70 : decode cX6_isHeard 70 = .ok (.iload_n 1, 1) := by decide +kernel
theorem dX6_isHeard_71 : decode cX6_isHeard 71 = .ok (.iconst 3, 1) := by decide +kernel
theorem dX6_isHeard_72 : decode cX6_isHeard 72 = .ok (.invokevirtual 81, 3) := by decide +kernel
theorem dX6_isHeard_75 : decode cX6_isHeard 75 = .ok (.iload_n 3, 1) := by decide +kernel
theorem dX6_isHeard_76 : decode cX6_isHeard 76 = .ok (.iadd, 1) := by decide +kernel
theorem dX6_isHeard_77 : decode cX6_isHeard 77 = .ok (.sipush 9999, 3) := by decide +kernel
theorem dX6_isHeard_80 : decode cX6_isHeard 80 = .ok (.invokestatic 84, 3) := by decide +kernel
theorem dX6_isHeard_83 : decode cX6_isHeard 83 = .ok (.iastore, 1) := by decide +kernel
theorem dX6_isHeard_84 : decode cX6_isHeard 84 = .ok (.aload_n 0, 1) := by decide +kernel
theorem dX6_isHeard_85 : decode cX6_isHeard 85 = .ok (.getfield 7, 3) := by decide +kernel
theorem dX6_isHeard_88 : decode cX6_isHeard 88 = .ok (.iload_n 1, 1) := by decide +kernel
theorem dX6_isHeard_89 : decode cX6_isHeard 89 = .ok (.iconst 2, 1) := by decide +kernel
theorem dX6_isHeard_90 : decode cX6_isHeard 90 = .ok (.invokestatic 41, 3) := by decide +kernel
theorem dX6_isHeard_93 : decode cX6_isHeard 93 = .ok (.dup2, 1) := by decide +kernel
theorem dX6_isHeard_94 : decode cX6_isHeard 94 = .ok (.iaload, 1) := by decide +kernel
theorem dX6_isHeard_95 : decode cX6_isHeard 95 = .ok (.iconst 2, 1) := by decide +kernel
theorem dX6_isHeard_96 : decode cX6_isHeard 96 = .ok (.iload_n 3, 1) := by decide +kernel
theorem dX6_isHeard_97 : decode cX6_isHeard 97 = .ok (.imul, 1) := by decide +kernel
theorem dX6_isHeard_98 : decode cX6_isHeard 98 = .ok (.isub, 1) := by decide +kernel
theorem dX6_isHeard_99 : decode cX6_isHeard 99 = .ok (.iastore, 1) := by decide +kernel
theorem dX6_isHeard_100 : decode cX6_isHeard 100 = .ok (.aload_n 0, 1) := by decide +kernel
theorem dX6_isHeard_101 : decode cX6_isHeard 101 = .ok (.getfield 7, 3) := by decide +kernel
theorem dX6_isHeard_104 : decode cX6_isHeard 104 = .ok (.bipush 6, 2) := by decide +kernel
theorem dX6_isHeard_106 : decode cX6_isHeard 106 = .ok (.aload_n 0, 1) := by decide +kernel
theorem dX6_isHeard_107 : decode cX6_isHeard 107 = .ok (.getfield 7, 3) := by decide +kernel
theorem dX6_isHeard_110 : decode cX6_isHeard 110 = .ok (.bipush 6, 2) := by decide +kernel
theorem dX6_isHeard_112 : decode cX6_isHeard 112 = .ok (.iaload, 1) := by decide +kernel
theorem dX6_isHeard_113 : decode cX6_isHeard 113 = .ok (.iconst 2, 1) := by decide +kernel
theorem dX6_isHeard_114 : decode cX6_isHeard 114 = .ok (.iload_n 3, 1) := by decide +kernel
theorem dX6_isHeard_115 : decode cX6_isHeard 115 = .ok (.imul, 1) := by decide +kernel
theorem dX6_isHeard_116 : decode cX6_isHeard 116 = .ok (.iadd, 1) := by decide +kernel
theorem dX6_isHeard_117 : decode cX6_isHeard 117 = .ok (.ldc 124, 2) := by decide +kernel
theorem dX6_isHeard_119 : decode cX6_isHeard 119 = .ok (.invokestatic 84, 3) := by decide +kernel
theorem dX6_isHeard_122 : decode cX6_isHeard 122 = .ok (.iastore, 1) := by decide +kernel
theorem dX6_isHeard_123 : decode cX6_isHeard 123 = .ok (.return_, 1) := by decide +kernel
set_option maxRecDepth 20000 in
theorem ggX6_hour_X6_isResting : GoodIn wsX6_hour wsX6_isResting := goodIn_r _ [6, 1, 41, 42, 43, 44, 45, 46, 47, 48, 49, 50, 51, 52, 53, 54, 55, 56] (by decide +kernel) (by decide +kernel)
set_option maxRecDepth 20000 in
theorem gX6_hour_X6_isResting : GoodIn wsX6_hour (wsV RX6 77 RX6 yX6_isResting wsX6_isResting) := goodIn_app (goodIn_of _ (by decide +kernel)) ggX6_hour_X6_isResting
set_option maxRecDepth 20000 in
theorem ggX6_hour_X6_isHeard : GoodIn wsX6_hour wsX6_isHeard := goodIn_r _ [10, 1, 11, 12, 13, 14, 5, 15, 16, 17, 18, 19, 20, 21, 22, 23, 24, 25, 26, 27, 28, 29, 30, 31, 32, 33, 34, 35, 36, 37, 38, 39, 40, 41, 42, 43, 44, 45, 46, 47, 48, 49, 50, 51, 52, 53, 54, 55, 56] (by decide +kernel) (by decide +kernel)
set_option maxRecDepth 20000 in
theorem gX6_hour_X6_isHeard : GoodIn wsX6_hour (wsV RX6 125 RX6 yX6_isHeard wsX6_isHeard) := goodIn_app (goodIn_of _ (by decide +kernel)) ggX6_hour_X6_isHeard
set_option maxRecDepth 20000 in
theorem ggX6_hour_X6_toneOf : GoodIn wsX6_hour wsX6_toneOf := goodIn_r _ [26, 1, 12, 13, 14, 5, 15, 16, 17, 18, 27, 28, 29, 30, 31, 32, 41, 42, 43, 44, 45, 46, 47, 48, 49, 50, 51, 52, 53, 54, 55, 56] (by decide +kernel) (by decide +kernel)
set_option maxRecDepth 20000 in
theorem gX6_hour_X6_toneOf : GoodIn wsX6_hour (wsV RX6 90 RX6 yX6_toneOf wsX6_toneOf) := goodIn_app (goodIn_of _ (by decide +kernel)) ggX6_hour_X6_toneOf
set_option maxRecDepth 20000 in
theorem ggX6_hour_X6_heldTo : GoodIn wsX6_hour wsX6_heldTo := goodIn_r _ [29] (by decide +kernel) (by decide +kernel)
set_option maxRecDepth 20000 in
theorem gX6_hour_X6_heldTo : GoodIn wsX6_hour (va_wsS RX6 84 yX6_heldTo wsX6_heldTo) := goodIn_app (goodIn_of _ (by decide +kernel)) ggX6_hour_X6_heldTo
theorem dX6_hour_0 : decode cX6_hour 0 = .ok (.aload_n 0, 1) := by decide +kernel
theorem dX6_hour_1 : decode cX6_hour 1 = .ok (.invokevirtual 77, 3) := by decide +kernel
theorem dX6_hour_4 : decode cX6_hour 4 = .ok (.ifCond .ne 105, 3) := by decide +kernel
theorem dX6_hour_7 : decode cX6_hour 7 = .ok (.aload_n 0, 1) := by decide +kernel
theorem dX6_hour_8 : decode cX6_hour 8 = .ok (.getfield 7, 3) := by decide +kernel
theorem dX6_hour_11 : decode cX6_hour 11 = .ok (.iconst 4, 1) := by decide +kernel
theorem dX6_hour_12 : decode cX6_hour 12 = .ok (.iaload, 1) := by decide +kernel
theorem dX6_hour_13 : decode cX6_hour 13 = .ok (.iconst (-1), 1) := by decide +kernel
theorem dX6_hour_14 : decode cX6_hour 14 = .ok (.if_icmp .eq 13, 3) := by decide +kernel
theorem dX6_hour_17 : decode cX6_hour 17 = .ok (.aload_n 0, 1) := by decide +kernel
theorem dX6_hour_18 : decode cX6_hour 18 = .ok (.aload_n 0, 1) := by decide +kernel
theorem dX6_hour_19 : decode cX6_hour 19 = .ok (.getfield 7, 3) := by decide +kernel
theorem dX6_hour_22 : decode cX6_hour 22 = .ok (.iconst 1, 1) := by decide +kernel
theorem dX6_hour_23 : decode cX6_hour 23 = .ok (.iaload, 1) := by decide +kernel
theorem dX6_hour_24 : decode cX6_hour 24 = .ok (.invokevirtual 125, 3) := by decide +kernel
theorem dX6_hour_27 : decode cX6_hour 27 = .ok (.aload_n 0, 1) := by decide +kernel
theorem dX6_hour_28 : decode cX6_hour 28 = .ok (.getfield 7, 3) := by decide +kernel
theorem dX6_hour_31 : decode cX6_hour 31 = .ok (.iconst 4, 1) := by decide +kernel
theorem dX6_hour_32 : decode cX6_hour 32 = .ok (.aload_n 0, 1) := by decide +kernel
theorem dX6_hour_33 : decode cX6_hour 33 = .ok (.getfield 7, 3) := by decide +kernel
theorem dX6_hour_36 : decode cX6_hour 36 = .ok (.iconst 5, 1) := by decide +kernel
theorem dX6_hour_37 : decode cX6_hour 37 = .ok (.iaload, 1) := by decide +kernel
theorem dX6_hour_38 : decode cX6_hour 38 = .ok (.bipush 50, 2) := by decide +kernel
theorem dX6_hour_40 : decode cX6_hour 40 = .ok (.if_icmp .lt 7, 3) := by decide +kernel
theorem dX6_hour_43 : decode cX6_hour 43 = .ok (.iconst 3, 1) := by decide +kernel
theorem dX6_hour_44 : decode cX6_hour 44 = .ok (.goto 13, 3) := by decide +kernel
theorem dX6_hour_47 : decode cX6_hour 47 = .ok (.aload_n 0, 1) := by decide +kernel
theorem dX6_hour_48 : decode cX6_hour 48 = .ok (.aload_n 0, 1) := by decide +kernel
theorem dX6_hour_49 : decode cX6_hour 49 = .ok (.getfield 7, 3) := by decide +kernel
theorem dX6_hour_52 : decode cX6_hour 52 = .ok (.iconst 1, 1) := by decide +kernel
theorem dX6_hour_53 : decode cX6_hour 53 = .ok (.iaload, 1) := by decide +kernel
theorem dX6_hour_54 : decode cX6_hour 54 = .ok (.invokevirtual 90, 3) := by decide +kernel
theorem dX6_hour_57 : decode cX6_hour 57 = .ok (.iastore, 1) := by decide +kernel
theorem dX6_hour_58 : decode cX6_hour 58 = .ok (.aload_n 0, 1) := by decide +kernel
theorem dX6_hour_59 : decode cX6_hour 59 = .ok (.getfield 7, 3) := by decide +kernel
theorem dX6_hour_62 : decode cX6_hour 62 = .ok (.iconst 5, 1) := by decide +kernel
theorem dX6_hour_63 : decode cX6_hour 63 = .ok (.aload_n 0, 1) := by decide +kernel
theorem dX6_hour_64 : decode cX6_hour 64 = .ok (.getfield 7, 3) := by decide +kernel
theorem dX6_hour_67 : decode cX6_hour 67 = .ok (.iconst 5, 1) := by decide +kernel
theorem dX6_hour_68 : decode cX6_hour 68 = .ok (.iaload, 1) := by decide +kernel
theorem dX6_hour_69 : decode cX6_hour 69 = .ok (.iconst 1, 1) := by decide +kernel
theorem dX6_hour_70 : decode cX6_hour 70 = .ok (.iadd, 1) := by decide +kernel
theorem dX6_hour_71 : decode cX6_hour 71 = .ok (.bipush 99, 2) := by decide +kernel
theorem dX6_hour_73 : decode cX6_hour 73 = .ok (.invokestatic 84, 3) := by decide +kernel
theorem dX6_hour_76 : decode cX6_hour 76 = .ok (.iastore, 1) := by decide +kernel
theorem dX6_hour_77 : decode cX6_hour 77 = .ok (.aload_n 0, 1) := by decide +kernel
theorem dX6_hour_78 : decode cX6_hour 78 = .ok (.getfield 7, 3) := by decide +kernel
theorem dX6_hour_81 : decode cX6_hour 81 = .ok (.iconst 1, 1) := by decide +kernel
theorem dX6_hour_82 : decode cX6_hour 82 = .ok (.aload_n 0, 1) := by decide +kernel
theorem dX6_hour_83 : decode cX6_hour 83 = .ok (.getfield 7, 3) := by decide +kernel
theorem dX6_hour_86 : decode cX6_hour 86 = .ok (.iconst 1, 1) := by decide +kernel
theorem dX6_hour_87 : decode cX6_hour 87 = .ok (.iaload, 1) := by decide +kernel
theorem dX6_hour_88 : decode cX6_hour 88 = .ok (.aload_n 0, 1) := by decide +kernel
theorem dX6_hour_89 : decode cX6_hour 89 = .ok (.getfield 7, 3) := by decide +kernel
theorem dX6_hour_92 : decode cX6_hour 92 = .ok (.iconst 2, 1) := by decide +kernel
theorem dX6_hour_93 : decode cX6_hour 93 = .ok (.iaload, 1) := by decide +kernel
theorem dX6_hour_94 : decode cX6_hour 94 = .ok (.iconst 1, 1) := by decide +kernel
theorem dX6_hour_95 : decode cX6_hour 95 = .ok (.if_icmp .ne 7, 3) := by decide +kernel
theorem dX6_hour_98 : decode cX6_hour 98 = .ok (.iconst 1, 1) := by decide +kernel
theorem dX6_hour_99 : decode cX6_hour 99 = .ok (.goto 5, 3) := by decide +kernel
theorem dX6_hour_102 : decode cX6_hour 102 = .ok (.bipush 7, 2) := by decide +kernel
theorem dX6_hour_104 : decode cX6_hour 104 = .ok (.iadd, 1) := by decide +kernel
theorem dX6_hour_105 : decode cX6_hour 105 = .ok (.bipush 8, 2) := by decide +kernel
theorem dX6_hour_107 : decode cX6_hour 107 = .ok (.irem, 1) := by decide +kernel
theorem dX6_hour_108 : decode cX6_hour 108 = .ok (.iastore, 1) := by decide +kernel
theorem dX6_hour_109 : decode cX6_hour 109 = .ok (.aload_n 0, 1) := by decide +kernel
theorem dX6_hour_110 : decode cX6_hour 110 = .ok (.getfield 7, 3) := by decide +kernel
theorem dX6_hour_113 : decode cX6_hour 113 = .ok (.iconst 0, 1) := by decide +kernel
theorem dX6_hour_114 : decode cX6_hour 114 = .ok (.dup2, 1) := by decide +kernel
theorem dX6_hour_115 : decode cX6_hour 115 = .ok (.iaload, 1) := by decide +kernel
theorem dX6_hour_116 : decode cX6_hour 116 = .ok (.iconst 1, 1) := by decide +kernel
theorem dX6_hour_117 : decode cX6_hour 117 = .ok (.iadd, 1) := by decide +kernel
theorem dX6_hour_118 : decode cX6_hour 118 = .ok (.iastore, 1) := by decide +kernel
theorem dX6_hour_119 : decode cX6_hour 119 = .ok (.return_, 1) := by decide +kernel
set_option maxRecDepth 20000 in
theorem ggX6_hoursGo_X6_hour : GoodIn wsX6_hoursGo wsX6_hour := goodIn_r _ [5, 6, 7, 8, 9, 4, 10, 11, 12, 13, 14, 15, 16, 17, 18, 19, 20, 21, 22, 23, 24, 25, 26, 27, 28, 29, 30, 31, 32, 33, 34, 35, 36, 37, 38, 39, 40, 41, 42, 43, 44, 45, 46, 47, 48, 49, 50, 51, 52, 53, 54, 55, 56, 57, 58, 59, 60] (by decide +kernel) (by decide +kernel)
set_option maxRecDepth 20000 in
theorem gX6_hoursGo_X6_hour : GoodIn wsX6_hoursGo (wsV RX6 129 RX6 yX6_hour wsX6_hour) := goodIn_app (goodIn_of _ (by decide +kernel)) ggX6_hoursGo_X6_hour
theorem dX6_hoursGo_0 : decode cX6_hoursGo 0 = .ok (.iconst 0, 1) := by decide +kernel
theorem dX6_hoursGo_1 : decode cX6_hoursGo 1 = .ok (.istore_n 2, 1) := by decide +kernel
theorem dX6_hoursGo_2 : decode cX6_hoursGo 2 = .ok (.iload_n 2, 1) := by decide +kernel
theorem dX6_hoursGo_3 : decode cX6_hoursGo 3 = .ok (.iload_n 1, 1) := by decide +kernel
theorem dX6_hoursGo_4 : decode cX6_hoursGo 4 = .ok (.if_icmp .ge 13, 3) := by decide +kernel
theorem dX6_hoursGo_7 : decode cX6_hoursGo 7 = .ok (.aload_n 0, 1) := by decide +kernel
theorem dX6_hoursGo_8 : decode cX6_hoursGo 8 = .ok (.invokevirtual 129, 3) := by decide +kernel
theorem dX6_hoursGo_11 : decode cX6_hoursGo 11 = .ok (.iinc 2 1, 3) := by decide +kernel
theorem dX6_hoursGo_14 : decode cX6_hoursGo 14 = .ok (.goto (-12), 3) := by decide +kernel
theorem dX6_hoursGo_17 : decode cX6_hoursGo 17 = .ok (.return_, 1) := by decide +kernel
set_option maxRecDepth 20000 in
theorem ggX6_hours_X6_in : GoodIn wsX6_hours wsX6_in := goodIn_r _ [9] (by decide +kernel) (by decide +kernel)
set_option maxRecDepth 20000 in
theorem gX6_hours_X6_in : GoodIn wsX6_hours (va_wsS RX6 48 yX6_in wsX6_in) := goodIn_app (goodIn_of _ (by decide +kernel)) ggX6_hours_X6_in
set_option maxRecDepth 20000 in
theorem ggX6_hours_X6_finds : GoodIn wsX6_hours wsX6_finds := goodIn_r _ [13, 14, 2, 60, 61, 62, 63, 64, 65, 66, 67, 68, 69, 70, 71, 72, 73, 74, 75] (by decide +kernel) (by decide +kernel)
set_option maxRecDepth 20000 in
theorem gX6_hours_X6_finds : GoodIn wsX6_hours (wsV RX6 73 RX6 yX6_finds wsX6_finds) := goodIn_app (goodIn_of _ (by decide +kernel)) ggX6_hours_X6_finds
set_option maxRecDepth 20000 in
theorem ggX6_hours_X6_hoursGo : GoodIn wsX6_hours wsX6_hoursGo := goodIn_r _ [18, 19, 20, 21, 8, 22, 3, 23, 24, 25, 26, 27, 28, 29, 30, 4, 31, 32, 33, 34, 35, 36, 37, 38, 39, 40, 41, 42, 43, 44, 45, 46, 47, 48, 49, 50, 51, 52, 53, 54, 55, 56, 57, 58, 59, 60, 61, 62, 63, 64, 65, 66, 67, 68, 69, 70, 71, 72, 73, 74, 75] (by decide +kernel) (by decide +kernel)
set_option maxRecDepth 20000 in
theorem gX6_hours_X6_hoursGo : GoodIn wsX6_hours (wsV RX6 135 RX6 yX6_hoursGo wsX6_hoursGo) := goodIn_app (goodIn_of _ (by decide +kernel)) ggX6_hours_X6_hoursGo
theorem dX6_hours_0 : decode cX6_hours 0 = .ok (.iload_n 1, 1) := by decide +kernel
theorem dX6_hours_1 : decode cX6_hours 1 = .ok (.i2l, 1) := by decide +kernel
theorem dX6_hours_2 : decode cX6_hours 2 = .ok (.lconst 1, 1) := by decide +kernel
theorem dX6_hours_3 : decode cX6_hours 3 = .ok (.ldc2_w 132, 3) := by decide +kernel
theorem dX6_hours_6 : decode cX6_hours 6 = .ok (.invokestatic 48, 3) := by decide +kernel
theorem dX6_hours_9 : decode cX6_hours 9 = .ok (.ifCond .ne 10, 3) := by decide +kernel
theorem dX6_hours_12 : decode cX6_hours 12 = .ok (.aload_n 0, 1) := by decide +kernel
theorem dX6_hours_13 : decode cX6_hours 13 = .ok (.ldc 45, 2) := by decide +kernel
theorem dX6_hours_15 : decode cX6_hours 15 = .ok (.invokevirtual 73, 3) := by decide +kernel
theorem dX6_hours_18 : decode cX6_hours 18 = .ok (.ireturn, 1) := by decide +kernel
theorem dX6_hours_19 : decode cX6_hours 19 = .ok (.aload_n 0, 1) := by decide +kernel
theorem dX6_hours_20 : decode cX6_hours 20 = .ok (.getfield 7, 3) := by decide +kernel
theorem dX6_hours_23 : decode cX6_hours 23 = .ok (.iconst 0, 1) := by decide +kernel
theorem dX6_hours_24 : decode cX6_hours 24 = .ok (.iaload, 1) := by decide +kernel
theorem dX6_hours_25 : decode cX6_hours 25 = .ok (.iload_n 1, 1) := by decide +kernel
theorem dX6_hours_26 : decode cX6_hours 26 = .ok (.iadd, 1) := by decide +kernel
theorem dX6_hours_27 : decode cX6_hours 27 = .ok (.ldc 124, 2) := by decide +kernel
theorem dX6_hours_29 : decode cX6_hours 29 = .ok (.if_icmp .le 10, 3) := by decide +kernel
theorem dX6_hours_32 : decode cX6_hours 32 = .ok (.aload_n 0, 1) := by decide +kernel
theorem dX6_hours_33 : decode cX6_hours 33 = .ok (.ldc 134, 2) := by decide +kernel
theorem dX6_hours_35 : decode cX6_hours 35 = .ok (.invokevirtual 73, 3) := by decide +kernel
theorem dX6_hours_38 : decode cX6_hours 38 = .ok (.ireturn, 1) := by decide +kernel
theorem dX6_hours_39 : decode cX6_hours 39 = .ok (.aload_n 0, 1) := by decide +kernel
theorem dX6_hours_40 : decode cX6_hours 40 = .ok (.iload_n 1, 1) := by decide +kernel
theorem dX6_hours_41 : decode cX6_hours 41 = .ok (.invokevirtual 135, 3) := by decide +kernel
theorem dX6_hours_44 : decode cX6_hours 44 = .ok (.aload_n 0, 1) := by decide +kernel
theorem dX6_hours_45 : decode cX6_hours 45 = .ok (.getfield 7, 3) := by decide +kernel
theorem dX6_hours_48 : decode cX6_hours 48 = .ok (.bipush 6, 2) := by decide +kernel
theorem dX6_hours_50 : decode cX6_hours 50 = .ok (.iaload, 1) := by decide +kernel
theorem dX6_hours_51 : decode cX6_hours 51 = .ok (.ireturn, 1) := by decide +kernel
set_option maxRecDepth 20000 in
theorem ggX6_isAhead_X6_in : GoodIn wsX6_isAhead wsX6_in := goodIn_r _ [5] (by decide +kernel) (by decide +kernel)
set_option maxRecDepth 20000 in
theorem gX6_isAhead_X6_in : GoodIn wsX6_isAhead (va_wsS RX6 48 yX6_in wsX6_in) := goodIn_app (goodIn_of _ (by decide +kernel)) ggX6_isAhead_X6_in
theorem dX6_isAhead_0 : decode cX6_isAhead 0 = .ok (.iload_n 0, 1) := by decide +kernel
theorem dX6_isAhead_1 : decode cX6_isAhead 1 = .ok (.i2l, 1) := by decide +kernel
theorem dX6_isAhead_2 : decode cX6_isAhead 2 = .ok (.lconst 0, 1) := by decide +kernel
theorem dX6_isAhead_3 : decode cX6_isAhead 3 = .ok (.ldc2_w 138, 3) := by decide +kernel
theorem dX6_isAhead_6 : decode cX6_isAhead 6 = .ok (.invokestatic 48, 3) := by decide +kernel
theorem dX6_isAhead_9 : decode cX6_isAhead 9 = .ok (.ireturn, 1) := by decide +kernel
set_option maxRecDepth 20000 in
theorem ggX6_behind_X6_laysAside : GoodIn wsX6_behind wsX6_laysAside := goodIn_r _ [6, 7, 1, 58, 59, 60, 61, 62, 63, 64, 65, 66, 67, 68, 69, 70, 71, 72, 73] (by decide +kernel) (by decide +kernel)
set_option maxRecDepth 20000 in
theorem gX6_behind_X6_laysAside : GoodIn wsX6_behind (wsV RX6 140 RX6 yX6_laysAside wsX6_laysAside) := goodIn_app (goodIn_of _ (by decide +kernel)) ggX6_behind_X6_laysAside
set_option maxRecDepth 20000 in
theorem ggX6_behind_X6_hoursGo : GoodIn wsX6_behind wsX6_hoursGo := goodIn_r _ [11, 12, 13, 14, 5, 15, 1, 16, 17, 18, 19, 20, 21, 22, 23, 24, 25, 26, 27, 28, 29, 30, 31, 32, 33, 34, 35, 36, 37, 38, 39, 40, 41, 42, 43, 44, 45, 46, 47, 48, 49, 50, 51, 52, 53, 58, 59, 60, 61, 62, 63, 64, 65, 66, 67, 68, 69, 70, 71, 72, 73] (by decide +kernel) (by decide +kernel)
set_option maxRecDepth 20000 in
theorem gX6_behind_X6_hoursGo : GoodIn wsX6_behind (wsV RX6 135 RX6 yX6_hoursGo wsX6_hoursGo) := goodIn_app (goodIn_of _ (by decide +kernel)) ggX6_behind_X6_hoursGo
set_option maxRecDepth 20000 in
theorem ggX6_behind_X6_takesBack : GoodIn wsX6_behind wsX6_takesBack := goodIn_r _ [57, 1, 7, 58, 59, 60, 61, 62, 63, 64, 65, 66, 67, 68, 69, 70, 71, 72, 73] (by decide +kernel) (by decide +kernel)
set_option maxRecDepth 20000 in
theorem gX6_behind_X6_takesBack : GoodIn wsX6_behind (wsV RX6 143 RX6 yX6_takesBack wsX6_takesBack) := goodIn_app (goodIn_of _ (by decide +kernel)) ggX6_behind_X6_takesBack
theorem dX6_behind_0 : decode cX6_behind 0 = .ok (.aload_n 0, 1) := by decide +kernel
theorem dX6_behind_1 : decode cX6_behind 1 = .ok (.invokevirtual 140, 3) := by decide +kernel
theorem dX6_behind_4 : decode cX6_behind 4 = .ok (.aload_n 0, 1) := by decide +kernel
theorem dX6_behind_5 : decode cX6_behind 5 = .ok (.iload_n 2, 1) := by decide +kernel
theorem dX6_behind_6 : decode cX6_behind 6 = .ok (.invokevirtual 135, 3) := by decide +kernel
theorem dX6_behind_9 : decode cX6_behind 9 = .ok (.aload_n 0, 1) := by decide +kernel
theorem dX6_behind_10 : decode cX6_behind 10 = .ok (.aload_n 0, 1) := by decide +kernel
theorem dX6_behind_11 : decode cX6_behind 11 = .ok (.getfield 7, 3) := by decide +kernel
theorem dX6_behind_14 : decode cX6_behind 14 = .ok (.iload_n 1, 1) := by decide +kernel
theorem dX6_behind_15 : decode cX6_behind 15 = .ok (.iaload, 1) := by decide +kernel
theorem dX6_behind_16 : decode cX6_behind 16 = .ok (.invokevirtual 143, 3) := by decide +kernel
theorem dX6_behind_19 : decode cX6_behind 19 = .ok (.ireturn, 1) := by decide +kernel
set_option maxRecDepth 20000 in
theorem ggX6_on_X6_isHouse : GoodIn wsX6_on wsX6_isHouse := goodIn_r _ [5, 6, 7, 8, 4, 9] (by decide +kernel) (by decide +kernel)
set_option maxRecDepth 20000 in
theorem gX6_on_X6_isHouse : GoodIn wsX6_on (va_wsS RX6 56 yX6_isHouse wsX6_isHouse) := goodIn_app (goodIn_of _ (by decide +kernel)) ggX6_on_X6_isHouse
set_option maxRecDepth 20000 in
theorem ggX6_on_X6_isAhead : GoodIn wsX6_on wsX6_isAhead := goodIn_r _ [12, 13, 7, 8, 4, 9] (by decide +kernel) (by decide +kernel)
set_option maxRecDepth 20000 in
theorem gX6_on_X6_isAhead : GoodIn wsX6_on (va_wsS RX6 146 yX6_isAhead wsX6_isAhead) := goodIn_app (goodIn_of _ (by decide +kernel)) ggX6_on_X6_isAhead
set_option maxRecDepth 20000 in
theorem ggX6_on_X6_in : GoodIn wsX6_on wsX6_in := goodIn_r _ [9] (by decide +kernel) (by decide +kernel)
set_option maxRecDepth 20000 in
theorem gX6_on_X6_in : GoodIn wsX6_on (va_wsS RX6 48 yX6_in wsX6_in) := goodIn_app (goodIn_of _ (by decide +kernel)) ggX6_on_X6_in
set_option maxRecDepth 20000 in
theorem ggX6_on_X6_finds : GoodIn wsX6_on wsX6_finds := goodIn_r _ [17, 18, 1, 79, 80, 81, 82, 83, 84, 85, 86, 87, 88, 89, 90, 91, 92, 93, 94] (by decide +kernel) (by decide +kernel)
set_option maxRecDepth 20000 in
theorem gX6_on_X6_finds : GoodIn wsX6_on (wsV RX6 73 RX6 yX6_finds wsX6_finds) := goodIn_app (goodIn_of _ (by decide +kernel)) ggX6_on_X6_finds
set_option maxRecDepth 20000 in
theorem ggX6_on_X6_spotOf : GoodIn wsX6_on wsX6_spotOf := goodIn_r _ [21] (by decide +kernel) (by decide +kernel)
set_option maxRecDepth 20000 in
theorem gX6_on_X6_spotOf : GoodIn wsX6_on (va_wsS RX6 41 yX6_spotOf wsX6_spotOf) := goodIn_app (goodIn_of _ (by decide +kernel)) ggX6_on_X6_spotOf
set_option maxRecDepth 20000 in
theorem ggX6_on_X6_behind : GoodIn wsX6_on wsX6_behind := goodIn_r _ [25, 26, 27, 28, 29, 4, 30, 31, 32, 33, 34, 35, 36, 37, 38, 39, 40, 41, 42, 43, 44, 45, 46, 47, 48, 49, 50, 51, 52, 19, 20, 21, 53, 54, 55, 56, 57, 58, 59, 60, 61, 62, 63, 64, 65, 66, 67, 68, 69, 70, 71, 72, 73, 74, 75, 76, 77, 78, 79, 80, 81, 82, 83, 84, 85, 86, 87, 88, 89, 90, 91, 92, 93, 94] (by decide +kernel) (by decide +kernel)
set_option maxRecDepth 20000 in
theorem gX6_on_X6_behind : GoodIn wsX6_on (wsV RX6 149 RX6 yX6_behind wsX6_behind) := goodIn_app (goodIn_of _ (by decide +kernel)) ggX6_on_X6_behind
theorem dX6_on_0 : decode cX6_on 0 = .ok (.iload_n 1, 1) := by decide +kernel
theorem dX6_on_1 : decode cX6_on 1 = .ok (.invokestatic 56, 3) := by decide +kernel
theorem dX6_on_4 : decode cX6_on 4 = .ok (.ifCond .eq 20, 3) := by decide +kernel
theorem dX6_on_7 : decode cX6_on 7 = .ok (.iload_n 2, 1) := by decide +kernel
theorem dX6_on_8 : decode cX6_on 8 = .ok (.invokestatic 146, 3) := by decide +kernel
theorem dX6_on_11 : decode cX6_on 11 = .ok (.ifCond .eq 13, 3) := by decide +kernel
theorem dX6_on_14 : decode cX6_on 14 = .ok (.iload_n 3, 1) := by decide +kernel
theorem dX6_on_15 : decode cX6_on 15 = .ok (.i2l, 1) := by decide +kernel
theorem dX6_on_16 : decode cX6_on 16 = .ok (.lconst 0, 1) := by decide +kernel
theorem dX6_on_17 : decode cX6_on 17 = .ok (.lconst 1, 1) := by decide +kernel
theorem dX6_on_18 : decode cX6_on 18 = .ok (.invokestatic 48, 3) := by decide +kernel
theorem dX6_on_21 : decode cX6_on 21 = .ok (.ifCond .ne 10, 3) := by decide +kernel
theorem dX6_on_24 : decode cX6_on 24 = .ok (.aload_n 0, 1) := by decide +kernel
theorem dX6_on_25 : decode cX6_on 25 = .ok (.ldc 45, 2) := by decide +kernel
theorem dX6_on_27 : decode cX6_on 27 = .ok (.invokevirtual 73, 3) := by decide +kernel
theorem dX6_on_30 : decode cX6_on 30 = .ok (.ireturn, 1) := by decide +kernel
theorem dX6_on_31 : decode cX6_on 31 = .ok (.aload_n 0, 1) := by decide +kernel
theorem dX6_on_32 : decode cX6_on 32 = .ok (.iload_n 1, 1) := by decide +kernel
theorem dX6_on_33 : decode cX6_on 33 = .ok (.iload_n 3, 1) := by decide +kernel
theorem dX6_on_34 : decode cX6_on 34 = .ok (.ifCond .ne 7, 3) := by decide +kernel
theorem dX6_on_37 : decode cX6_on 37 = .ok (.iconst 1, 1) := by decide +kernel
theorem dX6_on_38 : decode cX6_on 38 = .ok (.goto 4, 3) := by decide +kernel
theorem dX6_on_41 : decode cX6_on 41 = .ok (.iconst 3, 1) := by decide +kernel
theorem dX6_on_42 : decode cX6_on 42 = .ok (.invokestatic 41, 3) := by decide +kernel
theorem dX6_on_45 : decode cX6_on 45 = .ok (.iload_n 2, 1) := by decide +kernel
theorem dX6_on_46 : decode cX6_on 46 = .ok (.invokevirtual 149, 3) := by decide +kernel
theorem dX6_on_49 : decode cX6_on 49 = .ok (.ireturn, 1) := by decide +kernel
set_option maxRecDepth 20000 in
theorem ggX6_rang_X6_isAhead : GoodIn wsX6_rang wsX6_isAhead := goodIn_r _ [5, 6, 7, 8, 4, 9] (by decide +kernel) (by decide +kernel)
set_option maxRecDepth 20000 in
theorem gX6_rang_X6_isAhead : GoodIn wsX6_rang (va_wsS RX6 146 yX6_isAhead wsX6_isAhead) := goodIn_app (goodIn_of _ (by decide +kernel)) ggX6_rang_X6_isAhead
set_option maxRecDepth 20000 in
theorem ggX6_rang_X6_behind : GoodIn wsX6_rang wsX6_behind := goodIn_r _ [13, 14, 15, 16, 17, 4, 18, 19, 20, 21, 22, 23, 24, 25, 26, 27, 28, 29, 30, 31, 32, 33, 34, 35, 36, 37, 38, 39, 40, 41, 42, 43, 44, 45, 46, 47, 48, 49, 50, 51, 52, 53, 54, 55, 56, 57, 58, 59, 60, 61, 62, 63, 64, 65, 66, 67, 68, 69, 75, 76, 77, 78, 79, 80, 81, 82, 83, 84, 85, 86, 87, 88, 89, 90] (by decide +kernel) (by decide +kernel)
set_option maxRecDepth 20000 in
theorem gX6_rang_X6_behind : GoodIn wsX6_rang (wsV RX6 149 RX6 yX6_behind wsX6_behind) := goodIn_app (goodIn_of _ (by decide +kernel)) ggX6_rang_X6_behind
set_option maxRecDepth 20000 in
theorem ggX6_rang_X6_finds : GoodIn wsX6_rang wsX6_finds := goodIn_r _ [73, 74, 1, 75, 76, 77, 78, 79, 80, 81, 82, 83, 84, 85, 86, 87, 88, 89, 90] (by decide +kernel) (by decide +kernel)
set_option maxRecDepth 20000 in
theorem gX6_rang_X6_finds : GoodIn wsX6_rang (wsV RX6 73 RX6 yX6_finds wsX6_finds) := goodIn_app (goodIn_of _ (by decide +kernel)) ggX6_rang_X6_finds
theorem dX6_rang_0 : decode cX6_rang 0 = .ok (.iload_n 1, 1) := by decide +kernel
theorem dX6_rang_1 : decode cX6_rang 1 = .ok (.invokestatic 146, 3) := by decide +kernel
theorem dX6_rang_4 : decode cX6_rang 4 = .ok (.ifCond .eq 12, 3) := by decide +kernel
theorem dX6_rang_7 : decode cX6_rang 7 = .ok (.aload_n 0, 1) := by decide +kernel
theorem dX6_rang_8 : decode cX6_rang 8 = .ok (.iconst 4, 1) := by decide +kernel
theorem dX6_rang_9 : decode cX6_rang 9 = .ok (.iload_n 1, 1) := by decide +kernel
theorem dX6_rang_10 : decode cX6_rang 10 = .ok (.invokevirtual 149, 3) := by decide +kernel
theorem dX6_rang_13 : decode cX6_rang 13 = .ok (.goto 9, 3) := by decide +kernel
theorem dX6_rang_16 : decode cX6_rang 16 = .ok (.aload_n 0, 1) := by decide +kernel
theorem dX6_rang_17 : decode cX6_rang 17 = .ok (.ldc 45, 2) := by decide +kernel
theorem dX6_rang_19 : decode cX6_rang 19 = .ok (.invokevirtual 73, 3) := by decide +kernel
theorem dX6_rang_22 : decode cX6_rang 22 = .ok (.ireturn, 1) := by decide +kernel
set_option maxRecDepth 20000 in
theorem ggX6_takings_X6_isAhead : GoodIn wsX6_takings wsX6_isAhead := goodIn_r _ [5, 6, 7, 8, 4, 9] (by decide +kernel) (by decide +kernel)
set_option maxRecDepth 20000 in
theorem gX6_takings_X6_isAhead : GoodIn wsX6_takings (va_wsS RX6 146 yX6_isAhead wsX6_isAhead) := goodIn_app (goodIn_of _ (by decide +kernel)) ggX6_takings_X6_isAhead
set_option maxRecDepth 20000 in
theorem ggX6_takings_X6_behind : GoodIn wsX6_takings wsX6_behind := goodIn_r _ [13, 14, 15, 16, 17, 4, 18, 19, 20, 21, 22, 23, 24, 25, 26, 27, 28, 29, 30, 31, 32, 33, 34, 35, 36, 37, 38, 39, 40, 41, 42, 43, 44, 45, 46, 47, 48, 49, 50, 51, 52, 53, 54, 55, 56, 57, 58, 59, 60, 61, 62, 63, 64, 65, 66, 67, 68, 69, 75, 76, 77, 78, 79, 80, 81, 82, 83, 84, 85, 86, 87, 88, 89, 90] (by decide +kernel) (by decide +kernel)
set_option maxRecDepth 20000 in
theorem gX6_takings_X6_behind : GoodIn wsX6_takings (wsV RX6 149 RX6 yX6_behind wsX6_behind) := goodIn_app (goodIn_of _ (by decide +kernel)) ggX6_takings_X6_behind
set_option maxRecDepth 20000 in
theorem ggX6_takings_X6_finds : GoodIn wsX6_takings wsX6_finds := goodIn_r _ [73, 74, 1, 75, 76, 77, 78, 79, 80, 81, 82, 83, 84, 85, 86, 87, 88, 89, 90] (by decide +kernel) (by decide +kernel)
set_option maxRecDepth 20000 in
theorem gX6_takings_X6_finds : GoodIn wsX6_takings (wsV RX6 73 RX6 yX6_finds wsX6_finds) := goodIn_app (goodIn_of _ (by decide +kernel)) ggX6_takings_X6_finds
theorem dX6_takings_0 : decode cX6_takings 0 = .ok (.iload_n 1, 1) := by decide +kernel
theorem dX6_takings_1 : decode cX6_takings 1 = .ok (.invokestatic 146, 3) := by decide +kernel
theorem dX6_takings_4 : decode cX6_takings 4 = .ok (.ifCond .eq 13, 3) := by decide +kernel
theorem dX6_takings_7 : decode cX6_takings 7 = .ok (.aload_n 0, 1) := by decide +kernel
theorem dX6_takings_8 : decode cX6_takings 8 = .ok (.bipush 6, 2) := by decide +kernel
theorem dX6_takings_10 : decode cX6_takings 10 = .ok (.iload_n 1, 1) := by decide +kernel
theorem dX6_takings_11 : decode cX6_takings 11 = .ok (.invokevirtual 149, 3) := by decide +kernel
theorem dX6_takings_14 : decode cX6_takings 14 = .ok (.goto 9, 3) := by decide +kernel
theorem dX6_takings_17 : decode cX6_takings 17 = .ok (.aload_n 0, 1) := by decide +kernel
theorem dX6_takings_18 : decode cX6_takings 18 = .ok (.ldc 45, 2) := by decide +kernel
theorem dX6_takings_20 : decode cX6_takings 20 = .ok (.invokevirtual 73, 3) := by decide +kernel
theorem dX6_takings_23 : decode cX6_takings 23 = .ok (.ireturn, 1) := by decide +kernel
set_option maxRecDepth 20000 in
theorem ggX6_together_X6_its : GoodIn wsX6_together wsX6_its := goodIn_r _ [5, 6, 7, 8, 4, 9, 10, 11, 12, 13, 14, 15, 16, 17, 18, 19, 20, 21, 22, 23, 24, 25] (by decide +kernel) (by decide +kernel)
set_option maxRecDepth 20000 in
theorem gX6_together_X6_its : GoodIn wsX6_together (wsV RX6 81 RX6 yX6_its wsX6_its) := goodIn_app (goodIn_of _ (by decide +kernel)) ggX6_together_X6_its
theorem dX6_together_0 : decode cX6_together 0 = .ok (.iconst 0, 1) := by decide +kernel
theorem dX6_together_1 : decode cX6_together 1 = .ok (.istore_n 2, 1) := by decide +kernel
theorem dX6_together_2 : decode cX6_together 2 = .ok (.iconst 0, 1) := by decide +kernel
theorem dX6_together_3 : decode cX6_together 3 = .ok (.istore_n 3, 1) := by decide +kernel
theorem dX6_together_4 : decode cX6_together 4 = .ok (.iload_n 3, 1) := by decide +kernel
theorem dX6_together_5 : decode cX6_together 5 = .ok (.bipush 8, 2) := by decide +kernel
theorem dX6_together_7 : decode cX6_together 7 = .ok (.if_icmp .ge 18, 3) := by decide +kernel
theorem dX6_together_10 : decode cX6_together 10 = .ok (.iload_n 2, 1) := by decide +kernel
theorem dX6_together_11 : decode cX6_together 11 = .ok (.aload_n 0, 1) := by decide +kernel
theorem dX6_together_12 : decode cX6_together 12 = .ok (.iload_n 3, 1) := by decide +kernel
theorem dX6_together_13 : decode cX6_together 13 = .ok (.iload_n 1, 1) := by decide +kernel
theorem dX6_together_14 : decode cX6_together 14 = .ok (.invokevirtual 81, 3) := by decide +kernel
theorem dX6_together_17 : decode cX6_together 17 = .ok (.iadd, 1) := by decide +kernel
theorem dX6_together_18 : decode cX6_together 18 = .ok (.istore_n 2, 1) := by decide +kernel
theorem dX6_together_19 : decode cX6_together 19 = .ok (.iinc 3 1, 3) := by decide +kernel
theorem dX6_together_22 : decode cX6_together 22 = .ok (.goto (-18), 3) := by decide +kernel
theorem dX6_together_25 : decode cX6_together 25 = .ok (.iload_n 2, 1) := by decide +kernel
theorem dX6_together_26 : decode cX6_together 26 = .ok (.ireturn, 1) := by decide +kernel
set_option maxRecDepth 20000 in
theorem ggX6_moodsIn_X6_laysAside : GoodIn wsX6_moodsIn wsX6_laysAside := goodIn_r _ [5, 6, 7, 62, 63, 64, 65, 66, 67, 68, 69, 70, 71, 72, 73, 74, 75, 76, 77] (by decide +kernel) (by decide +kernel)
set_option maxRecDepth 20000 in
theorem gX6_moodsIn_X6_laysAside : GoodIn wsX6_moodsIn (wsV RX6 140 RX6 yX6_laysAside wsX6_laysAside) := goodIn_app (goodIn_of _ (by decide +kernel)) ggX6_moodsIn_X6_laysAside
set_option maxRecDepth 20000 in
theorem ggX6_moodsIn_X6_hoursGo : GoodIn wsX6_moodsIn wsX6_hoursGo := goodIn_r _ [11, 12, 13, 14, 4, 15, 7, 16, 17, 18, 19, 20, 21, 22, 23, 24, 25, 26, 27, 28, 29, 30, 31, 32, 33, 34, 35, 36, 37, 38, 39, 40, 41, 42, 43, 44, 45, 46, 47, 48, 49, 50, 51, 52, 53, 62, 63, 64, 65, 66, 67, 68, 69, 70, 71, 72, 73, 74, 75, 76, 77] (by decide +kernel) (by decide +kernel)
set_option maxRecDepth 20000 in
theorem gX6_moodsIn_X6_hoursGo : GoodIn wsX6_moodsIn (wsV RX6 135 RX6 yX6_hoursGo wsX6_hoursGo) := goodIn_app (goodIn_of _ (by decide +kernel)) ggX6_moodsIn_X6_hoursGo
set_option maxRecDepth 20000 in
theorem ggX6_moodsIn_X6_together : GoodIn wsX6_moodsIn wsX6_together := goodIn_r _ [57, 25, 26, 27, 4, 28, 7, 29, 30, 31, 62, 63, 64, 65, 66, 67, 68, 69, 70, 71, 72, 73, 74, 75, 76, 77] (by decide +kernel) (by decide +kernel)
set_option maxRecDepth 20000 in
theorem gX6_moodsIn_X6_together : GoodIn wsX6_moodsIn (wsV RX6 152 RX6 yX6_together wsX6_together) := goodIn_app (goodIn_of _ (by decide +kernel)) ggX6_moodsIn_X6_together
set_option maxRecDepth 20000 in
theorem ggX6_moodsIn_X6_takesBack : GoodIn wsX6_moodsIn wsX6_takesBack := goodIn_r _ [61, 7, 6, 62, 63, 64, 65, 66, 67, 68, 69, 70, 71, 72, 73, 74, 75, 76, 77] (by decide +kernel) (by decide +kernel)
set_option maxRecDepth 20000 in
theorem gX6_moodsIn_X6_takesBack : GoodIn wsX6_moodsIn (wsV RX6 143 RX6 yX6_takesBack wsX6_takesBack) := goodIn_app (goodIn_of _ (by decide +kernel)) ggX6_moodsIn_X6_takesBack
theorem dX6_moodsIn_0 : decode cX6_moodsIn 0 = .ok (.aload_n 0, 1) := by decide +kernel
theorem dX6_moodsIn_1 : decode cX6_moodsIn 1 = .ok (.invokevirtual 140, 3) := by decide +kernel
theorem dX6_moodsIn_4 : decode cX6_moodsIn 4 = .ok (.aload_n 0, 1) := by decide +kernel
theorem dX6_moodsIn_5 : decode cX6_moodsIn 5 = .ok (.iload_n 1, 1) := by decide +kernel
theorem dX6_moodsIn_6 : decode cX6_moodsIn 6 = .ok (.invokevirtual 135, 3) := by decide +kernel
theorem dX6_moodsIn_9 : decode cX6_moodsIn 9 = .ok (.aload_n 0, 1) := by decide +kernel
theorem dX6_moodsIn_10 : decode cX6_moodsIn 10 = .ok (.aload_n 0, 1) := by decide +kernel
theorem dX6_moodsIn_11 : decode cX6_moodsIn 11 = .ok (.iconst 1, 1) := by decide +kernel
theorem dX6_moodsIn_12 : decode cX6_moodsIn 12 = .ok (.invokevirtual 152, 3) := by decide +kernel
theorem dX6_moodsIn_15 : decode cX6_moodsIn 15 = .ok (.invokevirtual 143, 3) := by decide +kernel
theorem dX6_moodsIn_18 : decode cX6_moodsIn 18 = .ok (.ireturn, 1) := by decide +kernel
set_option maxRecDepth 20000 in
theorem ggX6_moods_X6_isAhead : GoodIn wsX6_moods wsX6_isAhead := goodIn_r _ [5, 6, 7, 8, 4, 9] (by decide +kernel) (by decide +kernel)
set_option maxRecDepth 20000 in
theorem gX6_moods_X6_isAhead : GoodIn wsX6_moods (va_wsS RX6 146 yX6_isAhead wsX6_isAhead) := goodIn_app (goodIn_of _ (by decide +kernel)) ggX6_moods_X6_isAhead
set_option maxRecDepth 20000 in
theorem ggX6_moods_X6_moodsIn : GoodIn wsX6_moods wsX6_moodsIn := goodIn_r _ [13, 14, 15, 16, 4, 17, 18, 19, 20, 21, 22, 23, 24, 25, 26, 27, 28, 29, 30, 31, 32, 33, 34, 35, 36, 37, 38, 39, 40, 41, 42, 43, 44, 45, 46, 47, 48, 49, 50, 51, 52, 53, 54, 55, 56, 57, 58, 59, 60, 61, 62, 63, 64, 65, 66, 67, 68, 69, 70, 71, 72, 73, 79, 80, 81, 82, 83, 84, 85, 86, 87, 88, 89, 90, 91, 92, 93, 94] (by decide +kernel) (by decide +kernel)
set_option maxRecDepth 20000 in
theorem gX6_moods_X6_moodsIn : GoodIn wsX6_moods (wsV RX6 155 RX6 yX6_moodsIn wsX6_moodsIn) := goodIn_app (goodIn_of _ (by decide +kernel)) ggX6_moods_X6_moodsIn
set_option maxRecDepth 20000 in
theorem ggX6_moods_X6_finds : GoodIn wsX6_moods wsX6_finds := goodIn_r _ [77, 78, 1, 79, 80, 81, 82, 83, 84, 85, 86, 87, 88, 89, 90, 91, 92, 93, 94] (by decide +kernel) (by decide +kernel)
set_option maxRecDepth 20000 in
theorem gX6_moods_X6_finds : GoodIn wsX6_moods (wsV RX6 73 RX6 yX6_finds wsX6_finds) := goodIn_app (goodIn_of _ (by decide +kernel)) ggX6_moods_X6_finds
theorem dX6_moods_0 : decode cX6_moods 0 = .ok (.iload_n 1, 1) := by decide +kernel
theorem dX6_moods_1 : decode cX6_moods 1 = .ok (.invokestatic 146, 3) := by decide +kernel
theorem dX6_moods_4 : decode cX6_moods 4 = .ok (.ifCond .eq 11, 3) := by decide +kernel
theorem dX6_moods_7 : decode cX6_moods 7 = .ok (.aload_n 0, 1) := by decide +kernel
theorem dX6_moods_8 : decode cX6_moods 8 = .ok (.iload_n 1, 1) := by decide +kernel
theorem dX6_moods_9 : decode cX6_moods 9 = .ok (.invokevirtual 155, 3) := by decide +kernel
theorem dX6_moods_12 : decode cX6_moods 12 = .ok (.goto 9, 3) := by decide +kernel
theorem dX6_moods_15 : decode cX6_moods 15 = .ok (.aload_n 0, 1) := by decide +kernel
theorem dX6_moods_16 : decode cX6_moods 16 = .ok (.ldc 45, 2) := by decide +kernel
theorem dX6_moods_18 : decode cX6_moods 18 = .ok (.invokevirtual 73, 3) := by decide +kernel
theorem dX6_moods_21 : decode cX6_moods 21 = .ok (.ireturn, 1) := by decide +kernel
set_option maxRecDepth 20000 in
theorem ggX6_firstAs_X6_laysAside : GoodIn wsX6_firstAs wsX6_laysAside := goodIn_r _ [7, 8, 1, 61, 62, 63, 64, 65, 66, 67, 68, 69, 70, 71, 72, 73, 74, 75, 76] (by decide +kernel) (by decide +kernel)
set_option maxRecDepth 20000 in
theorem gX6_firstAs_X6_laysAside : GoodIn wsX6_firstAs (wsV RX6 140 RX6 yX6_laysAside wsX6_laysAside) := goodIn_app (goodIn_of _ (by decide +kernel)) ggX6_firstAs_X6_laysAside
set_option maxRecDepth 20000 in
theorem ggX6_firstAs_X6_hour : GoodIn wsX6_firstAs wsX6_hour := goodIn_r _ [12, 1, 13, 14, 15, 6, 16, 17, 18, 19, 20, 21, 22, 23, 24, 25, 26, 27, 28, 29, 30, 31, 32, 33, 34, 35, 36, 37, 38, 39, 40, 41, 42, 43, 44, 45, 46, 47, 48, 49, 50, 61, 62, 63, 64, 65, 66, 67, 68, 69, 70, 71, 72, 73, 74, 75, 76] (by decide +kernel) (by decide +kernel)
set_option maxRecDepth 20000 in
theorem gX6_firstAs_X6_hour : GoodIn wsX6_firstAs (wsV RX6 129 RX6 yX6_hour wsX6_hour) := goodIn_app (goodIn_of _ (by decide +kernel)) ggX6_firstAs_X6_hour
set_option maxRecDepth 20000 in
theorem ggX6_firstAs_X6_takesBack : GoodIn wsX6_firstAs wsX6_takesBack := goodIn_r _ [54, 1, 8, 61, 62, 63, 64, 65, 66, 67, 68, 69, 70, 71, 72, 73, 74, 75, 76] (by decide +kernel) (by decide +kernel)
set_option maxRecDepth 20000 in
theorem gX6_firstAs_X6_takesBack : GoodIn wsX6_firstAs (wsV RX6 143 RX6 yX6_takesBack wsX6_takesBack) := goodIn_app (goodIn_of _ (by decide +kernel)) ggX6_firstAs_X6_takesBack
set_option maxRecDepth 20000 in
theorem ggX6_firstAs_X6_finds : GoodIn wsX6_firstAs wsX6_finds := goodIn_r _ [58, 59, 60, 61, 62, 63, 64, 65, 66, 67, 68, 69, 70, 71, 72, 73, 74, 75, 76] (by decide +kernel) (by decide +kernel)
set_option maxRecDepth 20000 in
theorem gX6_firstAs_X6_finds : GoodIn wsX6_firstAs (wsV RX6 73 RX6 yX6_finds wsX6_finds) := goodIn_app (goodIn_of _ (by decide +kernel)) ggX6_firstAs_X6_finds
theorem dX6_firstAs_0 : decode cX6_firstAs 0 = .ok (.aload_n 0, 1) := by decide +kernel
theorem dX6_firstAs_1 : decode cX6_firstAs 1 = .ok (.invokevirtual 140, 3) := by decide +kernel
theorem dX6_firstAs_4 : decode cX6_firstAs 4 = .ok (.iconst 0, 1) := by decide +kernel
theorem dX6_firstAs_5 : decode cX6_firstAs 5 = .ok (.istore_n 3, 1) := by decide +kernel
theorem dX6_firstAs_6 : decode cX6_firstAs 6 = .ok (.iload_n 3, 1) := by decide +kernel
theorem dX6_firstAs_7 : decode cX6_firstAs 7 = .ok (.sipush 200, 3) := by decide +kernel
theorem dX6_firstAs_10 : decode cX6_firstAs 10 = .ok (.if_icmp .gt 23, 3) := by decide +kernel
theorem dX6_firstAs_13 : decode cX6_firstAs 13 = .ok (.aload_n 0, 1) := by decide +kernel
theorem dX6_firstAs_14 : decode cX6_firstAs 14 = .ok (.getfield 7, 3) := by decide +kernel
theorem dX6_firstAs_17 : decode cX6_firstAs 17 = .ok (.iload_n 1, 1) := by decide +kernel
theorem dX6_firstAs_18 : decode cX6_firstAs 18 = .ok (.iaload, 1) := by decide +kernel
theorem dX6_firstAs_19 : decode cX6_firstAs 19 = .ok (.iload_n 2, 1) := by decide +kernel
theorem dX6_firstAs_20 : decode cX6_firstAs 20 = .ok (.if_icmp .eq 13, 3) := by decide +kernel
theorem dX6_firstAs_23 : decode cX6_firstAs 23 = .ok (.aload_n 0, 1) := by decide +kernel
theorem dX6_firstAs_24 : decode cX6_firstAs 24 = .ok (.invokevirtual 129, 3) := by decide +kernel
theorem dX6_firstAs_27 : decode cX6_firstAs 27 = .ok (.iinc 3 1, 3) := by decide +kernel
theorem dX6_firstAs_30 : decode cX6_firstAs 30 = .ok (.goto (-24), 3) := by decide +kernel
theorem dX6_firstAs_33 : decode cX6_firstAs 33 = .ok (.aload_n 0, 1) := by decide +kernel
theorem dX6_firstAs_34 : decode cX6_firstAs 34 = .ok (.iload_n 3, 1) := by decide +kernel
theorem dX6_firstAs_35 : decode cX6_firstAs 35 = .ok (.invokevirtual 143, 3) := by decide +kernel
theorem dX6_firstAs_38 : decode cX6_firstAs 38 = .ok (.istore 4, 2) := by decide +kernel
theorem dX6_firstAs_40 : decode cX6_firstAs 40 = .ok (.iload 4, 2) := by decide +kernel
theorem dX6_firstAs_42 : decode cX6_firstAs 42 = .ok (.sipush 200, 3) := by decide +kernel
theorem dX6_firstAs_45 : decode cX6_firstAs 45 = .ok (.if_icmp .le 12, 3) := by decide +kernel
theorem dX6_firstAs_48 : decode cX6_firstAs 48 = .ok (.aload_n 0, 1) := by decide +kernel
theorem dX6_firstAs_49 : decode cX6_firstAs 49 = .ok (.ldc 158, 2) := by decide +kernel
theorem dX6_firstAs_51 : decode cX6_firstAs 51 = .ok (.invokevirtual 73, 3) := by decide +kernel
theorem dX6_firstAs_54 : decode cX6_firstAs 54 = .ok (.goto 5, 3) := by decide +kernel
theorem dX6_firstAs_57 : decode cX6_firstAs 57 = .ok (.iload 4, 2) := by decide +kernel
theorem dX6_firstAs_59 : decode cX6_firstAs 59 = .ok (.ireturn, 1) := by decide +kernel
set_option maxRecDepth 20000 in
theorem ggX6_empty_X6_firstAs : GoodIn wsX6_empty wsX6_firstAs := goodIn_r _ [5, 6, 7, 8, 9, 10, 4, 11, 12, 13, 14, 15, 16, 17, 18, 19, 20, 21, 22, 23, 24, 25, 26, 27, 28, 29, 30, 31, 32, 33, 34, 35, 36, 37, 38, 39, 40, 41, 42, 43, 44, 45, 46, 47, 48, 49, 50, 51, 52, 53, 54, 55, 56, 57, 58, 59, 60, 61, 62, 63, 64, 65, 66, 67, 68, 69, 70, 71, 72, 73, 74, 75, 76, 77, 78, 79, 80] (by decide +kernel) (by decide +kernel)
set_option maxRecDepth 20000 in
theorem gX6_empty_X6_firstAs : GoodIn wsX6_empty (wsV RX6 159 RX6 yX6_firstAs wsX6_firstAs) := goodIn_app (goodIn_of _ (by decide +kernel)) ggX6_empty_X6_firstAs
theorem dX6_empty_0 : decode cX6_empty 0 = .ok (.aload_n 0, 1) := by decide +kernel
theorem dX6_empty_1 : decode cX6_empty 1 = .ok (.iconst 3, 1) := by decide +kernel
theorem dX6_empty_2 : decode cX6_empty 2 = .ok (.iconst 0, 1) := by decide +kernel
theorem dX6_empty_3 : decode cX6_empty 3 = .ok (.invokevirtual 159, 3) := by decide +kernel
theorem dX6_empty_6 : decode cX6_empty 6 = .ok (.ireturn, 1) := by decide +kernel
set_option maxRecDepth 20000 in
theorem ggX6_comes_X6_isHouse : GoodIn wsX6_comes wsX6_isHouse := goodIn_r _ [5, 6, 7, 8, 4, 9] (by decide +kernel) (by decide +kernel)
set_option maxRecDepth 20000 in
theorem gX6_comes_X6_isHouse : GoodIn wsX6_comes (va_wsS RX6 56 yX6_isHouse wsX6_isHouse) := goodIn_app (goodIn_of _ (by decide +kernel)) ggX6_comes_X6_isHouse
set_option maxRecDepth 20000 in
theorem ggX6_comes_X6_firstAs : GoodIn wsX6_comes wsX6_firstAs := goodIn_r _ [13, 14, 15, 16, 17, 18, 4, 19, 20, 21, 22, 23, 24, 25, 26, 27, 28, 29, 30, 31, 32, 33, 34, 35, 36, 37, 38, 39, 40, 41, 42, 43, 44, 45, 46, 47, 48, 49, 50, 51, 52, 53, 54, 55, 56, 57, 58, 59, 60, 61, 62, 63, 64, 65, 66, 67, 68, 69, 70, 71, 1, 72, 73, 74, 75, 76, 77, 78, 79, 80, 81, 82, 83, 84, 85, 86, 87] (by decide +kernel) (by decide +kernel)
set_option maxRecDepth 20000 in
theorem gX6_comes_X6_firstAs : GoodIn wsX6_comes (wsV RX6 159 RX6 yX6_firstAs wsX6_firstAs) := goodIn_app (goodIn_of _ (by decide +kernel)) ggX6_comes_X6_firstAs
set_option maxRecDepth 20000 in
theorem ggX6_comes_X6_finds : GoodIn wsX6_comes wsX6_finds := goodIn_r _ [70, 71, 1, 72, 73, 74, 75, 76, 77, 78, 79, 80, 81, 82, 83, 84, 85, 86, 87] (by decide +kernel) (by decide +kernel)
set_option maxRecDepth 20000 in
theorem gX6_comes_X6_finds : GoodIn wsX6_comes (wsV RX6 73 RX6 yX6_finds wsX6_finds) := goodIn_app (goodIn_of _ (by decide +kernel)) ggX6_comes_X6_finds
theorem dX6_comes_0 : decode cX6_comes 0 = .ok (.iload_n 1, 1) := by decide +kernel
theorem dX6_comes_1 : decode cX6_comes 1 = .ok (.invokestatic 56, 3) := by decide +kernel
theorem dX6_comes_4 : decode cX6_comes 4 = .ok (.ifCond .eq 12, 3) := by decide +kernel
theorem dX6_comes_7 : decode cX6_comes 7 = .ok (.aload_n 0, 1) := by decide +kernel
theorem dX6_comes_8 : decode cX6_comes 8 = .ok (.iconst 1, 1) := by decide +kernel
theorem dX6_comes_9 : decode cX6_comes 9 = .ok (.iload_n 1, 1) := by decide +kernel
theorem dX6_comes_10 : decode cX6_comes 10 = .ok (.invokevirtual 159, 3) := by decide +kernel
theorem dX6_comes_13 : decode cX6_comes 13 = .ok (.goto 9, 3) := by decide +kernel
theorem dX6_comes_16 : decode cX6_comes 16 = .ok (.aload_n 0, 1) := by decide +kernel
theorem dX6_comes_17 : decode cX6_comes 17 = .ok (.ldc 45, 2) := by decide +kernel
theorem dX6_comes_19 : decode cX6_comes 19 = .ok (.invokevirtual 73, 3) := by decide +kernel
theorem dX6_comes_22 : decode cX6_comes 22 = .ok (.ireturn, 1) := by decide +kernel
set_option maxRecDepth 20000 in
theorem ggX6_when_X6_isTone : GoodIn wsX6_when wsX6_isTone := goodIn_r _ [5, 6, 7, 8, 4, 9] (by decide +kernel) (by decide +kernel)
set_option maxRecDepth 20000 in
theorem gX6_when_X6_isTone : GoodIn wsX6_when (va_wsS RX6 98 yX6_isTone wsX6_isTone) := goodIn_app (goodIn_of _ (by decide +kernel)) ggX6_when_X6_isTone
set_option maxRecDepth 20000 in
theorem ggX6_when_X6_firstAs : GoodIn wsX6_when wsX6_firstAs := goodIn_r _ [13, 14, 15, 16, 17, 18, 4, 19, 20, 21, 22, 23, 24, 25, 26, 27, 28, 29, 30, 31, 32, 33, 34, 35, 36, 37, 38, 39, 40, 41, 42, 43, 44, 45, 46, 47, 48, 49, 50, 51, 52, 53, 54, 55, 56, 57, 58, 59, 60, 61, 62, 63, 64, 65, 66, 67, 68, 69, 70, 71, 1, 72, 73, 74, 75, 76, 77, 78, 79, 80, 81, 82, 83, 84, 85, 86, 87] (by decide +kernel) (by decide +kernel)
set_option maxRecDepth 20000 in
theorem gX6_when_X6_firstAs : GoodIn wsX6_when (wsV RX6 159 RX6 yX6_firstAs wsX6_firstAs) := goodIn_app (goodIn_of _ (by decide +kernel)) ggX6_when_X6_firstAs
set_option maxRecDepth 20000 in
theorem ggX6_when_X6_finds : GoodIn wsX6_when wsX6_finds := goodIn_r _ [70, 71, 1, 72, 73, 74, 75, 76, 77, 78, 79, 80, 81, 82, 83, 84, 85, 86, 87] (by decide +kernel) (by decide +kernel)
set_option maxRecDepth 20000 in
theorem gX6_when_X6_finds : GoodIn wsX6_when (wsV RX6 73 RX6 yX6_finds wsX6_finds) := goodIn_app (goodIn_of _ (by decide +kernel)) ggX6_when_X6_finds
theorem dX6_when_0 : decode cX6_when 0 = .ok (.iload_n 1, 1) := by decide +kernel
theorem dX6_when_1 : decode cX6_when 1 = .ok (.invokestatic 98, 3) := by decide +kernel
theorem dX6_when_4 : decode cX6_when 4 = .ok (.ifCond .eq 12, 3) := by decide +kernel
theorem dX6_when_7 : decode cX6_when 7 = .ok (.aload_n 0, 1) := by decide +kernel
theorem dX6_when_8 : decode cX6_when 8 = .ok (.iconst 4, 1) := by decide +kernel
theorem dX6_when_9 : decode cX6_when 9 = .ok (.iload_n 1, 1) := by decide +kernel
theorem dX6_when_10 : decode cX6_when 10 = .ok (.invokevirtual 159, 3) := by decide +kernel
theorem dX6_when_13 : decode cX6_when 13 = .ok (.goto 9, 3) := by decide +kernel
theorem dX6_when_16 : decode cX6_when 16 = .ok (.aload_n 0, 1) := by decide +kernel
theorem dX6_when_17 : decode cX6_when 17 = .ok (.ldc 45, 2) := by decide +kernel
theorem dX6_when_19 : decode cX6_when 19 = .ok (.invokevirtual 73, 3) := by decide +kernel
theorem dX6_when_22 : decode cX6_when 22 = .ok (.ireturn, 1) := by decide +kernel
set_option maxRecDepth 20000 in
theorem ggX6_isSoon_X6_in : GoodIn wsX6_isSoon wsX6_in := goodIn_r _ [5] (by decide +kernel) (by decide +kernel)
set_option maxRecDepth 20000 in
theorem gX6_isSoon_X6_in : GoodIn wsX6_isSoon (va_wsS RX6 48 yX6_in wsX6_in) := goodIn_app (goodIn_of _ (by decide +kernel)) ggX6_isSoon_X6_in
theorem dX6_isSoon_0 : decode cX6_isSoon 0 = .ok (.iload_n 0, 1) := by decide +kernel
theorem dX6_isSoon_1 : decode cX6_isSoon 1 = .ok (.i2l, 1) := by decide +kernel
theorem dX6_isSoon_2 : decode cX6_isSoon 2 = .ok (.lconst 1, 1) := by decide +kernel
theorem dX6_isSoon_3 : decode cX6_isSoon 3 = .ok (.ldc2_w 162, 3) := by decide +kernel
theorem dX6_isSoon_6 : decode cX6_isSoon 6 = .ok (.invokestatic 48, 3) := by decide +kernel
theorem dX6_isSoon_9 : decode cX6_isSoon 9 = .ok (.ireturn, 1) := by decide +kernel
set_option maxRecDepth 20000 in
theorem ggX6_mostBy_X6_moodsIn : GoodIn wsX6_mostBy wsX6_moodsIn := goodIn_r _ [6, 7, 8, 9, 5, 10, 11, 1, 12, 13, 14, 15, 16, 17, 18, 19, 20, 21, 22, 23, 24, 25, 26, 27, 28, 29, 30, 31, 32, 33, 34, 35, 36, 37, 38, 39, 40, 41, 42, 43, 44, 45, 46, 47, 48, 49, 50, 51, 52, 53, 54, 55, 56, 57, 58, 59, 60, 61, 62, 63, 64, 65, 70, 71, 72, 73, 74, 75, 76, 77, 78, 79, 80, 81, 82, 83, 84, 85] (by decide +kernel) (by decide +kernel)
set_option maxRecDepth 20000 in
theorem gX6_mostBy_X6_moodsIn : GoodIn wsX6_mostBy (wsV RX6 155 RX6 yX6_moodsIn wsX6_moodsIn) := goodIn_app (goodIn_of _ (by decide +kernel)) ggX6_mostBy_X6_moodsIn
set_option maxRecDepth 20000 in
theorem ggX6_mostBy_X6_behind : GoodIn wsX6_mostBy wsX6_behind := goodIn_r _ [69, 1, 7, 8, 9, 5, 10, 11, 12, 13, 14, 15, 16, 17, 18, 19, 20, 21, 22, 23, 24, 25, 26, 27, 28, 29, 30, 31, 32, 33, 34, 35, 36, 37, 38, 39, 40, 41, 42, 43, 44, 45, 46, 47, 48, 49, 50, 51, 52, 53, 54, 55, 56, 57, 62, 63, 64, 65, 70, 71, 72, 73, 74, 75, 76, 77, 78, 79, 80, 81, 82, 83, 84, 85] (by decide +kernel) (by decide +kernel)
set_option maxRecDepth 20000 in
theorem gX6_mostBy_X6_behind : GoodIn wsX6_mostBy (wsV RX6 149 RX6 yX6_behind wsX6_behind) := goodIn_app (goodIn_of _ (by decide +kernel)) ggX6_mostBy_X6_behind
theorem dX6_mostBy_0 : decode cX6_mostBy 0 = .ok (.aload_n 0, 1) := by decide +kernel
theorem dX6_mostBy_1 : decode cX6_mostBy 1 = .ok (.getfield 7, 3) := by decide +kernel
theorem dX6_mostBy_4 : decode cX6_mostBy 4 = .ok (.iload_n 1, 1) := by decide +kernel
theorem dX6_mostBy_5 : decode cX6_mostBy 5 = .ok (.iaload, 1) := by decide +kernel
theorem dX6_mostBy_6 : decode cX6_mostBy 6 = .ok (.istore 5, 2) := by decide +kernel
theorem dX6_mostBy_8 : decode cX6_mostBy 8 = .ok (.iconst 0, 1) := by decide +kernel
theorem dX6_mostBy_9 : decode cX6_mostBy 9 = .ok (.istore 6, 2) := by decide +kernel
theorem dX6_mostBy_11 : decode cX6_mostBy 11 = .ok (.iconst (-1), 1) := by decide +kernel
theorem dX6_mostBy_12 : decode cX6_mostBy 12 = .ok (.istore 7, 2) := by decide +kernel
theorem dX6_mostBy_14 : decode cX6_mostBy 14 = .ok (.iconst 0, 1) := by decide +kernel
theorem dX6_mostBy_15 : decode cX6_mostBy 15 = .ok (.istore 8, 2) := by decide +kernel
theorem dX6_mostBy_17 : decode cX6_mostBy 17 = .ok (.iload 8, 2) := by decide +kernel
theorem dX6_mostBy_19 : decode cX6_mostBy 19 = .ok (.iload_n 2, 1) := by decide +kernel
theorem dX6_mostBy_20 : decode cX6_mostBy 20 = .ok (.if_icmp .gt 71, 3) := by decide +kernel
theorem dX6_mostBy_23 : decode cX6_mostBy 23 = .ok (.aload_n 0, 1) := by decide +kernel
theorem dX6_mostBy_24 : decode cX6_mostBy 24 = .ok (.getfield 7, 3) := by decide +kernel
theorem dX6_mostBy_27 : decode cX6_mostBy 27 = .ok (.iload_n 1, 1) := by decide +kernel
theorem dX6_mostBy_28 : decode cX6_mostBy 28 = .ok (.iload 8, 2) := by decide +kernel
theorem dX6_mostBy_30 : decode cX6_mostBy 30 = .ok (.iastore, 1) := by decide +kernel
theorem dX6_mostBy_31 : decode cX6_mostBy 31 = .ok (.iload_n 3, 1) := by decide +kernel
theorem dX6_mostBy_32 : decode cX6_mostBy 32 = .ok (.ifCond .ge 12, 3) := by decide +kernel
theorem dX6_mostBy_35 : decode cX6_mostBy 35 = .ok (.aload_n 0, 1) := by decide +kernel
theorem dX6_mostBy_36 : decode cX6_mostBy 36 = .ok (.iload 4, 2) := by decide +kernel
theorem dX6_mostBy_38 : decode cX6_mostBy 38 = .ok (.invokevirtual 155, 3) := by decide +kernel
theorem dX6_mostBy_41 : decode cX6_mostBy 41 = .ok (.goto 10, 3) := by decide +kernel
theorem dX6_mostBy_44 : decode cX6_mostBy 44 = .ok (.aload_n 0, 1) := by decide +kernel
theorem dX6_mostBy_45 : decode cX6_mostBy 45 = .ok (.iload_n 3, 1) := by decide +kernel
theorem dX6_mostBy_46 : decode cX6_mostBy 46 = .ok (.iload 4, 2) := by decide +kernel
theorem dX6_mostBy_48 : decode cX6_mostBy 48 = .ok (.invokevirtual 149, 3) := by decide +kernel
theorem dX6_mostBy_51 : decode cX6_mostBy 51 = .ok (.istore 9, 2) := by decide +kernel
theorem dX6_mostBy_53 : decode cX6_mostBy 53 = .ok (.iload 9, 2) := by decide +kernel
theorem dX6_mostBy_55 : decode cX6_mostBy 55 = .ok (.iload 7, 2) := by decide +kernel
theorem dX6_mostBy_57 : decode cX6_mostBy 57 = .ok (.if_icmp .le 8, 3) := by decide +kernel
theorem dX6_mostBy_60 : decode cX6_mostBy 60 = .ok (.iload 8, 2) := by decide +kernel
theorem dX6_mostBy_62 : decode cX6_mostBy 62 = .ok (.goto 5, 3) := by decide +kernel
theorem dX6_mostBy_65 : decode cX6_mostBy 65 = .ok (.iload 6, 2) := by decide +kernel
theorem dX6_mostBy_67 : decode cX6_mostBy 67 = .ok (.istore 6, 2) := by decide +kernel
theorem dX6_mostBy_69 : decode cX6_mostBy 69 = .ok (.iload 9, 2) := by decide +kernel
theorem dX6_mostBy_71 : decode cX6_mostBy 71 = .ok (.iload 7, 2) := by decide +kernel
theorem dX6_mostBy_73 : decode cX6_mostBy 73 = .ok (.if_icmp .le 8, 3) := by decide +kernel
theorem dX6_mostBy_76 : decode cX6_mostBy 76 = .ok (.iload 9, 2) := by decide +kernel
theorem dX6_mostBy_78 : decode cX6_mostBy 78 = .ok (.goto 5, 3) := by decide +kernel
theorem dX6_mostBy_81 : decode cX6_mostBy 81 = .ok (.iload 7, 2) := by decide +kernel
theorem dX6_mostBy_83 : decode cX6_mostBy 83 = .ok (.istore 7, 2) := by decide +kernel
theorem dX6_mostBy_85 : decode cX6_mostBy 85 = .ok (.iinc 8 1, 3) := by decide +kernel
theorem dX6_mostBy_88 : decode cX6_mostBy 88 = .ok (.goto (-71), 3) := by decide +kernel
theorem dX6_mostBy_91 : decode cX6_mostBy 91 = .ok (.aload_n 0, 1) := by decide +kernel
theorem dX6_mostBy_92 : decode cX6_mostBy 92 = .ok (.getfield 7, 3) := by decide +kernel
theorem dX6_mostBy_95 : decode cX6_mostBy 95 = .ok (.iload_n 1, 1) := by decide +kernel
theorem dX6_mostBy_96 : decode cX6_mostBy 96 = .ok (.iload 5, 2) := by decide +kernel
theorem dX6_mostBy_98 : decode cX6_mostBy 98 = .ok (.iastore, 1) := by decide +kernel
theorem dX6_mostBy_99 : decode cX6_mostBy 99 = .ok (.iload 6, 2) := by decide +kernel
theorem dX6_mostBy_101 : decode cX6_mostBy 101 = .ok (.ireturn, 1) := by decide +kernel
set_option maxRecDepth 20000 in
theorem ggX6_begin_X6_isSoon : GoodIn wsX6_begin wsX6_isSoon := goodIn_r _ [5, 6, 7, 8, 4, 9] (by decide +kernel) (by decide +kernel)
set_option maxRecDepth 20000 in
theorem gX6_begin_X6_isSoon : GoodIn wsX6_begin (va_wsS RX6 164 yX6_isSoon wsX6_isSoon) := goodIn_app (goodIn_of _ (by decide +kernel)) ggX6_begin_X6_isSoon
set_option maxRecDepth 20000 in
theorem ggX6_begin_X6_mostBy : GoodIn wsX6_begin wsX6_mostBy := goodIn_r _ [13, 14, 15, 16, 17, 4, 18, 19, 20, 21, 22, 23, 24, 25, 26, 27, 28, 29, 30, 31, 32, 33, 34, 35, 36, 37, 38, 39, 40, 41, 42, 43, 44, 45, 46, 47, 48, 49, 50, 51, 52, 53, 54, 55, 56, 57, 58, 59, 60, 61, 62, 63, 64, 65, 66, 67, 68, 69, 70, 71, 72, 73, 74, 75, 76, 77, 78, 79, 80, 81, 87, 88, 89, 90, 91, 92, 93, 94, 95, 96, 97, 98, 99, 100, 101, 102] (by decide +kernel) (by decide +kernel)
set_option maxRecDepth 20000 in
theorem gX6_begin_X6_mostBy : GoodIn wsX6_begin (wsV RX6 167 RX6 yX6_mostBy wsX6_mostBy) := goodIn_app (goodIn_of _ (by decide +kernel)) ggX6_begin_X6_mostBy
set_option maxRecDepth 20000 in
theorem ggX6_begin_X6_finds : GoodIn wsX6_begin wsX6_finds := goodIn_r _ [85, 86, 1, 87, 88, 89, 90, 91, 92, 93, 94, 95, 96, 97, 98, 99, 100, 101, 102] (by decide +kernel) (by decide +kernel)
set_option maxRecDepth 20000 in
theorem gX6_begin_X6_finds : GoodIn wsX6_begin (wsV RX6 73 RX6 yX6_finds wsX6_finds) := goodIn_app (goodIn_of _ (by decide +kernel)) ggX6_begin_X6_finds
theorem dX6_begin_0 : decode cX6_begin 0 = .ok (.iload_n 1, 1) := by decide +kernel
theorem dX6_begin_1 : decode cX6_begin 1 = .ok (.invokestatic 164, 3) := by decide +kernel
theorem dX6_begin_4 : decode cX6_begin 4 = .ok (.ifCond .eq 16, 3) := by decide +kernel
theorem dX6_begin_7 : decode cX6_begin 7 = .ok (.aload_n 0, 1) := by decide +kernel
theorem dX6_begin_8 : decode cX6_begin 8 = .ok (.iconst 1, 1) := by decide +kernel
theorem dX6_begin_9 : decode cX6_begin 9 = .ok (.bipush 7, 2) := by decide +kernel
theorem dX6_begin_11 : decode cX6_begin 11 = .ok (.bipush 6, 2) := by decide +kernel
theorem dX6_begin_13 : decode cX6_begin 13 = .ok (.iload_n 1, 1) := by decide +kernel
theorem dX6_begin_14 : decode cX6_begin 14 = .ok (.invokevirtual 167, 3) := by decide +kernel
theorem dX6_begin_17 : decode cX6_begin 17 = .ok (.goto 9, 3) := by decide +kernel
theorem dX6_begin_20 : decode cX6_begin 20 = .ok (.aload_n 0, 1) := by decide +kernel
theorem dX6_begin_21 : decode cX6_begin 21 = .ok (.ldc 45, 2) := by decide +kernel
theorem dX6_begin_23 : decode cX6_begin 23 = .ok (.invokevirtual 73, 3) := by decide +kernel
theorem dX6_begin_26 : decode cX6_begin 26 = .ok (.ireturn, 1) := by decide +kernel
set_option maxRecDepth 20000 in
theorem ggX6_way_X6_isSoon : GoodIn wsX6_way wsX6_isSoon := goodIn_r _ [5, 6, 7, 8, 4, 9] (by decide +kernel) (by decide +kernel)
set_option maxRecDepth 20000 in
theorem gX6_way_X6_isSoon : GoodIn wsX6_way (va_wsS RX6 164 yX6_isSoon wsX6_isSoon) := goodIn_app (goodIn_of _ (by decide +kernel)) ggX6_way_X6_isSoon
set_option maxRecDepth 20000 in
theorem ggX6_way_X6_mostBy : GoodIn wsX6_way wsX6_mostBy := goodIn_r _ [13, 14, 15, 16, 17, 4, 18, 19, 20, 21, 22, 23, 24, 25, 26, 27, 28, 29, 30, 31, 32, 33, 34, 35, 36, 37, 38, 39, 40, 41, 42, 43, 44, 45, 46, 47, 48, 49, 50, 51, 52, 53, 54, 55, 56, 57, 58, 59, 60, 61, 62, 63, 64, 65, 66, 67, 68, 69, 70, 71, 72, 73, 74, 75, 76, 77, 78, 79, 80, 81, 87, 88, 89, 90, 91, 92, 93, 94, 95, 96, 97, 98, 99, 100, 101, 102] (by decide +kernel) (by decide +kernel)
set_option maxRecDepth 20000 in
theorem gX6_way_X6_mostBy : GoodIn wsX6_way (wsV RX6 167 RX6 yX6_mostBy wsX6_mostBy) := goodIn_app (goodIn_of _ (by decide +kernel)) ggX6_way_X6_mostBy
set_option maxRecDepth 20000 in
theorem ggX6_way_X6_finds : GoodIn wsX6_way wsX6_finds := goodIn_r _ [85, 86, 1, 87, 88, 89, 90, 91, 92, 93, 94, 95, 96, 97, 98, 99, 100, 101, 102] (by decide +kernel) (by decide +kernel)
set_option maxRecDepth 20000 in
theorem gX6_way_X6_finds : GoodIn wsX6_way (wsV RX6 73 RX6 yX6_finds wsX6_finds) := goodIn_app (goodIn_of _ (by decide +kernel)) ggX6_way_X6_finds
theorem dX6_way_0 : decode cX6_way 0 = .ok (.iload_n 1, 1) := by decide +kernel
theorem dX6_way_1 : decode cX6_way 1 = .ok (.invokestatic 164, 3) := by decide +kernel
theorem dX6_way_4 : decode cX6_way 4 = .ok (.ifCond .eq 14, 3) := by decide +kernel
theorem dX6_way_7 : decode cX6_way 7 = .ok (.aload_n 0, 1) := by decide +kernel
theorem dX6_way_8 : decode cX6_way 8 = .ok (.iconst 2, 1) := by decide +kernel
theorem dX6_way_9 : decode cX6_way 9 = .ok (.iconst 1, 1) := by decide +kernel
theorem dX6_way_10 : decode cX6_way 10 = .ok (.iconst (-1), 1) := by decide +kernel
theorem dX6_way_11 : decode cX6_way 11 = .ok (.iload_n 1, 1) := by decide +kernel
theorem dX6_way_12 : decode cX6_way 12 = .ok (.invokevirtual 167, 3) := by decide +kernel
theorem dX6_way_15 : decode cX6_way 15 = .ok (.goto 9, 3) := by decide +kernel
theorem dX6_way_18 : decode cX6_way 18 = .ok (.aload_n 0, 1) := by decide +kernel
theorem dX6_way_19 : decode cX6_way 19 = .ok (.ldc 45, 2) := by decide +kernel
theorem dX6_way_21 : decode cX6_way 21 = .ok (.invokevirtual 73, 3) := by decide +kernel
theorem dX6_way_24 : decode cX6_way 24 = .ok (.ireturn, 1) := by decide +kernel
set_option maxRecDepth 20000 in
theorem ggX6_mood_X6_isHouse : GoodIn wsX6_mood wsX6_isHouse := goodIn_r _ [5, 6, 7, 8, 4, 9] (by decide +kernel) (by decide +kernel)
set_option maxRecDepth 20000 in
theorem gX6_mood_X6_isHouse : GoodIn wsX6_mood (va_wsS RX6 56 yX6_isHouse wsX6_isHouse) := goodIn_app (goodIn_of _ (by decide +kernel)) ggX6_mood_X6_isHouse
set_option maxRecDepth 20000 in
theorem ggX6_mood_X6_isSoon : GoodIn wsX6_mood wsX6_isSoon := goodIn_r _ [12, 13, 7, 8, 4, 9] (by decide +kernel) (by decide +kernel)
set_option maxRecDepth 20000 in
theorem gX6_mood_X6_isSoon : GoodIn wsX6_mood (va_wsS RX6 164 yX6_isSoon wsX6_isSoon) := goodIn_app (goodIn_of _ (by decide +kernel)) ggX6_mood_X6_isSoon
set_option maxRecDepth 20000 in
theorem ggX6_mood_X6_spotOf : GoodIn wsX6_mood wsX6_spotOf := goodIn_r _ [16] (by decide +kernel) (by decide +kernel)
set_option maxRecDepth 20000 in
theorem gX6_mood_X6_spotOf : GoodIn wsX6_mood (va_wsS RX6 41 yX6_spotOf wsX6_spotOf) := goodIn_app (goodIn_of _ (by decide +kernel)) ggX6_mood_X6_spotOf
set_option maxRecDepth 20000 in
theorem ggX6_mood_X6_mostBy : GoodIn wsX6_mood wsX6_mostBy := goodIn_r _ [20, 21, 22, 23, 24, 4, 25, 26, 27, 28, 29, 30, 31, 32, 33, 34, 35, 36, 37, 38, 39, 40, 41, 42, 43, 44, 45, 46, 47, 48, 49, 50, 51, 14, 15, 16, 52, 53, 54, 55, 56, 57, 58, 59, 60, 61, 62, 63, 64, 65, 66, 67, 68, 69, 70, 71, 72, 73, 74, 75, 76, 77, 78, 79, 80, 81, 82, 83, 84, 85, 91, 92, 93, 94, 95, 96, 97, 98, 99, 100, 101, 102, 103, 104, 105, 106] (by decide +kernel) (by decide +kernel)
set_option maxRecDepth 20000 in
theorem gX6_mood_X6_mostBy : GoodIn wsX6_mood (wsV RX6 167 RX6 yX6_mostBy wsX6_mostBy) := goodIn_app (goodIn_of _ (by decide +kernel)) ggX6_mood_X6_mostBy
set_option maxRecDepth 20000 in
theorem ggX6_mood_X6_finds : GoodIn wsX6_mood wsX6_finds := goodIn_r _ [89, 90, 1, 91, 92, 93, 94, 95, 96, 97, 98, 99, 100, 101, 102, 103, 104, 105, 106] (by decide +kernel) (by decide +kernel)
set_option maxRecDepth 20000 in
theorem gX6_mood_X6_finds : GoodIn wsX6_mood (wsV RX6 73 RX6 yX6_finds wsX6_finds) := goodIn_app (goodIn_of _ (by decide +kernel)) ggX6_mood_X6_finds
theorem dX6_mood_0 : decode cX6_mood 0 = .ok (.iload_n 1, 1) := by decide +kernel
theorem dX6_mood_1 : decode cX6_mood 1 = .ok (.invokestatic 56, 3) := by decide +kernel
theorem dX6_mood_4 : decode cX6_mood 4 = .ok (.ifCond .eq 27, 3) := by decide +kernel
theorem dX6_mood_7 : decode cX6_mood 7 = .ok (.iload_n 2, 1) := by decide +kernel
theorem dX6_mood_8 : decode cX6_mood 8 = .ok (.invokestatic 164, 3) := by decide +kernel
theorem dX6_mood_11 : decode cX6_mood 11 = .ok (.ifCond .eq 20, 3) := by decide +kernel
theorem dX6_mood_14 : decode cX6_mood 14 = .ok (.aload_n 0, 1) := by decide +kernel
theorem dX6_mood_15 : decode cX6_mood 15 = .ok (.iload_n 1, 1) := by decide +kernel
theorem dX6_mood_16 : decode cX6_mood 16 = .ok (.iconst 1, 1) := by decide +kernel
theorem dX6_mood_17 : decode cX6_mood 17 = .ok (.invokestatic 41, 3) := by decide +kernel
theorem dX6_mood_20 : decode cX6_mood 20 = .ok (.bipush 20, 2) := by decide +kernel
theorem dX6_mood_22 : decode cX6_mood 22 = .ok (.bipush 6, 2) := by decide +kernel
theorem dX6_mood_24 : decode cX6_mood 24 = .ok (.iload_n 2, 1) := by decide +kernel
theorem dX6_mood_25 : decode cX6_mood 25 = .ok (.invokevirtual 167, 3) := by decide +kernel
theorem dX6_mood_28 : decode cX6_mood 28 = .ok (.goto 9, 3) := by decide +kernel
theorem dX6_mood_31 : decode cX6_mood 31 = .ok (.aload_n 0, 1) := by decide +kernel
theorem dX6_mood_32 : decode cX6_mood 32 = .ok (.ldc 45, 2) := by decide +kernel
theorem dX6_mood_34 : decode cX6_mood 34 = .ok (.invokevirtual 73, 3) := by decide +kernel
theorem dX6_mood_37 : decode cX6_mood 37 = .ok (.ireturn, 1) := by decide +kernel
set_option maxRecDepth 20000 in
theorem ggX6_kind_X6_isHouse : GoodIn wsX6_kind wsX6_isHouse := goodIn_r _ [5, 6, 7, 8, 4, 9] (by decide +kernel) (by decide +kernel)
set_option maxRecDepth 20000 in
theorem gX6_kind_X6_isHouse : GoodIn wsX6_kind (va_wsS RX6 56 yX6_isHouse wsX6_isHouse) := goodIn_app (goodIn_of _ (by decide +kernel)) ggX6_kind_X6_isHouse
set_option maxRecDepth 20000 in
theorem ggX6_kind_X6_isSoon : GoodIn wsX6_kind wsX6_isSoon := goodIn_r _ [12, 13, 7, 8, 4, 9] (by decide +kernel) (by decide +kernel)
set_option maxRecDepth 20000 in
theorem gX6_kind_X6_isSoon : GoodIn wsX6_kind (va_wsS RX6 164 yX6_isSoon wsX6_isSoon) := goodIn_app (goodIn_of _ (by decide +kernel)) ggX6_kind_X6_isSoon
set_option maxRecDepth 20000 in
theorem ggX6_kind_X6_spotOf : GoodIn wsX6_kind wsX6_spotOf := goodIn_r _ [16] (by decide +kernel) (by decide +kernel)
set_option maxRecDepth 20000 in
theorem gX6_kind_X6_spotOf : GoodIn wsX6_kind (va_wsS RX6 41 yX6_spotOf wsX6_spotOf) := goodIn_app (goodIn_of _ (by decide +kernel)) ggX6_kind_X6_spotOf
set_option maxRecDepth 20000 in
theorem ggX6_kind_X6_mostBy : GoodIn wsX6_kind wsX6_mostBy := goodIn_r _ [20, 21, 22, 23, 24, 4, 25, 26, 27, 28, 29, 30, 31, 32, 33, 34, 35, 36, 37, 38, 39, 40, 41, 42, 43, 44, 45, 46, 47, 48, 49, 50, 51, 14, 15, 16, 52, 53, 54, 55, 56, 57, 58, 59, 60, 61, 62, 63, 64, 65, 66, 67, 68, 69, 70, 71, 72, 73, 74, 75, 76, 77, 78, 79, 80, 81, 82, 83, 84, 85, 91, 92, 93, 94, 95, 96, 97, 98, 99, 100, 101, 102, 103, 104, 105, 106] (by decide +kernel) (by decide +kernel)
set_option maxRecDepth 20000 in
theorem gX6_kind_X6_mostBy : GoodIn wsX6_kind (wsV RX6 167 RX6 yX6_mostBy wsX6_mostBy) := goodIn_app (goodIn_of _ (by decide +kernel)) ggX6_kind_X6_mostBy
set_option maxRecDepth 20000 in
theorem ggX6_kind_X6_finds : GoodIn wsX6_kind wsX6_finds := goodIn_r _ [89, 90, 1, 91, 92, 93, 94, 95, 96, 97, 98, 99, 100, 101, 102, 103, 104, 105, 106] (by decide +kernel) (by decide +kernel)
set_option maxRecDepth 20000 in
theorem gX6_kind_X6_finds : GoodIn wsX6_kind (wsV RX6 73 RX6 yX6_finds wsX6_finds) := goodIn_app (goodIn_of _ (by decide +kernel)) ggX6_kind_X6_finds
theorem dX6_kind_0 : decode cX6_kind 0 = .ok (.iload_n 1, 1) := by decide +kernel
theorem dX6_kind_1 : decode cX6_kind 1 = .ok (.invokestatic 56, 3) := by decide +kernel
theorem dX6_kind_4 : decode cX6_kind 4 = .ok (.ifCond .eq 29, 3) := by decide +kernel
theorem dX6_kind_7 : decode cX6_kind 7 = .ok (.iload_n 2, 1) := by decide +kernel
theorem dX6_kind_8 : decode cX6_kind 8 = .ok (.invokestatic 164, 3) := by decide +kernel
theorem dX6_kind_11 : decode cX6_kind 11 = .ok (.ifCond .eq 22, 3) := by decide +kernel
theorem dX6_kind_14 : decode cX6_kind 14 = .ok (.aload_n 0, 1) := by decide +kernel
theorem dX6_kind_15 : decode cX6_kind 15 = .ok (.iload_n 1, 1) := by decide +kernel
theorem dX6_kind_16 : decode cX6_kind 16 = .ok (.iconst 0, 1) := by decide +kernel
theorem dX6_kind_17 : decode cX6_kind 17 = .ok (.invokestatic 41, 3) := by decide +kernel
theorem dX6_kind_20 : decode cX6_kind 20 = .ok (.iconst 5, 1) := by decide +kernel
theorem dX6_kind_21 : decode cX6_kind 21 = .ok (.iload_n 1, 1) := by decide +kernel
theorem dX6_kind_22 : decode cX6_kind 22 = .ok (.iconst 3, 1) := by decide +kernel
theorem dX6_kind_23 : decode cX6_kind 23 = .ok (.invokestatic 41, 3) := by decide +kernel
theorem dX6_kind_26 : decode cX6_kind 26 = .ok (.iload_n 2, 1) := by decide +kernel
theorem dX6_kind_27 : decode cX6_kind 27 = .ok (.invokevirtual 167, 3) := by decide +kernel
theorem dX6_kind_30 : decode cX6_kind 30 = .ok (.goto 9, 3) := by decide +kernel
theorem dX6_kind_33 : decode cX6_kind 33 = .ok (.aload_n 0, 1) := by decide +kernel
theorem dX6_kind_34 : decode cX6_kind 34 = .ok (.ldc 45, 2) := by decide +kernel
theorem dX6_kind_36 : decode cX6_kind 36 = .ok (.invokevirtual 73, 3) := by decide +kernel
theorem dX6_kind_39 : decode cX6_kind 39 = .ok (.ireturn, 1) := by decide +kernel
set_option maxRecDepth 20000 in
theorem ggX6_enough_X6_isSoon : GoodIn wsX6_enough wsX6_isSoon := goodIn_r _ [7, 8, 9, 10, 6, 11] (by decide +kernel) (by decide +kernel)
set_option maxRecDepth 20000 in
theorem gX6_enough_X6_isSoon : GoodIn wsX6_enough (va_wsS RX6 164 yX6_isSoon wsX6_isSoon) := goodIn_app (goodIn_of _ (by decide +kernel)) ggX6_enough_X6_isSoon
set_option maxRecDepth 20000 in
theorem ggX6_enough_X6_finds : GoodIn wsX6_enough wsX6_finds := goodIn_r _ [15, 16, 1, 76, 77, 78, 79, 80, 81, 82, 83, 84, 85, 86, 87, 88, 89, 90, 91] (by decide +kernel) (by decide +kernel)
set_option maxRecDepth 20000 in
theorem gX6_enough_X6_finds : GoodIn wsX6_enough (wsV RX6 73 RX6 yX6_finds wsX6_finds) := goodIn_app (goodIn_of _ (by decide +kernel)) ggX6_enough_X6_finds
set_option maxRecDepth 20000 in
theorem ggX6_enough_X6_behind : GoodIn wsX6_enough wsX6_behind := goodIn_r _ [20, 2, 21, 22, 23, 6, 24, 25, 26, 27, 28, 29, 30, 31, 32, 33, 34, 35, 36, 37, 38, 39, 40, 41, 42, 43, 44, 45, 46, 47, 48, 49, 50, 51, 52, 53, 54, 55, 56, 57, 58, 59, 60, 61, 62, 63, 64, 65, 66, 67, 68, 69, 70, 71, 72, 73, 74, 75, 76, 77, 78, 79, 80, 81, 82, 83, 84, 85, 86, 87, 88, 89, 90, 91] (by decide +kernel) (by decide +kernel)
set_option maxRecDepth 20000 in
theorem gX6_enough_X6_behind : GoodIn wsX6_enough (wsV RX6 149 RX6 yX6_behind wsX6_behind) := goodIn_app (goodIn_of _ (by decide +kernel)) ggX6_enough_X6_behind
theorem dX6_enough_0 : decode cX6_enough 0 = .ok (.iload_n 1, 1) := by decide +kernel
theorem dX6_enough_1 : decode cX6_enough 1 = .ok (.invokestatic 164, 3) := by decide +kernel
theorem dX6_enough_4 : decode cX6_enough 4 = .ok (.ifCond .ne 10, 3) := by decide +kernel
theorem dX6_enough_7 : decode cX6_enough 7 = .ok (.aload_n 0, 1) := by decide +kernel
theorem dX6_enough_8 : decode cX6_enough 8 = .ok (.ldc 45, 2) := by decide +kernel
theorem dX6_enough_10 : decode cX6_enough 10 = .ok (.invokevirtual 73, 3) := by decide +kernel
theorem dX6_enough_13 : decode cX6_enough 13 = .ok (.ireturn, 1) := by decide +kernel
theorem dX6_enough_14 : decode cX6_enough 14 = .ok (.aload_n 0, 1) := by decide +kernel
theorem dX6_enough_15 : decode cX6_enough 15 = .ok (.getfield 7, 3) := by decide +kernel
theorem dX6_enough_18 : decode cX6_enough 18 = .ok (.iconst 3, 1) := by decide +kernel
theorem dX6_enough_19 : decode cX6_enough 19 = .ok (.iaload, 1) := by decide +kernel
theorem dX6_enough_20 : decode cX6_enough 20 = .ok (.istore_n 2, 1) := by decide +kernel
theorem dX6_enough_21 : decode cX6_enough 21 = .ok (.iconst (-1), 1) := by decide +kernel
theorem dX6_enough_22 : decode cX6_enough 22 = .ok (.istore_n 3, 1) := by decide +kernel
theorem dX6_enough_23 : decode cX6_enough 23 = .ok (.iconst 0, 1) := by decide +kernel
theorem dX6_enough_24 : decode cX6_enough 24 = .ok (.istore 4, 2) := by decide +kernel
theorem dX6_enough_26 : decode cX6_enough 26 = .ok (.iload 4, 2) := by decide +kernel
theorem dX6_enough_28 : decode cX6_enough 28 = .ok (.sipush 199, 3) := by decide +kernel
theorem dX6_enough_31 : decode cX6_enough 31 = .ok (.if_icmp .gt 37, 3) := by decide +kernel
theorem dX6_enough_34 : decode cX6_enough 34 = .ok (.iload_n 3, 1) := by decide +kernel
theorem dX6_enough_35 : decode cX6_enough 35 = .ok (.ifCond .ge 33, 3) := by decide +kernel
theorem dX6_enough_38 : decode cX6_enough 38 = .ok (.aload_n 0, 1) := by decide +kernel
theorem dX6_enough_39 : decode cX6_enough 39 = .ok (.getfield 7, 3) := by decide +kernel
theorem dX6_enough_42 : decode cX6_enough 42 = .ok (.iconst 3, 1) := by decide +kernel
theorem dX6_enough_43 : decode cX6_enough 43 = .ok (.iload 4, 2) := by decide +kernel
theorem dX6_enough_45 : decode cX6_enough 45 = .ok (.iastore, 1) := by decide +kernel
theorem dX6_enough_46 : decode cX6_enough 46 = .ok (.aload_n 0, 1) := by decide +kernel
theorem dX6_enough_47 : decode cX6_enough 47 = .ok (.iconst 3, 1) := by decide +kernel
theorem dX6_enough_48 : decode cX6_enough 48 = .ok (.iload_n 1, 1) := by decide +kernel
theorem dX6_enough_49 : decode cX6_enough 49 = .ok (.invokevirtual 149, 3) := by decide +kernel
theorem dX6_enough_52 : decode cX6_enough 52 = .ok (.ifCond .le 8, 3) := by decide +kernel
theorem dX6_enough_55 : decode cX6_enough 55 = .ok (.iload 4, 2) := by decide +kernel
theorem dX6_enough_57 : decode cX6_enough 57 = .ok (.goto 4, 3) := by decide +kernel
theorem dX6_enough_60 : decode cX6_enough 60 = .ok (.iconst (-1), 1) := by decide +kernel
theorem dX6_enough_61 : decode cX6_enough 61 = .ok (.istore_n 3, 1) := by decide +kernel
theorem dX6_enough_62 : decode cX6_enough 62 = .ok (.iinc 4 1, 3) := by decide +kernel
theorem dX6_enough_65 : decode cX6_enough 65 = .ok (.goto (-39), 3) := by decide +kernel
theorem dX6_enough_68 : decode cX6_enough 68 = .ok (.aload_n 0, 1) := by decide +kernel
theorem dX6_enough_69 : decode cX6_enough 69 = .ok (.getfield 7, 3) := by decide +kernel
theorem dX6_enough_72 : decode cX6_enough 72 = .ok (.iconst 3, 1) := by decide +kernel
theorem dX6_enough_73 : decode cX6_enough 73 = .ok (.iload_n 2, 1) := by decide +kernel
theorem dX6_enough_74 : decode cX6_enough 74 = .ok (.iastore, 1) := by decide +kernel
theorem dX6_enough_75 : decode cX6_enough 75 = .ok (.iload_n 3, 1) := by decide +kernel
theorem dX6_enough_76 : decode cX6_enough 76 = .ok (.ifCond .ge 12, 3) := by decide +kernel
theorem dX6_enough_79 : decode cX6_enough 79 = .ok (.aload_n 0, 1) := by decide +kernel
theorem dX6_enough_80 : decode cX6_enough 80 = .ok (.ldc 158, 2) := by decide +kernel
theorem dX6_enough_82 : decode cX6_enough 82 = .ok (.invokevirtual 73, 3) := by decide +kernel
theorem dX6_enough_85 : decode cX6_enough 85 = .ok (.goto 4, 3) := by decide +kernel
theorem dX6_enough_88 : decode cX6_enough 88 = .ok (.iload_n 3, 1) := by decide +kernel
theorem dX6_enough_89 : decode cX6_enough 89 = .ok (.ireturn, 1) := by decide +kernel
set_option maxRecDepth 20000 in
theorem ggX6_bears_X6_isSoon : GoodIn wsX6_bears wsX6_isSoon := goodIn_r _ [8, 9, 10, 11, 7, 12] (by decide +kernel) (by decide +kernel)
set_option maxRecDepth 20000 in
theorem gX6_bears_X6_isSoon : GoodIn wsX6_bears (va_wsS RX6 164 yX6_isSoon wsX6_isSoon) := goodIn_app (goodIn_of _ (by decide +kernel)) ggX6_bears_X6_isSoon
set_option maxRecDepth 20000 in
theorem ggX6_bears_X6_in : GoodIn wsX6_bears wsX6_in := goodIn_r _ [12] (by decide +kernel) (by decide +kernel)
set_option maxRecDepth 20000 in
theorem gX6_bears_X6_in : GoodIn wsX6_bears (va_wsS RX6 48 yX6_in wsX6_in) := goodIn_app (goodIn_of _ (by decide +kernel)) ggX6_bears_X6_in
set_option maxRecDepth 20000 in
theorem ggX6_bears_X6_finds : GoodIn wsX6_bears wsX6_finds := goodIn_r _ [16, 17, 2, 77, 78, 79, 80, 81, 82, 83, 84, 85, 86, 87, 88, 89, 90, 91, 92] (by decide +kernel) (by decide +kernel)
set_option maxRecDepth 20000 in
theorem gX6_bears_X6_finds : GoodIn wsX6_bears (wsV RX6 73 RX6 yX6_finds wsX6_finds) := goodIn_app (goodIn_of _ (by decide +kernel)) ggX6_bears_X6_finds
set_option maxRecDepth 20000 in
theorem ggX6_bears_X6_behind : GoodIn wsX6_bears wsX6_behind := goodIn_r _ [21, 3, 22, 23, 24, 7, 25, 26, 27, 28, 29, 30, 31, 32, 33, 34, 35, 36, 37, 38, 39, 40, 41, 42, 43, 44, 45, 46, 47, 48, 49, 50, 51, 52, 53, 54, 55, 56, 57, 58, 59, 60, 61, 62, 63, 64, 65, 66, 67, 68, 69, 70, 71, 72, 73, 74, 75, 76, 77, 78, 79, 80, 81, 82, 83, 84, 85, 86, 87, 88, 89, 90, 91, 92] (by decide +kernel) (by decide +kernel)
set_option maxRecDepth 20000 in
theorem gX6_bears_X6_behind : GoodIn wsX6_bears (wsV RX6 149 RX6 yX6_behind wsX6_behind) := goodIn_app (goodIn_of _ (by decide +kernel)) ggX6_bears_X6_behind
theorem dX6_bears_0 : decode cX6_bears 0 = .ok (.iload_n 1, 1) := by decide +kernel
theorem dX6_bears_1 : decode cX6_bears 1 = .ok (.invokestatic 164, 3) := by decide +kernel
theorem dX6_bears_4 : decode cX6_bears 4 = .ok (.ifCond .eq 15, 3) := by decide +kernel
theorem dX6_bears_7 : decode cX6_bears 7 = .ok (.iload_n 2, 1) := by decide +kernel
theorem dX6_bears_8 : decode cX6_bears 8 = .ok (.i2l, 1) := by decide +kernel
theorem dX6_bears_9 : decode cX6_bears 9 = .ok (.lconst 0, 1) := by decide +kernel
theorem dX6_bears_10 : decode cX6_bears 10 = .ok (.ldc2_w 171, 3) := by decide +kernel
theorem dX6_bears_13 : decode cX6_bears 13 = .ok (.invokestatic 48, 3) := by decide +kernel
theorem dX6_bears_16 : decode cX6_bears 16 = .ok (.ifCond .ne 10, 3) := by decide +kernel
theorem dX6_bears_19 : decode cX6_bears 19 = .ok (.aload_n 0, 1) := by decide +kernel
theorem dX6_bears_20 : decode cX6_bears 20 = .ok (.ldc 45, 2) := by decide +kernel
theorem dX6_bears_22 : decode cX6_bears 22 = .ok (.invokevirtual 73, 3) := by decide +kernel
theorem dX6_bears_25 : decode cX6_bears 25 = .ok (.ireturn, 1) := by decide +kernel
theorem dX6_bears_26 : decode cX6_bears 26 = .ok (.aload_n 0, 1) := by decide +kernel
theorem dX6_bears_27 : decode cX6_bears 27 = .ok (.getfield 7, 3) := by decide +kernel
theorem dX6_bears_30 : decode cX6_bears 30 = .ok (.iconst 5, 1) := by decide +kernel
theorem dX6_bears_31 : decode cX6_bears 31 = .ok (.iaload, 1) := by decide +kernel
theorem dX6_bears_32 : decode cX6_bears 32 = .ok (.istore_n 3, 1) := by decide +kernel
theorem dX6_bears_33 : decode cX6_bears 33 = .ok (.iconst (-1), 1) := by decide +kernel
theorem dX6_bears_34 : decode cX6_bears 34 = .ok (.istore 4, 2) := by decide +kernel
theorem dX6_bears_36 : decode cX6_bears 36 = .ok (.bipush 99, 2) := by decide +kernel
theorem dX6_bears_38 : decode cX6_bears 38 = .ok (.istore 5, 2) := by decide +kernel
theorem dX6_bears_40 : decode cX6_bears 40 = .ok (.iload 5, 2) := by decide +kernel
theorem dX6_bears_42 : decode cX6_bears 42 = .ok (.ifCond .lt 41, 3) := by decide +kernel
theorem dX6_bears_45 : decode cX6_bears 45 = .ok (.iload 4, 2) := by decide +kernel
theorem dX6_bears_47 : decode cX6_bears 47 = .ok (.ifCond .ge 36, 3) := by decide +kernel
theorem dX6_bears_50 : decode cX6_bears 50 = .ok (.aload_n 0, 1) := by decide +kernel
theorem dX6_bears_51 : decode cX6_bears 51 = .ok (.getfield 7, 3) := by decide +kernel
theorem dX6_bears_54 : decode cX6_bears 54 = .ok (.iconst 5, 1) := by decide +kernel
theorem dX6_bears_55 : decode cX6_bears 55 = .ok (.iload 5, 2) := by decide +kernel
theorem dX6_bears_57 : decode cX6_bears 57 = .ok (.iastore, 1) := by decide +kernel
theorem dX6_bears_58 : decode cX6_bears 58 = .ok (.aload_n 0, 1) := by decide +kernel
theorem dX6_bears_59 : decode cX6_bears 59 = .ok (.bipush 6, 2) := by decide +kernel
theorem dX6_bears_61 : decode cX6_bears 61 = .ok (.iload_n 1, 1) := by decide +kernel
theorem dX6_bears_62 : decode cX6_bears 62 = .ok (.invokevirtual 149, 3) := by decide +kernel
theorem dX6_bears_65 : decode cX6_bears 65 = .ok (.iload_n 2, 1) := by decide +kernel
theorem dX6_bears_66 : decode cX6_bears 66 = .ok (.if_icmp .lt 8, 3) := by decide +kernel
theorem dX6_bears_69 : decode cX6_bears 69 = .ok (.iload 5, 2) := by decide +kernel
theorem dX6_bears_71 : decode cX6_bears 71 = .ok (.goto 4, 3) := by decide +kernel
theorem dX6_bears_74 : decode cX6_bears 74 = .ok (.iconst (-1), 1) := by decide +kernel
theorem dX6_bears_75 : decode cX6_bears 75 = .ok (.istore 4, 2) := by decide +kernel
theorem dX6_bears_77 : decode cX6_bears 77 = .ok (.iinc 5 (-1), 3) := by decide +kernel
theorem dX6_bears_80 : decode cX6_bears 80 = .ok (.goto (-40), 3) := by decide +kernel
theorem dX6_bears_83 : decode cX6_bears 83 = .ok (.aload_n 0, 1) := by decide +kernel
theorem dX6_bears_84 : decode cX6_bears 84 = .ok (.getfield 7, 3) := by decide +kernel
theorem dX6_bears_87 : decode cX6_bears 87 = .ok (.iconst 5, 1) := by decide +kernel
theorem dX6_bears_88 : decode cX6_bears 88 = .ok (.iload_n 3, 1) := by decide +kernel
theorem dX6_bears_89 : decode cX6_bears 89 = .ok (.iastore, 1) := by decide +kernel
theorem dX6_bears_90 : decode cX6_bears 90 = .ok (.iload 4, 2) := by decide +kernel
theorem dX6_bears_92 : decode cX6_bears 92 = .ok (.ifCond .ge 12, 3) := by decide +kernel
theorem dX6_bears_95 : decode cX6_bears 95 = .ok (.aload_n 0, 1) := by decide +kernel
theorem dX6_bears_96 : decode cX6_bears 96 = .ok (.ldc 158, 2) := by decide +kernel
theorem dX6_bears_98 : decode cX6_bears 98 = .ok (.invokevirtual 73, 3) := by decide +kernel
theorem dX6_bears_101 : decode cX6_bears 101 = .ok (.goto 5, 3) := by decide +kernel
theorem dX6_bears_104 : decode cX6_bears 104 = .ok (.iload 4, 2) := by decide +kernel
theorem dX6_bears_106 : decode cX6_bears 106 = .ok (.ireturn, 1) := by decide +kernel
set_option maxRecDepth 20000 in
theorem ggX6_swap_X6_isSoon : GoodIn wsX6_swap wsX6_isSoon := goodIn_r _ [6, 7, 8, 9, 5, 10] (by decide +kernel) (by decide +kernel)
set_option maxRecDepth 20000 in
theorem gX6_swap_X6_isSoon : GoodIn wsX6_swap (va_wsS RX6 164 yX6_isSoon wsX6_isSoon) := goodIn_app (goodIn_of _ (by decide +kernel)) ggX6_swap_X6_isSoon
set_option maxRecDepth 20000 in
theorem ggX6_swap_X6_finds : GoodIn wsX6_swap wsX6_finds := goodIn_r _ [14, 15, 1, 88, 89, 90, 91, 92, 93, 94, 95, 96, 97, 98, 99, 100, 101, 102, 103] (by decide +kernel) (by decide +kernel)
set_option maxRecDepth 20000 in
theorem gX6_swap_X6_finds : GoodIn wsX6_swap (wsV RX6 73 RX6 yX6_finds wsX6_finds) := goodIn_app (goodIn_of _ (by decide +kernel)) ggX6_swap_X6_finds
set_option maxRecDepth 20000 in
theorem ggX6_swap_X6_moodsIn : GoodIn wsX6_swap wsX6_moodsIn := goodIn_r _ [19, 20, 21, 22, 5, 23, 24, 25, 26, 27, 28, 29, 30, 31, 32, 33, 34, 35, 36, 37, 38, 39, 40, 41, 42, 43, 44, 45, 46, 47, 48, 49, 50, 51, 52, 53, 54, 55, 56, 57, 58, 59, 60, 61, 62, 63, 64, 65, 66, 67, 68, 69, 70, 71, 72, 73, 74, 75, 76, 77, 78, 79, 88, 89, 90, 91, 92, 93, 94, 95, 96, 97, 98, 99, 100, 101, 102, 103] (by decide +kernel) (by decide +kernel)
set_option maxRecDepth 20000 in
theorem gX6_swap_X6_moodsIn : GoodIn wsX6_swap (wsV RX6 155 RX6 yX6_moodsIn wsX6_moodsIn) := goodIn_app (goodIn_of _ (by decide +kernel)) ggX6_swap_X6_moodsIn
set_option maxRecDepth 20000 in
theorem ggX6_swap_X6_moves : GoodIn wsX6_swap wsX6_moves := goodIn_r _ [83, 25, 47, 48, 5, 49, 43, 44, 45, 46, 84, 85, 86, 87, 88, 89, 90, 91, 92, 93, 94, 95, 96, 97, 98, 99, 100, 101, 102, 103] (by decide +kernel) (by decide +kernel)
set_option maxRecDepth 20000 in
theorem gX6_swap_X6_moves : GoodIn wsX6_swap (wsV RX6 120 RX6 yX6_moves wsX6_moves) := goodIn_app (goodIn_of _ (by decide +kernel)) ggX6_swap_X6_moves
theorem dX6_swap_0 : decode cX6_swap 0 = .ok (.iload_n 1, 1) := by decide +kernel
theorem dX6_swap_1 : decode cX6_swap 1 = .ok (.invokestatic 164, 3) := by decide +kernel
theorem dX6_swap_4 : decode cX6_swap 4 = .ok (.ifCond .ne 10, 3) := by decide +kernel
theorem dX6_swap_7 : decode cX6_swap 7 = .ok (.aload_n 0, 1) := by decide +kernel
theorem dX6_swap_8 : decode cX6_swap 8 = .ok (.ldc 45, 2) := by decide +kernel
theorem dX6_swap_10 : decode cX6_swap 10 = .ok (.invokevirtual 73, 3) := by decide +kernel
theorem dX6_swap_13 : decode cX6_swap 13 = .ok (.ireturn, 1) := by decide +kernel
theorem dX6_swap_14 : decode cX6_swap 14 = .ok (.iconst (-1), 1) := by decide +kernel
theorem dX6_swap_15 : decode cX6_swap 15 = .ok (.istore_n 2, 1) := by decide +kernel
theorem dX6_swap_16 : decode cX6_swap 16 = .ok (.aload_n 0, 1) := by decide +kernel
theorem dX6_swap_17 : decode cX6_swap 17 = .ok (.iload_n 1, 1) := by decide +kernel
theorem dX6_swap_18 : decode cX6_swap 18 = .ok (.invokevirtual 155, 3) := by decide +kernel
theorem dX6_swap_21 : decode cX6_swap 21 = .ok (.istore_n 3, 1) := by decide +kernel
theorem dX6_swap_22 : decode cX6_swap 22 = .ok (.iconst 0, 1) := by decide +kernel
theorem dX6_swap_23 : decode cX6_swap 23 = .ok (.istore 4, 2) := by decide +kernel
theorem dX6_swap_25 : decode cX6_swap 25 = .ok (.iload 4, 2) := by decide +kernel
theorem dX6_swap_27 : decode cX6_swap 27 = .ok (.bipush 8, 2) := by decide +kernel
theorem dX6_swap_29 : decode cX6_swap 29 = .ok (.if_icmp .ge 83, 3) := by decide +kernel
theorem dX6_swap_32 : decode cX6_swap 32 = .ok (.iload 4, 2) := by decide +kernel
theorem dX6_swap_34 : decode cX6_swap 34 = .ok (.iconst 1, 1) := by decide +kernel
theorem dX6_swap_35 : decode cX6_swap 35 = .ok (.iadd, 1) := by decide +kernel
theorem dX6_swap_36 : decode cX6_swap 36 = .ok (.istore 5, 2) := by decide +kernel
theorem dX6_swap_38 : decode cX6_swap 38 = .ok (.iload 5, 2) := by decide +kernel
theorem dX6_swap_40 : decode cX6_swap 40 = .ok (.bipush 8, 2) := by decide +kernel
theorem dX6_swap_42 : decode cX6_swap 42 = .ok (.if_icmp .ge 64, 3) := by decide +kernel
theorem dX6_swap_45 : decode cX6_swap 45 = .ok (.aload_n 0, 1) := by decide +kernel
theorem dX6_swap_46 : decode cX6_swap 46 = .ok (.iload 4, 2) := by decide +kernel
theorem dX6_swap_48 : decode cX6_swap 48 = .ok (.iload 5, 2) := by decide +kernel
theorem dX6_swap_50 : decode cX6_swap 50 = .ok (.invokevirtual 120, 3) := by decide +kernel
theorem dX6_swap_53 : decode cX6_swap 53 = .ok (.aload_n 0, 1) := by decide +kernel
theorem dX6_swap_54 : decode cX6_swap 54 = .ok (.iload_n 1, 1) := by decide +kernel
theorem dX6_swap_55 : decode cX6_swap 55 = .ok (.invokevirtual 155, 3) := by decide +kernel
theorem dX6_swap_58 : decode cX6_swap 58 = .ok (.istore 6, 2) := by decide +kernel
theorem dX6_swap_60 : decode cX6_swap 60 = .ok (.aload_n 0, 1) := by decide +kernel
theorem dX6_swap_61 : decode cX6_swap 61 = .ok (.iload 4, 2) := by decide +kernel
theorem dX6_swap_63 : decode cX6_swap 63 = .ok (.iload 5, 2) := by decide +kernel
theorem dX6_swap_65 : decode cX6_swap 65 = .ok (.invokevirtual 120, 3) := by decide +kernel
theorem dX6_swap_68 : decode cX6_swap 68 = .ok (.iload 6, 2) := by decide +kernel
theorem dX6_swap_70 : decode cX6_swap 70 = .ok (.iload_n 3, 1) := by decide +kernel
theorem dX6_swap_71 : decode cX6_swap 71 = .ok (.if_icmp .le 14, 3) := by decide +kernel
theorem dX6_swap_74 : decode cX6_swap 74 = .ok (.bipush 10, 2) := by decide +kernel
theorem dX6_swap_76 : decode cX6_swap 76 = .ok (.iload 4, 2) := by decide +kernel
theorem dX6_swap_78 : decode cX6_swap 78 = .ok (.imul, 1) := by decide +kernel
theorem dX6_swap_79 : decode cX6_swap 79 = .ok (.iload 5, 2) := by decide +kernel
theorem dX6_swap_81 : decode cX6_swap 81 = .ok (.iadd, 1) := by decide +kernel
theorem dX6_swap_82 : decode cX6_swap 82 = .ok (.goto 4, 3) := by decide +kernel
theorem dX6_swap_85 : decode cX6_swap 85 = .ok (.iload_n 2, 1) := by decide +kernel
theorem dX6_swap_86 : decode cX6_swap 86 = .ok (.istore_n 2, 1) := by decide +kernel
theorem dX6_swap_87 : decode cX6_swap 87 = .ok (.iload 6, 2) := by decide +kernel
theorem dX6_swap_89 : decode cX6_swap 89 = .ok (.iload_n 3, 1) := by decide +kernel
theorem dX6_swap_90 : decode cX6_swap 90 = .ok (.if_icmp .le 8, 3) := by decide +kernel
theorem dX6_swap_93 : decode cX6_swap 93 = .ok (.iload 6, 2) := by decide +kernel
theorem dX6_swap_95 : decode cX6_swap 95 = .ok (.goto 4, 3) := by decide +kernel
theorem dX6_swap_98 : decode cX6_swap 98 = .ok (.iload_n 3, 1) := by decide +kernel
theorem dX6_swap_99 : decode cX6_swap 99 = .ok (.istore_n 3, 1) := by decide +kernel
theorem dX6_swap_100 : decode cX6_swap 100 = .ok (.iinc 5 1, 3) := by decide +kernel
theorem dX6_swap_103 : decode cX6_swap 103 = .ok (.goto (-65), 3) := by decide +kernel
theorem dX6_swap_106 : decode cX6_swap 106 = .ok (.iinc 4 1, 3) := by decide +kernel
theorem dX6_swap_109 : decode cX6_swap 109 = .ok (.goto (-84), 3) := by decide +kernel
theorem dX6_swap_112 : decode cX6_swap 112 = .ok (.iload_n 2, 1) := by decide +kernel
theorem dX6_swap_113 : decode cX6_swap 113 = .ok (.ifCond .ge 12, 3) := by decide +kernel
theorem dX6_swap_116 : decode cX6_swap 116 = .ok (.aload_n 0, 1) := by decide +kernel
theorem dX6_swap_117 : decode cX6_swap 117 = .ok (.ldc 158, 2) := by decide +kernel
theorem dX6_swap_119 : decode cX6_swap 119 = .ok (.invokevirtual 73, 3) := by decide +kernel
theorem dX6_swap_122 : decode cX6_swap 122 = .ok (.goto 4, 3) := by decide +kernel
theorem dX6_swap_125 : decode cX6_swap 125 = .ok (.iload_n 2, 1) := by decide +kernel
theorem dX6_swap_126 : decode cX6_swap 126 = .ok (.ireturn, 1) := by decide +kernel
set_option maxRecDepth 20000 in
theorem ggX6_saddest_X6_isAhead : GoodIn wsX6_saddest wsX6_isAhead := goodIn_r _ [5, 6, 7, 8, 4, 9] (by decide +kernel) (by decide +kernel)
set_option maxRecDepth 20000 in
theorem gX6_saddest_X6_isAhead : GoodIn wsX6_saddest (va_wsS RX6 146 yX6_isAhead wsX6_isAhead) := goodIn_app (goodIn_of _ (by decide +kernel)) ggX6_saddest_X6_isAhead
set_option maxRecDepth 20000 in
theorem ggX6_saddest_X6_finds : GoodIn wsX6_saddest wsX6_finds := goodIn_r _ [13, 14, 1, 71, 72, 73, 74, 75, 76, 77, 78, 79, 80, 81, 82, 83, 84, 85, 86] (by decide +kernel) (by decide +kernel)
set_option maxRecDepth 20000 in
theorem gX6_saddest_X6_finds : GoodIn wsX6_saddest (wsV RX6 73 RX6 yX6_finds wsX6_finds) := goodIn_app (goodIn_of _ (by decide +kernel)) ggX6_saddest_X6_finds
set_option maxRecDepth 20000 in
theorem ggX6_saddest_X6_laysAside : GoodIn wsX6_saddest wsX6_laysAside := goodIn_r _ [18, 19, 20, 71, 72, 73, 74, 75, 76, 77, 78, 79, 80, 81, 82, 83, 84, 85, 86] (by decide +kernel) (by decide +kernel)
set_option maxRecDepth 20000 in
theorem gX6_saddest_X6_laysAside : GoodIn wsX6_saddest (wsV RX6 140 RX6 yX6_laysAside wsX6_laysAside) := goodIn_app (goodIn_of _ (by decide +kernel)) ggX6_saddest_X6_laysAside
set_option maxRecDepth 20000 in
theorem ggX6_saddest_X6_hoursGo : GoodIn wsX6_saddest wsX6_hoursGo := goodIn_r _ [24, 25, 26, 27, 4, 28, 20, 29, 30, 31, 32, 33, 34, 35, 36, 37, 38, 39, 40, 41, 42, 43, 44, 45, 46, 47, 48, 49, 50, 51, 52, 53, 54, 55, 56, 57, 58, 59, 60, 61, 62, 63, 64, 65, 66, 71, 72, 73, 74, 75, 76, 77, 78, 79, 80, 81, 82, 83, 84, 85, 86] (by decide +kernel) (by decide +kernel)
set_option maxRecDepth 20000 in
theorem gX6_saddest_X6_hoursGo : GoodIn wsX6_saddest (wsV RX6 135 RX6 yX6_hoursGo wsX6_hoursGo) := goodIn_app (goodIn_of _ (by decide +kernel)) ggX6_saddest_X6_hoursGo
set_option maxRecDepth 20000 in
theorem ggX6_saddest_X6_its : GoodIn wsX6_saddest wsX6_its := goodIn_r _ [41, 20, 42, 43, 4, 44, 71, 72, 73, 74, 75, 76, 77, 78, 79, 80, 81, 82, 83, 84, 85, 86] (by decide +kernel) (by decide +kernel)
set_option maxRecDepth 20000 in
theorem gX6_saddest_X6_its : GoodIn wsX6_saddest (wsV RX6 81 RX6 yX6_its wsX6_its) := goodIn_app (goodIn_of _ (by decide +kernel)) ggX6_saddest_X6_its
set_option maxRecDepth 20000 in
theorem ggX6_saddest_X6_takesBack : GoodIn wsX6_saddest wsX6_takesBack := goodIn_r _ [70, 20, 19, 71, 72, 73, 74, 75, 76, 77, 78, 79, 80, 81, 82, 83, 84, 85, 86] (by decide +kernel) (by decide +kernel)
set_option maxRecDepth 20000 in
theorem gX6_saddest_X6_takesBack : GoodIn wsX6_saddest (wsV RX6 143 RX6 yX6_takesBack wsX6_takesBack) := goodIn_app (goodIn_of _ (by decide +kernel)) ggX6_saddest_X6_takesBack
theorem dX6_saddest_0 : decode cX6_saddest 0 = .ok (.iload_n 1, 1) := by decide +kernel
theorem dX6_saddest_1 : decode cX6_saddest 1 = .ok (.invokestatic 146, 3) := by decide +kernel
theorem dX6_saddest_4 : decode cX6_saddest 4 = .ok (.ifCond .ne 10, 3) := by decide +kernel
theorem dX6_saddest_7 : decode cX6_saddest 7 = .ok (.aload_n 0, 1) := by decide +kernel
theorem dX6_saddest_8 : decode cX6_saddest 8 = .ok (.ldc 45, 2) := by decide +kernel
theorem dX6_saddest_10 : decode cX6_saddest 10 = .ok (.invokevirtual 73, 3) := by decide +kernel
theorem dX6_saddest_13 : decode cX6_saddest 13 = .ok (.ireturn, 1) := by decide +kernel
theorem dX6_saddest_14 : decode cX6_saddest 14 = .ok (.aload_n 0, 1) := by decide +kernel
theorem dX6_saddest_15 : decode cX6_saddest 15 = .ok (.invokevirtual 140, 3) := by decide +kernel
theorem dX6_saddest_18 : decode cX6_saddest 18 = .ok (.aload_n 0, 1) := by decide +kernel
theorem dX6_saddest_19 : decode cX6_saddest 19 = .ok (.iload_n 1, 1) := by decide +kernel
theorem dX6_saddest_20 : decode cX6_saddest 20 = .ok (.invokevirtual 135, 3) := by decide +kernel
theorem dX6_saddest_23 : decode cX6_saddest 23 = .ok (.iconst 0, 1) := by decide +kernel
theorem dX6_saddest_24 : decode cX6_saddest 24 = .ok (.istore_n 2, 1) := by decide +kernel
theorem dX6_saddest_25 : decode cX6_saddest 25 = .ok (.iconst 1, 1) := by decide +kernel
theorem dX6_saddest_26 : decode cX6_saddest 26 = .ok (.istore_n 3, 1) := by decide +kernel
theorem dX6_saddest_27 : decode cX6_saddest 27 = .ok (.iload_n 3, 1) := by decide +kernel
theorem dX6_saddest_28 : decode cX6_saddest 28 = .ok (.bipush 8, 2) := by decide +kernel
theorem dX6_saddest_30 : decode cX6_saddest 30 = .ok (.if_icmp .ge 30, 3) := by decide +kernel
theorem dX6_saddest_33 : decode cX6_saddest 33 = .ok (.aload_n 0, 1) := by decide +kernel
theorem dX6_saddest_34 : decode cX6_saddest 34 = .ok (.iload_n 3, 1) := by decide +kernel
theorem dX6_saddest_35 : decode cX6_saddest 35 = .ok (.iconst 1, 1) := by decide +kernel
theorem dX6_saddest_36 : decode cX6_saddest 36 = .ok (.invokevirtual 81, 3) := by decide +kernel
theorem dX6_saddest_39 : decode cX6_saddest 39 = .ok (.aload_n 0, 1) := by decide +kernel
theorem dX6_saddest_40 : decode cX6_saddest 40 = .ok (.iload_n 2, 1) := by decide +kernel
theorem dX6_saddest_41 : decode cX6_saddest 41 = .ok (.iconst 1, 1) := by decide +kernel
theorem dX6_saddest_42 : decode cX6_saddest 42 = .ok (.invokevirtual 81, 3) := by decide +kernel
theorem dX6_saddest_45 : decode cX6_saddest 45 = .ok (.if_icmp .ge 7, 3) := by decide +kernel
theorem dX6_saddest_48 : decode cX6_saddest 48 = .ok (.iload_n 3, 1) := by decide +kernel
theorem dX6_saddest_49 : decode cX6_saddest 49 = .ok (.goto 4, 3) := by decide +kernel
theorem dX6_saddest_52 : decode cX6_saddest 52 = .ok (.iload_n 2, 1) := by decide +kernel
theorem dX6_saddest_53 : decode cX6_saddest 53 = .ok (.istore_n 2, 1) := by decide +kernel
theorem dX6_saddest_54 : decode cX6_saddest 54 = .ok (.iinc 3 1, 3) := by decide +kernel
theorem dX6_saddest_57 : decode cX6_saddest 57 = .ok (.goto (-30), 3) := by decide +kernel
theorem dX6_saddest_60 : decode cX6_saddest 60 = .ok (.aload_n 0, 1) := by decide +kernel
theorem dX6_saddest_61 : decode cX6_saddest 61 = .ok (.iload_n 2, 1) := by decide +kernel
theorem dX6_saddest_62 : decode cX6_saddest 62 = .ok (.invokevirtual 143, 3) := by decide +kernel
theorem dX6_saddest_65 : decode cX6_saddest 65 = .ok (.ireturn, 1) := by decide +kernel
set_option maxRecDepth 20000 in
theorem ggX6_feed_X6_in : GoodIn wsX6_feed wsX6_in := goodIn_r _ [9] (by decide +kernel) (by decide +kernel)
set_option maxRecDepth 20000 in
theorem gX6_feed_X6_in : GoodIn wsX6_feed (va_wsS RX6 48 yX6_in wsX6_in) := goodIn_app (goodIn_of _ (by decide +kernel)) ggX6_feed_X6_in
set_option maxRecDepth 20000 in
theorem ggX6_feed_X6_finds : GoodIn wsX6_feed wsX6_finds := goodIn_r _ [13, 14, 2, 15, 16, 17, 18, 19, 20, 21, 22, 23, 24, 25, 26, 27, 28, 29, 30] (by decide +kernel) (by decide +kernel)
set_option maxRecDepth 20000 in
theorem gX6_feed_X6_finds : GoodIn wsX6_feed (wsV RX6 73 RX6 yX6_finds wsX6_finds) := goodIn_app (goodIn_of _ (by decide +kernel)) ggX6_feed_X6_finds
theorem dX6_feed_0 : decode cX6_feed 0 = .ok (.iload_n 2, 1) := by decide +kernel
theorem dX6_feed_1 : decode cX6_feed 1 = .ok (.i2l, 1) := by decide +kernel
theorem dX6_feed_2 : decode cX6_feed 2 = .ok (.lconst 1, 1) := by decide +kernel
theorem dX6_feed_3 : decode cX6_feed 3 = .ok (.ldc2_w 96, 3) := by decide +kernel
theorem dX6_feed_6 : decode cX6_feed 6 = .ok (.invokestatic 48, 3) := by decide +kernel
theorem dX6_feed_9 : decode cX6_feed 9 = .ok (.ifCond .ne 10, 3) := by decide +kernel
theorem dX6_feed_12 : decode cX6_feed 12 = .ok (.aload_n 0, 1) := by decide +kernel
theorem dX6_feed_13 : decode cX6_feed 13 = .ok (.ldc 45, 2) := by decide +kernel
theorem dX6_feed_15 : decode cX6_feed 15 = .ok (.invokevirtual 73, 3) := by decide +kernel
theorem dX6_feed_18 : decode cX6_feed 18 = .ok (.ireturn, 1) := by decide +kernel
theorem dX6_feed_19 : decode cX6_feed 19 = .ok (.aload_n 0, 1) := by decide +kernel
theorem dX6_feed_20 : decode cX6_feed 20 = .ok (.getfield 173, 3) := by decide +kernel
theorem dX6_feed_23 : decode cX6_feed 23 = .ok (.iload_n 2, 1) := by decide +kernel
theorem dX6_feed_24 : decode cX6_feed 24 = .ok (.iadd, 1) := by decide +kernel
theorem dX6_feed_25 : decode cX6_feed 25 = .ok (.bipush 120, 2) := by decide +kernel
theorem dX6_feed_27 : decode cX6_feed 27 = .ok (.if_icmp .le 10, 3) := by decide +kernel
theorem dX6_feed_30 : decode cX6_feed 30 = .ok (.aload_n 0, 1) := by decide +kernel
theorem dX6_feed_31 : decode cX6_feed 31 = .ok (.ldc 177, 2) := by decide +kernel
theorem dX6_feed_33 : decode cX6_feed 33 = .ok (.invokevirtual 73, 3) := by decide +kernel
theorem dX6_feed_36 : decode cX6_feed 36 = .ok (.ireturn, 1) := by decide +kernel
theorem dX6_feed_37 : decode cX6_feed 37 = .ok (.iload_n 2, 1) := by decide +kernel
theorem dX6_feed_38 : decode cX6_feed 38 = .ok (.iconst 1, 1) := by decide +kernel
theorem dX6_feed_39 : decode cX6_feed 39 = .ok (.isub, 1) := by decide +kernel
theorem dX6_feed_40 : decode cX6_feed 40 = .ok (.istore_n 3, 1) := by decide +kernel
theorem dX6_feed_41 : decode cX6_feed 41 = .ok (.iload_n 3, 1) := by decide +kernel
theorem dX6_feed_42 : decode cX6_feed 42 = .ok (.ifCond .lt 38, 3) := by decide +kernel
theorem dX6_feed_45 : decode cX6_feed 45 = .ok (.aload_n 0, 1) := by decide +kernel
theorem dX6_feed_46 : decode cX6_feed 46 = .ok (.getfield 25, 3) := by decide +kernel
theorem dX6_feed_49 : decode cX6_feed 49 = .ok (.aload_n 0, 1) := by decide +kernel
theorem dX6_feed_50 : decode cX6_feed 50 = .ok (.getfield 173, 3) := by decide +kernel
theorem dX6_feed_53 : decode cX6_feed 53 = .ok (.iload_n 1, 1) := by decide +kernel
theorem dX6_feed_54 : decode cX6_feed 54 = .ok (.bipush 8, 2) := by decide +kernel
theorem dX6_feed_56 : decode cX6_feed 56 = .ok (.iload_n 3, 1) := by decide +kernel
theorem dX6_feed_57 : decode cX6_feed 57 = .ok (.imul, 1) := by decide +kernel
theorem dX6_feed_58 : decode cX6_feed 58 = .ok (.ishr, 1) := by decide +kernel
theorem dX6_feed_59 : decode cX6_feed 59 = .ok (.sipush 255, 3) := by decide +kernel
theorem dX6_feed_62 : decode cX6_feed 62 = .ok (.iand, 1) := by decide +kernel
theorem dX6_feed_63 : decode cX6_feed 63 = .ok (.iastore, 1) := by decide +kernel
theorem dX6_feed_64 : decode cX6_feed 64 = .ok (.aload_n 0, 1) := by decide +kernel
theorem dX6_feed_65 : decode cX6_feed 65 = .ok (.dup, 1) := by decide +kernel
theorem dX6_feed_66 : decode cX6_feed 66 = .ok (.getfield 173, 3) := by decide +kernel
theorem dX6_feed_69 : decode cX6_feed 69 = .ok (.iconst 1, 1) := by decide +kernel
theorem dX6_feed_70 : decode cX6_feed 70 = .ok (.iadd, 1) := by decide +kernel
theorem dX6_feed_71 : decode cX6_feed 71 = .ok (.putfield 173, 3) := by decide +kernel
theorem dX6_feed_74 : decode cX6_feed 74 = .ok (.iinc 3 (-1), 3) := by decide +kernel
theorem dX6_feed_77 : decode cX6_feed 77 = .ok (.goto (-36), 3) := by decide +kernel
theorem dX6_feed_80 : decode cX6_feed 80 = .ok (.aload_n 0, 1) := by decide +kernel
theorem dX6_feed_81 : decode cX6_feed 81 = .ok (.getfield 173, 3) := by decide +kernel
theorem dX6_feed_84 : decode cX6_feed 84 = .ok (.ireturn, 1) := by decide +kernel
theorem dX6_wipe_0 : decode cX6_wipe 0 = .ok (.aload_n 0, 1) := by decide +kernel
theorem dX6_wipe_1 : decode cX6_wipe 1 = .ok (.getfield 173, 3) := by decide +kernel
theorem dX6_wipe_4 : decode cX6_wipe 4 = .ok (.istore_n 1, 1) := by decide +kernel
theorem dX6_wipe_5 : decode cX6_wipe 5 = .ok (.aload_n 0, 1) := by decide +kernel
theorem dX6_wipe_6 : decode cX6_wipe 6 = .ok (.iconst 0, 1) := by decide +kernel
theorem dX6_wipe_7 : decode cX6_wipe 7 = .ok (.putfield 173, 3) := by decide +kernel
theorem dX6_wipe_10 : decode cX6_wipe 10 = .ok (.iload_n 1, 1) := by decide +kernel
theorem dX6_wipe_11 : decode cX6_wipe 11 = .ok (.ireturn, 1) := by decide +kernel
theorem dX6_byteAt_0 : decode cX6_byteAt 0 = .ok (.iload_n 1, 1) := by decide +kernel
theorem dX6_byteAt_1 : decode cX6_byteAt 1 = .ok (.aload_n 0, 1) := by decide +kernel
theorem dX6_byteAt_2 : decode cX6_byteAt 2 = .ok (.getfield 173, 3) := by decide +kernel
theorem dX6_byteAt_5 : decode cX6_byteAt 5 = .ok (.if_icmp .ge 12, 3) := by decide +kernel
theorem dX6_byteAt_8 : decode cX6_byteAt 8 = .ok (.aload_n 0, 1) := by decide +kernel
theorem dX6_byteAt_9 : decode cX6_byteAt 9 = .ok (.getfield 25, 3) := by decide +kernel
theorem dX6_byteAt_12 : decode cX6_byteAt 12 = .ok (.iload_n 1, 1) := by decide +kernel
theorem dX6_byteAt_13 : decode cX6_byteAt 13 = .ok (.iaload, 1) := by decide +kernel
theorem dX6_byteAt_14 : decode cX6_byteAt 14 = .ok (.goto 4, 3) := by decide +kernel
theorem dX6_byteAt_17 : decode cX6_byteAt 17 = .ok (.iconst (-1), 1) := by decide +kernel
theorem dX6_byteAt_18 : decode cX6_byteAt 18 = .ok (.ireturn, 1) := by decide +kernel
set_option maxRecDepth 20000 in
theorem ggX6_isLetter_X6_in : GoodIn wsX6_isLetter wsX6_in := goodIn_r _ [6] (by decide +kernel) (by decide +kernel)
set_option maxRecDepth 20000 in
theorem gX6_isLetter_X6_in : GoodIn wsX6_isLetter (va_wsS RX6 48 yX6_in wsX6_in) := goodIn_app (goodIn_of _ (by decide +kernel)) ggX6_isLetter_X6_in
theorem dX6_isLetter_0 : decode cX6_isLetter 0 = .ok (.iload_n 0, 1) := by decide +kernel
theorem dX6_isLetter_1 : decode cX6_isLetter 1 = .ok (.i2l, 1) := by decide +kernel
theorem dX6_isLetter_2 : decode cX6_isLetter 2 = .ok (.ldc2_w 178, 3) := by decide +kernel
theorem dX6_isLetter_5 : decode cX6_isLetter 5 = .ok (.ldc2_w 180, 3) := by decide +kernel
theorem dX6_isLetter_8 : decode cX6_isLetter 8 = .ok (.invokestatic 48, 3) := by decide +kernel
theorem dX6_isLetter_11 : decode cX6_isLetter 11 = .ok (.ireturn, 1) := by decide +kernel
set_option maxRecDepth 20000 in
theorem ggX6_isDigit_X6_in : GoodIn wsX6_isDigit wsX6_in := goodIn_r _ [6] (by decide +kernel) (by decide +kernel)
set_option maxRecDepth 20000 in
theorem gX6_isDigit_X6_in : GoodIn wsX6_isDigit (va_wsS RX6 48 yX6_in wsX6_in) := goodIn_app (goodIn_of _ (by decide +kernel)) ggX6_isDigit_X6_in
theorem dX6_isDigit_0 : decode cX6_isDigit 0 = .ok (.iload_n 0, 1) := by decide +kernel
theorem dX6_isDigit_1 : decode cX6_isDigit 1 = .ok (.i2l, 1) := by decide +kernel
theorem dX6_isDigit_2 : decode cX6_isDigit 2 = .ok (.ldc2_w 182, 3) := by decide +kernel
theorem dX6_isDigit_5 : decode cX6_isDigit 5 = .ok (.ldc2_w 184, 3) := by decide +kernel
theorem dX6_isDigit_8 : decode cX6_isDigit 8 = .ok (.invokestatic 48, 3) := by decide +kernel
theorem dX6_isDigit_11 : decode cX6_isDigit 11 = .ok (.ireturn, 1) := by decide +kernel
set_option maxRecDepth 20000 in
theorem ggX6_token_X6_byteAt : GoodIn wsX6_token wsX6_byteAt := goodIn_r _ [8, 3, 9, 23, 24, 25, 26, 27, 28, 29, 30, 31, 32, 33, 34, 35, 36, 37, 38] (by decide +kernel) (by decide +kernel)
set_option maxRecDepth 20000 in
theorem gX6_token_X6_byteAt : GoodIn wsX6_token (wsV RX6 192 RX6 yX6_byteAt wsX6_byteAt) := goodIn_app (goodIn_of _ (by decide +kernel)) ggX6_token_X6_byteAt
set_option maxRecDepth 20000 in
theorem ggX6_token_X6_isLetter : GoodIn wsX6_token wsX6_isLetter := goodIn_r _ [12, 13, 14, 15, 16, 7, 17] (by decide +kernel) (by decide +kernel)
set_option maxRecDepth 20000 in
theorem gX6_token_X6_isLetter : GoodIn wsX6_token (va_wsS RX6 195 yX6_isLetter wsX6_isLetter) := goodIn_app (goodIn_of _ (by decide +kernel)) ggX6_token_X6_isLetter
set_option maxRecDepth 20000 in
theorem ggX6_token_X6_isDigit : GoodIn wsX6_token wsX6_isDigit := goodIn_r _ [20, 21, 22, 15, 16, 7, 17] (by decide +kernel) (by decide +kernel)
set_option maxRecDepth 20000 in
theorem gX6_token_X6_isDigit : GoodIn wsX6_token (va_wsS RX6 198 yX6_isDigit wsX6_isDigit) := goodIn_app (goodIn_of _ (by decide +kernel)) ggX6_token_X6_isDigit
theorem dX6_token_0 : decode cX6_token 0 = .ok (.aload_n 0, 1) := by decide +kernel
theorem dX6_token_1 : decode cX6_token 1 = .ok (.aload_n 0, 1) := by decide +kernel
theorem dX6_token_2 : decode cX6_token 2 = .ok (.getfield 186, 3) := by decide +kernel
theorem dX6_token_5 : decode cX6_token 5 = .ok (.putfield 189, 3) := by decide +kernel
theorem dX6_token_8 : decode cX6_token 8 = .ok (.aload_n 0, 1) := by decide +kernel
theorem dX6_token_9 : decode cX6_token 9 = .ok (.aload_n 0, 1) := by decide +kernel
theorem dX6_token_10 : decode cX6_token 10 = .ok (.getfield 189, 3) := by decide +kernel
theorem dX6_token_13 : decode cX6_token 13 = .ok (.invokevirtual 192, 3) := by decide +kernel
theorem dX6_token_16 : decode cX6_token 16 = .ok (.bipush 32, 2) := by decide +kernel
theorem dX6_token_18 : decode cX6_token 18 = .ok (.if_icmp .ne 16, 3) := by decide +kernel
theorem dX6_token_21 : decode cX6_token 21 = .ok (.aload_n 0, 1) := by decide +kernel
theorem dX6_token_22 : decode cX6_token 22 = .ok (.dup, 1) := by decide +kernel
theorem dX6_token_23 : decode cX6_token 23 = .ok (.getfield 189, 3) := by decide +kernel
theorem dX6_token_26 : decode cX6_token 26 = .ok (.iconst 1, 1) := by decide +kernel
theorem dX6_token_27 : decode cX6_token 27 = .ok (.iadd, 1) := by decide +kernel
theorem dX6_token_28 : decode cX6_token 28 = .ok (.putfield 189, 3) := by decide +kernel
theorem dX6_token_31 : decode cX6_token 31 = .ok (.goto (-23), 3) := by decide +kernel
theorem dX6_token_34 : decode cX6_token 34 = .ok (.aload_n 0, 1) := by decide +kernel
theorem dX6_token_35 : decode cX6_token 35 = .ok (.aload_n 0, 1) := by decide +kernel
theorem dX6_token_36 : decode cX6_token 36 = .ok (.getfield 189, 3) := by decide +kernel
theorem dX6_token_39 : decode cX6_token 39 = .ok (.invokevirtual 192, 3) := by decide +kernel
theorem dX6_token_42 : decode cX6_token 42 = .ok (.invokestatic 195, 3) := by decide +kernel
theorem dX6_token_45 : decode cX6_token 45 = .ok (.istore_n 1, 1) := by decide +kernel
theorem dX6_token_46 : decode cX6_token 46 = .ok (.aload_n 0, 1) := by decide +kernel
theorem dX6_token_47 : decode cX6_token 47 = .ok (.aload_n 0, 1) := by decide +kernel
theorem dX6_token_48 : decode cX6_token 48 = .ok (.getfield 189, 3) := by decide +kernel
theorem dX6_token_51 : decode cX6_token 51 = .ok (.invokevirtual 192, 3) := by decide +kernel
theorem dX6_token_54 : decode cX6_token 54 = .ok (.invokestatic 198, 3) := by decide +kernel
theorem dX6_token_57 : decode cX6_token 57 = .ok (.istore_n 2, 1) := by decide +kernel
theorem dX6_token_58 : decode cX6_token 58 = .ok (.aload_n 0, 1) := by decide +kernel
theorem dX6_token_59 : decode cX6_token 59 = .ok (.aload_n 0, 1) := by decide +kernel
theorem dX6_token_60 : decode cX6_token 60 = .ok (.getfield 189, 3) := by decide +kernel
theorem dX6_token_63 : decode cX6_token 63 = .ok (.aload_n 0, 1) := by decide +kernel
theorem dX6_token_64 : decode cX6_token 64 = .ok (.getfield 173, 3) := by decide +kernel
theorem dX6_token_67 : decode cX6_token 67 = .ok (.if_icmp .ge 12, 3) := by decide +kernel
theorem dX6_token_70 : decode cX6_token 70 = .ok (.aload_n 0, 1) := by decide +kernel
