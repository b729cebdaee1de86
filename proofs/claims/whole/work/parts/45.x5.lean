abbrev rmX5_isBits : Room := { frames := 0, cells := 0, slots := 0, locals := 0 }
theorem hYX5_isBits : gY yX5_isBits wsX5_isBits cX5_isBits 1 (some .boolean) 1 := ⟨⟨_, rfl⟩, by decide +kernel, by decide +kernel, by decide +kernel⟩
set_option maxRecDepth 100000 in
set_option maxHeartbeats 4000000 in
theorem c_X5_isBits (l : Launch) (E : gE) (b0 : Int32) : cti l yX5_isBits wsX5_isBits rmX5_isBits E [.int b0] [] (fun r w => r = isBt b0 ∧ w = []) := by
  refine mt_i (cc := cX5_isBits) (maxL := 1) (ret := some .boolean) (lv0 := [(0, .int b0)]) (by decide) rfl rfl (Nat.le_of_ble_eq_true rfl) (fun X cx gr hI => ?_)
  refine g_iload_n cx dX5_isBits_0 0 rfl ?_
  refine g_if_eq (tgt := 22) cx dX5_isBits_1 (by decide) (fun c_1 => ?_) (fun c_1 => ?_)
  · refine g_iconst (v := 1) cx dX5_isBits_22 (by decide) ?_
    refine g_goto (tgt := 27) cx dX5_isBits_23 (by decide) ?_
    exact g_zret cx gr rfl (Nat.zero_le _) (Nat.zero_le _) dX5_isBits_27 ⟨by first | rfl | (simp only [isBt, c_1, if_true, if_false]; done) | simp [isBt, c_1], rfl⟩
  · refine g_iload_n cx dX5_isBits_4 0 rfl ?_
    refine g_bipush (v := 8) cx dX5_isBits_5 (by decide) ?_
    refine g_icmp_eq (tgt := 22) cx dX5_isBits_7 (by decide) (fun c_2 => ?_) (fun c_2 => ?_)
    · refine g_iconst (v := 1) cx dX5_isBits_22 (by decide) ?_
      refine g_goto (tgt := 27) cx dX5_isBits_23 (by decide) ?_
      exact g_zret cx gr rfl (Nat.zero_le _) (Nat.zero_le _) dX5_isBits_27 ⟨by first | rfl | (simp only [isBt, c_1, c_2, if_true, if_false]; done) | simp [isBt, c_1, c_2], rfl⟩
    · refine g_iload_n cx dX5_isBits_10 0 rfl ?_
      refine g_bipush (v := 16) cx dX5_isBits_11 (by decide) ?_
      refine g_icmp_eq (tgt := 22) cx dX5_isBits_13 (by decide) (fun c_3 => ?_) (fun c_3 => ?_)
      · refine g_iconst (v := 1) cx dX5_isBits_22 (by decide) ?_
        refine g_goto (tgt := 27) cx dX5_isBits_23 (by decide) ?_
        exact g_zret cx gr rfl (Nat.zero_le _) (Nat.zero_le _) dX5_isBits_27 ⟨by first | rfl | (simp only [isBt, c_1, c_2, c_3, if_true, if_false]; done) | simp [isBt, c_1, c_2, c_3], rfl⟩
      · refine g_iload_n cx dX5_isBits_16 0 rfl ?_
        refine g_bipush (v := 64) cx dX5_isBits_17 (by decide) ?_
        refine g_icmp_ne (tgt := 26) cx dX5_isBits_19 (by decide) (fun c_4 => ?_) (fun c_4 => ?_)
        · refine g_iconst (v := 0) cx dX5_isBits_26 (by decide) ?_
          exact g_zret cx gr rfl (Nat.zero_le _) (Nat.zero_le _) dX5_isBits_27 ⟨by first | rfl | (simp only [isBt, c_1, c_2, c_3, c_4, if_true, if_false]; done) | simp [isBt, c_1, c_2, c_3, c_4], rfl⟩
        · refine g_iconst (v := 1) cx dX5_isBits_22 (by decide) ?_
          refine g_goto (tgt := 27) cx dX5_isBits_23 (by decide) ?_
          exact g_zret cx gr rfl (Nat.zero_le _) (Nat.zero_le _) dX5_isBits_27 ⟨by first | rfl | (simp only [isBt, c_1, c_2, c_3, c_4, if_true, if_false]; done) | simp [isBt, c_1, c_2, c_3, c_4], rfl⟩

abbrev rmX5_sheet : Room := { frames := 2, cells := 0, slots := 0, locals := 46 }
theorem hYX5_sheet : gY yX5_sheet wsX5_sheet cX5_sheet 4 (some .int) 3 := ⟨⟨_, rfl⟩, by decide +kernel, by decide +kernel, by decide +kernel⟩
theorem m1X5_sheet_c61 : Cond.constant RX5 61 (-1000000001) ∈ wsX5_sheet := by decide +kernel
theorem iwX5_sheet_X5 : ∀ w ∈ u_ws RX5 TX5 8, w ∈ wsX5_sheet := by decide +kernel
theorem lkX5_sheet_44 : Cond.fieldLink RX5 44 "MuffinBells" "sheets" "[LMuffinBells$Sheet;" ∈ wsX5_sheet := by decide +kernel
theorem iwX5_sheet_X1 : ∀ w ∈ u_ws RX1 TX1 3, w ∈ wsX5_sheet := by decide +kernel
theorem lkX5_sheet_205 : Cond.fieldLink RX5 205 "MuffinBells$Sheet" "size" "I" ∈ wsX5_sheet := by decide +kernel
theorem m1X5_sheet_c201 : Cond.constant RX5 201 (-1000000007) ∈ wsX5_sheet := by decide +kernel
set_option maxRecDepth 100000 in
set_option maxHeartbeats 4000000 in
theorem c_X5_sheet (l : Launch) (E : gE) (a : Nat → Nat) (c : Cor) (g : Gar) (s0 : Int32) (b0 : Int32) (n0 : Int32) (hok : cOk c) : cti l yX5_sheet wsX5_sheet rmX5_sheet E [.ref (a 0), .int s0, .int b0, .int n0] (xW E a c g) (fun r w => ∃ g', r = (sp_sheet c s0 b0 n0).1 ∧ w = xW E a (sp_sheet c s0 b0 n0).2 g') := by
  refine mt_i (cc := cX5_sheet) (maxL := 4) (ret := some .int) (lv0 := [(0, .ref (a 0)), (1, .int s0), (2, .int b0), (3, .int n0)]) (by decide) rfl rfl (Nat.le_of_ble_eq_true rfl) (fun X cx gr hI => ?_)
  refine g_iload_n cx dX5_sheet_0 1 rfl ?_
  refine g_SPi (rest := []) (As := [.int s0]) cx hYX5_isSheet gX5_sheet_X5_isSheet (c_X5_isSheet l E s0 ) ⟨Nat.le_of_ble_eq_true rfl, Nat.le_of_ble_eq_true rfl⟩ rfl rfl (Nat.le_of_ble_eq_true rfl) ⟨Nat.le_of_ble_eq_true rfl, Nat.le_of_ble_eq_true rfl⟩ dX5_sheet_1 ?_
  refine g_if_eq (tgt := 14) cx dX5_sheet_4 (by decide) (fun c_1 => ?_) (fun c_1 => ?_)
  · refine g_aload_n cx dX5_sheet_14 0 rfl ?_
    refine g_ldc cx m1X5_sheet_c61 dX5_sheet_15 ?_
    refine g_VSi (rest := []) (As := [.int (-1000000001)]) cx hYX5_finding gX5_sheet_X5_finding (c_X5_finding l E a c g (-1000000001) (by unfold vp_in; decide +kernel)) rfl rfl rfl ⟨Nat.le_of_ble_eq_true rfl, Nat.le_of_ble_eq_true rfl⟩ rfl rfl (Nat.le_of_ble_eq_true rfl) ⟨Nat.le_of_ble_eq_true rfl, Nat.le_of_ble_eq_true rfl⟩ dX5_sheet_17 (fun r w1 hp => ?_)
    obtain ⟨rfl, rfl⟩ := hp
    exact g_iret cx gr (Nat.zero_le _) (Nat.zero_le _) dX5_sheet_20 (xleaf (by first | (simp only [sp_sheet, tKind, tMood, tPen, tAte, tHour, tTray, tAt, tRang, tCrack, tTak, tWay, cB, c_1, if_true, if_false]; done) | (simp only [sp_sheet, tKind, tMood, tPen, tAte, tHour, tTray, tAt, tRang, tCrack, tTak, tWay, cB, c_1, if_true, if_false] <;> rfl) | (simp [sp_sheet, tKind, tMood, tPen, tAte, tHour, tTray, tAt, tRang, tCrack, tTak, tWay, cB, c_1] <;> rfl)))
  · refine g_iload_n cx dX5_sheet_7 2 rfl ?_
    refine g_SPi (rest := []) (As := [.int b0]) cx hYX5_isBits gX5_sheet_X5_isBits (c_X5_isBits l E b0 ) ⟨Nat.le_of_ble_eq_true rfl, Nat.le_of_ble_eq_true rfl⟩ rfl rfl (Nat.le_of_ble_eq_true rfl) ⟨Nat.le_of_ble_eq_true rfl, Nat.le_of_ble_eq_true rfl⟩ dX5_sheet_8 ?_
    refine g_if_ne (tgt := 21) cx dX5_sheet_11 (by decide) (fun c_2 => ?_) (fun c_2 => ?_)
    · refine g_iload_n cx dX5_sheet_21 3 rfl ?_
      refine g_if_ge (tgt := 32) cx dX5_sheet_22 (by decide) (fun c_3 => ?_) (fun c_3 => ?_)
      · refine g_iload_n cx dX5_sheet_32 3 rfl ?_
        refine g_bipush (v := 40) cx dX5_sheet_33 (by decide) ?_
        refine g_icmp_le (tgt := 45) cx dX5_sheet_35 (by decide) (fun c_4 => ?_) (fun c_4 => ?_)
        · obtain ⟨js0, hjs0, rfl⟩ := isW_nI 3 c_1 (by decide)
          rcases (show js0 = 0 ∨ js0 = 1 ∨ js0 = 2 ∨ js0 = 3 by omega) with rfl | rfl | rfl | rfl
          · refine g_aload_n cx dX5_sheet_45 0 rfl ?_
            refine g_get (C := RX5) (T := TX5) (N := 8) (v := .ref (a 19)) cx iwX5_sheet_X5 0 6 rfl rfl (by decide) lkX5_sheet_44 rfl dX5_sheet_46 ?_
            refine g_iload_n cx dX5_sheet_49 1 rfl ?_
            refine g_aald (v := a 20) cx 19 rfl rfl (vp_in_nI (by decide) (by decide)) rfl dX5_sheet_50 ?_
            refine g_iload_n cx dX5_sheet_51 2 rfl ?_
            refine g_iload_n cx dX5_sheet_52 3 rfl ?_
            refine g_Vv (rest := []) (As := [.int b0, .int n0]) (wr := ([0, 1, 2, 3, 4, 5, 6, 7, 8, 9, 10, 11, 12, 13, 14, 15, 16, 17, 18, 19, 22, 23, 24, 25, 26, 27, 28].filterMap (fun i => (xW E a c g)[i]?))) cx hYX1_lay gX5_sheet_X1_lay (c_X1_lay l E (fun i => a (20 + i)) (c.2.2.2.2.2.1 0, c.2.2.2.2.2.2.1 0, c.2.2.2.2.2.2.2.1 0) b0 n0 ) rfl rfl rfl [20, 21] [0, 1, 2, 3, 4, 5, 6, 7, 8, 9, 10, 11, 12, 13, 14, 15, 16, 17, 18, 19, 22, 23, 24, 25, 26, 27, 28] rfl rfl rfl rfl (by decide) ⟨Nat.le_of_ble_eq_true rfl, Nat.le_of_ble_eq_true rfl⟩ rfl rfl (Nat.le_of_ble_eq_true rfl) ⟨Nat.le_of_ble_eq_true rfl, Nat.le_of_ble_eq_true rfl⟩ dX5_sheet_53 (fun w1 hp => ?_)
            obtain rfl := hp
            refine g_ws (ws' := (xW E a (c.1, c.2.1, c.2.2.1, c.2.2.2.1, c.2.2.2.2.1, upd c.2.2.2.2.2.1 0 b0, upd c.2.2.2.2.2.2.1 0 (laySz b0 n0), upN c.2.2.2.2.2.2.2.1 0 (fun _ => 0), c.2.2.2.2.2.2.2.2) g)) [0, 1, 2, 3, 4, 5, 6, 7, 8, 9, 10, 11, 12, 13, 14, 15, 16, 17, 18, 19, 27, 28, 20, 21, 22, 23, 24, 25, 26] rfl rfl ?_
            refine g_aload_n cx dX5_sheet_56 0 rfl ?_
            refine g_get (C := RX5) (T := TX5) (N := 8) (v := .ref (a 19)) cx iwX5_sheet_X5 0 6 rfl rfl (by decide) lkX5_sheet_44 rfl dX5_sheet_57 ?_
            refine g_iload_n cx dX5_sheet_60 1 rfl ?_
            refine g_aald (v := a 20) cx 19 rfl rfl (vp_in_nI (by decide) (by decide)) rfl dX5_sheet_61 ?_
            refine g_get (C := RX1) (T := TX1) (N := 3) (v := .int ((upd c.2.2.2.2.2.2.1 0 (laySz b0 n0)) 0)) cx iwX5_sheet_X1 20 1 rfl rfl (by decide) lkX5_sheet_205 rfl dX5_sheet_62 ?_
            exact g_iret cx gr (Nat.zero_le _) (Nat.zero_le _) dX5_sheet_65 (xleaf (by rw [sp_sheet, if_neg c_1, if_neg c_2, if_pos c_3, if_pos c_4, show (nI 0).toNatClampNeg = 0 from rfl]; rfl))
          · refine g_aload_n cx dX5_sheet_45 0 rfl ?_
            refine g_get (C := RX5) (T := TX5) (N := 8) (v := .ref (a 19)) cx iwX5_sheet_X5 0 6 rfl rfl (by decide) lkX5_sheet_44 rfl dX5_sheet_46 ?_
            refine g_iload_n cx dX5_sheet_49 1 rfl ?_
            refine g_aald (v := a 22) cx 19 rfl rfl (vp_in_nI (by decide) (by decide)) rfl dX5_sheet_50 ?_
            refine g_iload_n cx dX5_sheet_51 2 rfl ?_
            refine g_iload_n cx dX5_sheet_52 3 rfl ?_
            refine g_Vv (rest := []) (As := [.int b0, .int n0]) (wr := ([0, 1, 2, 3, 4, 5, 6, 7, 8, 9, 10, 11, 12, 13, 14, 15, 16, 17, 18, 19, 20, 21, 24, 25, 26, 27, 28].filterMap (fun i => (xW E a c g)[i]?))) cx hYX1_lay gX5_sheet_X1_lay (c_X1_lay l E (fun i => a (22 + i)) (c.2.2.2.2.2.1 1, c.2.2.2.2.2.2.1 1, c.2.2.2.2.2.2.2.1 1) b0 n0 ) rfl rfl rfl [22, 23] [0, 1, 2, 3, 4, 5, 6, 7, 8, 9, 10, 11, 12, 13, 14, 15, 16, 17, 18, 19, 20, 21, 24, 25, 26, 27, 28] rfl rfl rfl rfl (by decide) ⟨Nat.le_of_ble_eq_true rfl, Nat.le_of_ble_eq_true rfl⟩ rfl rfl (Nat.le_of_ble_eq_true rfl) ⟨Nat.le_of_ble_eq_true rfl, Nat.le_of_ble_eq_true rfl⟩ dX5_sheet_53 (fun w1 hp => ?_)
            obtain rfl := hp
            refine g_ws (ws' := (xW E a (c.1, c.2.1, c.2.2.1, c.2.2.2.1, c.2.2.2.2.1, upd c.2.2.2.2.2.1 1 b0, upd c.2.2.2.2.2.2.1 1 (laySz b0 n0), upN c.2.2.2.2.2.2.2.1 1 (fun _ => 0), c.2.2.2.2.2.2.2.2) g)) [0, 1, 2, 3, 4, 5, 6, 7, 8, 9, 10, 11, 12, 13, 14, 15, 16, 17, 18, 19, 20, 21, 27, 28, 22, 23, 24, 25, 26] rfl rfl ?_
            refine g_aload_n cx dX5_sheet_56 0 rfl ?_
            refine g_get (C := RX5) (T := TX5) (N := 8) (v := .ref (a 19)) cx iwX5_sheet_X5 0 6 rfl rfl (by decide) lkX5_sheet_44 rfl dX5_sheet_57 ?_
            refine g_iload_n cx dX5_sheet_60 1 rfl ?_
            refine g_aald (v := a 22) cx 19 rfl rfl (vp_in_nI (by decide) (by decide)) rfl dX5_sheet_61 ?_
            refine g_get (C := RX1) (T := TX1) (N := 3) (v := .int ((upd c.2.2.2.2.2.2.1 1 (laySz b0 n0)) 1)) cx iwX5_sheet_X1 22 1 rfl rfl (by decide) lkX5_sheet_205 rfl dX5_sheet_62 ?_
            exact g_iret cx gr (Nat.zero_le _) (Nat.zero_le _) dX5_sheet_65 (xleaf (by rw [sp_sheet, if_neg c_1, if_neg c_2, if_pos c_3, if_pos c_4, show (nI 1).toNatClampNeg = 1 from rfl]; rfl))
          · refine g_aload_n cx dX5_sheet_45 0 rfl ?_
            refine g_get (C := RX5) (T := TX5) (N := 8) (v := .ref (a 19)) cx iwX5_sheet_X5 0 6 rfl rfl (by decide) lkX5_sheet_44 rfl dX5_sheet_46 ?_
            refine g_iload_n cx dX5_sheet_49 1 rfl ?_
            refine g_aald (v := a 24) cx 19 rfl rfl (vp_in_nI (by decide) (by decide)) rfl dX5_sheet_50 ?_
            refine g_iload_n cx dX5_sheet_51 2 rfl ?_
            refine g_iload_n cx dX5_sheet_52 3 rfl ?_
            refine g_Vv (rest := []) (As := [.int b0, .int n0]) (wr := ([0, 1, 2, 3, 4, 5, 6, 7, 8, 9, 10, 11, 12, 13, 14, 15, 16, 17, 18, 19, 20, 21, 22, 23, 26, 27, 28].filterMap (fun i => (xW E a c g)[i]?))) cx hYX1_lay gX5_sheet_X1_lay (c_X1_lay l E (fun i => a (24 + i)) (c.2.2.2.2.2.1 2, c.2.2.2.2.2.2.1 2, c.2.2.2.2.2.2.2.1 2) b0 n0 ) rfl rfl rfl [24, 25] [0, 1, 2, 3, 4, 5, 6, 7, 8, 9, 10, 11, 12, 13, 14, 15, 16, 17, 18, 19, 20, 21, 22, 23, 26, 27, 28] rfl rfl rfl rfl (by decide) ⟨Nat.le_of_ble_eq_true rfl, Nat.le_of_ble_eq_true rfl⟩ rfl rfl (Nat.le_of_ble_eq_true rfl) ⟨Nat.le_of_ble_eq_true rfl, Nat.le_of_ble_eq_true rfl⟩ dX5_sheet_53 (fun w1 hp => ?_)
            obtain rfl := hp
            refine g_ws (ws' := (xW E a (c.1, c.2.1, c.2.2.1, c.2.2.2.1, c.2.2.2.2.1, upd c.2.2.2.2.2.1 2 b0, upd c.2.2.2.2.2.2.1 2 (laySz b0 n0), upN c.2.2.2.2.2.2.2.1 2 (fun _ => 0), c.2.2.2.2.2.2.2.2) g)) [0, 1, 2, 3, 4, 5, 6, 7, 8, 9, 10, 11, 12, 13, 14, 15, 16, 17, 18, 19, 20, 21, 22, 23, 27, 28, 24, 25, 26] rfl rfl ?_
            refine g_aload_n cx dX5_sheet_56 0 rfl ?_
            refine g_get (C := RX5) (T := TX5) (N := 8) (v := .ref (a 19)) cx iwX5_sheet_X5 0 6 rfl rfl (by decide) lkX5_sheet_44 rfl dX5_sheet_57 ?_
            refine g_iload_n cx dX5_sheet_60 1 rfl ?_
            refine g_aald (v := a 24) cx 19 rfl rfl (vp_in_nI (by decide) (by decide)) rfl dX5_sheet_61 ?_
            refine g_get (C := RX1) (T := TX1) (N := 3) (v := .int ((upd c.2.2.2.2.2.2.1 2 (laySz b0 n0)) 2)) cx iwX5_sheet_X1 24 1 rfl rfl (by decide) lkX5_sheet_205 rfl dX5_sheet_62 ?_
            exact g_iret cx gr (Nat.zero_le _) (Nat.zero_le _) dX5_sheet_65 (xleaf (by rw [sp_sheet, if_neg c_1, if_neg c_2, if_pos c_3, if_pos c_4, show (nI 2).toNatClampNeg = 2 from rfl]; rfl))
          · refine g_aload_n cx dX5_sheet_45 0 rfl ?_
            refine g_get (C := RX5) (T := TX5) (N := 8) (v := .ref (a 19)) cx iwX5_sheet_X5 0 6 rfl rfl (by decide) lkX5_sheet_44 rfl dX5_sheet_46 ?_
            refine g_iload_n cx dX5_sheet_49 1 rfl ?_
            refine g_aald (v := a 26) cx 19 rfl rfl (vp_in_nI (by decide) (by decide)) rfl dX5_sheet_50 ?_
            refine g_iload_n cx dX5_sheet_51 2 rfl ?_
            refine g_iload_n cx dX5_sheet_52 3 rfl ?_
            refine g_Vv (rest := []) (As := [.int b0, .int n0]) (wr := ([0, 1, 2, 3, 4, 5, 6, 7, 8, 9, 10, 11, 12, 13, 14, 15, 16, 17, 18, 19, 20, 21, 22, 23, 24, 25, 28].filterMap (fun i => (xW E a c g)[i]?))) cx hYX1_lay gX5_sheet_X1_lay (c_X1_lay l E (fun i => a (26 + i)) (c.2.2.2.2.2.1 3, c.2.2.2.2.2.2.1 3, c.2.2.2.2.2.2.2.1 3) b0 n0 ) rfl rfl rfl [26, 27] [0, 1, 2, 3, 4, 5, 6, 7, 8, 9, 10, 11, 12, 13, 14, 15, 16, 17, 18, 19, 20, 21, 22, 23, 24, 25, 28] rfl rfl rfl rfl (by decide) ⟨Nat.le_of_ble_eq_true rfl, Nat.le_of_ble_eq_true rfl⟩ rfl rfl (Nat.le_of_ble_eq_true rfl) ⟨Nat.le_of_ble_eq_true rfl, Nat.le_of_ble_eq_true rfl⟩ dX5_sheet_53 (fun w1 hp => ?_)
            obtain rfl := hp
            refine g_ws (ws' := (xW E a (c.1, c.2.1, c.2.2.1, c.2.2.2.1, c.2.2.2.2.1, upd c.2.2.2.2.2.1 3 b0, upd c.2.2.2.2.2.2.1 3 (laySz b0 n0), upN c.2.2.2.2.2.2.2.1 3 (fun _ => 0), c.2.2.2.2.2.2.2.2) g)) [0, 1, 2, 3, 4, 5, 6, 7, 8, 9, 10, 11, 12, 13, 14, 15, 16, 17, 18, 19, 20, 21, 22, 23, 24, 25, 27, 28, 26] rfl rfl ?_
            refine g_aload_n cx dX5_sheet_56 0 rfl ?_
            refine g_get (C := RX5) (T := TX5) (N := 8) (v := .ref (a 19)) cx iwX5_sheet_X5 0 6 rfl rfl (by decide) lkX5_sheet_44 rfl dX5_sheet_57 ?_
            refine g_iload_n cx dX5_sheet_60 1 rfl ?_
            refine g_aald (v := a 26) cx 19 rfl rfl (vp_in_nI (by decide) (by decide)) rfl dX5_sheet_61 ?_
            refine g_get (C := RX1) (T := TX1) (N := 3) (v := .int ((upd c.2.2.2.2.2.2.1 3 (laySz b0 n0)) 3)) cx iwX5_sheet_X1 26 1 rfl rfl (by decide) lkX5_sheet_205 rfl dX5_sheet_62 ?_
            exact g_iret cx gr (Nat.zero_le _) (Nat.zero_le _) dX5_sheet_65 (xleaf (by rw [sp_sheet, if_neg c_1, if_neg c_2, if_pos c_3, if_pos c_4, show (nI 3).toNatClampNeg = 3 from rfl]; rfl))
        · refine g_aload_n cx dX5_sheet_38 0 rfl ?_
          refine g_ldc cx m1X5_sheet_c61 dX5_sheet_39 ?_
          refine g_VSi (rest := []) (As := [.int (-1000000001)]) cx hYX5_finding gX5_sheet_X5_finding (c_X5_finding l E a c g (-1000000001) (by unfold vp_in; decide +kernel)) rfl rfl rfl ⟨Nat.le_of_ble_eq_true rfl, Nat.le_of_ble_eq_true rfl⟩ rfl rfl (Nat.le_of_ble_eq_true rfl) ⟨Nat.le_of_ble_eq_true rfl, Nat.le_of_ble_eq_true rfl⟩ dX5_sheet_41 (fun r w1 hp => ?_)
          obtain ⟨rfl, rfl⟩ := hp
          exact g_iret cx gr (Nat.zero_le _) (Nat.zero_le _) dX5_sheet_44 (xleaf (by first | (simp only [sp_sheet, tKind, tMood, tPen, tAte, tHour, tTray, tAt, tRang, tCrack, tTak, tWay, cB, c_1, c_2, c_3, c_4, if_true, if_false]; done) | (simp only [sp_sheet, tKind, tMood, tPen, tAte, tHour, tTray, tAt, tRang, tCrack, tTak, tWay, cB, c_1, c_2, c_3, c_4, if_true, if_false] <;> rfl) | (simp [sp_sheet, tKind, tMood, tPen, tAte, tHour, tTray, tAt, tRang, tCrack, tTak, tWay, cB, c_1, c_2, c_3, c_4] <;> rfl)))
      · refine g_aload_n cx dX5_sheet_25 0 rfl ?_
        refine g_ldc cx m1X5_sheet_c201 dX5_sheet_26 ?_
        refine g_VSi (rest := []) (As := [.int (-1000000007)]) cx hYX5_finding gX5_sheet_X5_finding (c_X5_finding l E a c g (-1000000007) (by unfold vp_in; decide +kernel)) rfl rfl rfl ⟨Nat.le_of_ble_eq_true rfl, Nat.le_of_ble_eq_true rfl⟩ rfl rfl (Nat.le_of_ble_eq_true rfl) ⟨Nat.le_of_ble_eq_true rfl, Nat.le_of_ble_eq_true rfl⟩ dX5_sheet_28 (fun r w1 hp => ?_)
        obtain ⟨rfl, rfl⟩ := hp
        exact g_iret cx gr (Nat.zero_le _) (Nat.zero_le _) dX5_sheet_31 (xleaf (by first | (simp only [sp_sheet, tKind, tMood, tPen, tAte, tHour, tTray, tAt, tRang, tCrack, tTak, tWay, cB, c_1, c_2, c_3, if_true, if_false]; done) | (simp only [sp_sheet, tKind, tMood, tPen, tAte, tHour, tTray, tAt, tRang, tCrack, tTak, tWay, cB, c_1, c_2, c_3, if_true, if_false] <;> rfl) | (simp [sp_sheet, tKind, tMood, tPen, tAte, tHour, tTray, tAt, tRang, tCrack, tTak, tWay, cB, c_1, c_2, c_3] <;> rfl)))
    · refine g_aload_n cx dX5_sheet_14 0 rfl ?_
      refine g_ldc cx m1X5_sheet_c61 dX5_sheet_15 ?_
      refine g_VSi (rest := []) (As := [.int (-1000000001)]) cx hYX5_finding gX5_sheet_X5_finding (c_X5_finding l E a c g (-1000000001) (by unfold vp_in; decide +kernel)) rfl rfl rfl ⟨Nat.le_of_ble_eq_true rfl, Nat.le_of_ble_eq_true rfl⟩ rfl rfl (Nat.le_of_ble_eq_true rfl) ⟨Nat.le_of_ble_eq_true rfl, Nat.le_of_ble_eq_true rfl⟩ dX5_sheet_17 (fun r w1 hp => ?_)
      obtain ⟨rfl, rfl⟩ := hp
      exact g_iret cx gr (Nat.zero_le _) (Nat.zero_le _) dX5_sheet_20 (xleaf (by first | (simp only [sp_sheet, tKind, tMood, tPen, tAte, tHour, tTray, tAt, tRang, tCrack, tTak, tWay, cB, c_1, c_2, if_true, if_false]; done) | (simp only [sp_sheet, tKind, tMood, tPen, tAte, tHour, tTray, tAt, tRang, tCrack, tTak, tWay, cB, c_1, c_2, if_true, if_false] <;> rfl) | (simp [sp_sheet, tKind, tMood, tPen, tAte, tHour, tTray, tAt, tRang, tCrack, tTak, tWay, cB, c_1, c_2] <;> rfl)))
