abbrev rmX6_hours : Room := { frames := 7, cells := 0, slots := 0, locals := 158 }
theorem hYX6_hours : gY yX6_hours wsX6_hours cX6_hours 2 (some .int) 1 := ⟨⟨_, rfl⟩, by decide +kernel, by decide +kernel, by decide +kernel⟩
theorem m1X6_hours_c132 : Cond.constantLong RX6 132 (100) ∈ wsX6_hours := by decide +kernel
theorem iwX6_hours_X6 : ∀ w ∈ u_ws RX6 TX6 16, w ∈ wsX6_hours := by decide +kernel
theorem lkX6_hours_7 : Cond.fieldLink RX6 7 "MuffinBellsModel" "s" "[I" ∈ wsX6_hours := by decide +kernel
theorem m1X6_hours_c124 : Cond.constant RX6 124 (99999) ∈ wsX6_hours := by decide +kernel
theorem m1X6_hours_c134 : Cond.constant RX6 134 (-1000000005) ∈ wsX6_hours := by decide +kernel
theorem m1X6_hours_c45 : Cond.constant RX6 45 (-1000000001) ∈ wsX6_hours := by decide +kernel
set_option maxRecDepth 100000 in
set_option maxHeartbeats 4000000 in
theorem c_X6_hours (l : Launch) (E : gE) (a : Nat → Nat) (c : Cor) (h : Mar) (n0 : Int32) (hok : cOk c) : cti l yX6_hours wsX6_hours rmX6_hours E [.ref (a 0), .int n0] (mW E a c h) (fun r w => ∃ h', r = (sp_hours c n0).1 ∧ w = mW E a (sp_hours c n0).2 h') := by
  refine mt_i (cc := cX6_hours) (maxL := 2) (ret := some .int) (lv0 := [(0, .ref (a 0)), (1, .int n0)]) (by decide) rfl rfl (Nat.le_of_ble_eq_true rfl) (fun X cx gr hI => ?_)
  refine g_iload_n cx dX6_hours_0 1 rfl ?_
  refine g_i2l cx dX6_hours_1 ?_
  refine g_lconst (v := 1) cx dX6_hours_2 (by decide) ?_
  refine g_ldc2 cx m1X6_hours_c132 dX6_hours_3 ?_
  refine g_SPi (rest := []) (As := [.long n0.toInt64, .long 1, .long 100]) cx hYX6_in gX6_hours_X6_in (c_X6_inW l E n0 1 100 1 100 (by decide) (by decide)) ⟨Nat.le_of_ble_eq_true rfl, Nat.le_of_ble_eq_true rfl⟩ rfl rfl (Nat.le_of_ble_eq_true rfl) ⟨Nat.le_of_ble_eq_true rfl, Nat.le_of_ble_eq_true rfl⟩ dX6_hours_6 ?_
  refine g_if_ne (tgt := 19) cx dX6_hours_9 (by decide) (fun c_1 => ?_) (fun c_1 => ?_)
  · obtain ⟨N, hN1, hN, rfl⟩ := isW_nI1 100 c_1 (by decide)
    have hNc : (nI N).toNatClampNeg = N := nI_clamp (by omega)
    refine g_aload_n cx dX6_hours_19 0 rfl ?_
    refine g_get (C := RX6) (T := TX6) (N := 16) (v := .ref (a 1)) cx iwX6_hours_X6 0 0 rfl rfl (by decide) lkX6_hours_7 rfl dX6_hours_20 ?_
    refine g_iconst (v := 0) cx dX6_hours_23 (by decide) ?_
    refine g_iald cx 1 rfl rfl (by first | assumption | (unfold vp_in; decide +kernel)) dX6_hours_24 ?_
    refine g_top (y := c.1.1) (rfl) ?_
    refine g_iload_n cx dX6_hours_25 1 rfl ?_
    refine g_iadd cx dX6_hours_26 ?_
    refine g_ldc cx m1X6_hours_c124 dX6_hours_27 ?_
    refine g_icmp_le (tgt := 39) cx dX6_hours_29 (by decide) (fun c_2 => ?_) (fun c_2 => ?_)
    · refine g_aload_n cx dX6_hours_39 0 rfl ?_
      refine g_iload_n cx dX6_hours_40 1 rfl ?_
      refine g_VSv (rest := []) (As := [.int (nI N)]) cx hYX6_hoursGo gX6_hours_X6_hoursGo (c_X6_hoursGo l E a c h N hok.1.1 (by omega)) rfl rfl rfl ⟨Nat.le_of_ble_eq_true rfl, Nat.le_of_ble_eq_true rfl⟩ rfl rfl (Nat.le_of_ble_eq_true rfl) ⟨Nat.le_of_ble_eq_true rfl, Nat.le_of_ble_eq_true rfl⟩ dX6_hours_41 (fun w1 hp => ?_)
      obtain rfl := hp
      refine g_aload_n cx dX6_hours_44 0 rfl ?_
      refine g_get (C := RX6) (T := TX6) (N := 16) (v := .ref (a 1)) cx iwX6_hours_X6 0 0 rfl rfl (by decide) lkX6_hours_7 rfl dX6_hours_45 ?_
      refine g_bipush (v := 6) cx dX6_hours_48 (by decide) ?_
      refine g_iald cx 1 rfl rfl (by first | assumption | (unfold vp_in; decide +kernel)) dX6_hours_50 ?_
      refine g_top (y := (goHs N c.1).2.2.2.2.2.2.1) (rfl) ?_
      exact g_iret cx gr (Nat.zero_le _) (Nat.zero_le _) dX6_hours_51 (mleaf (by first | (simp only [sp_hours, hNc, tKind, tMood, tPen, tAte, tHour, tTray, tAt, tRang, tCrack, tTak, tWay, cB, c_1, c_2, if_true, if_false]; done) | (simp only [sp_hours, hNc, tKind, tMood, tPen, tAte, tHour, tTray, tAt, tRang, tCrack, tTak, tWay, cB, c_1, c_2, if_true, if_false] <;> rfl) | (simp [sp_hours, hNc, tKind, tMood, tPen, tAte, tHour, tTray, tAt, tRang, tCrack, tTak, tWay, cB, c_1, c_2] <;> rfl)))
    · refine g_aload_n cx dX6_hours_32 0 rfl ?_
      refine g_ldc cx m1X6_hours_c134 dX6_hours_33 ?_
      refine g_VSi (rest := []) (As := [.int (-1000000005)]) cx hYX6_finds gX6_hours_X6_finds (c_X6_finds l E a c h (-1000000005) (by unfold vp_in; decide +kernel)) rfl rfl rfl ⟨Nat.le_of_ble_eq_true rfl, Nat.le_of_ble_eq_true rfl⟩ rfl rfl (Nat.le_of_ble_eq_true rfl) ⟨Nat.le_of_ble_eq_true rfl, Nat.le_of_ble_eq_true rfl⟩ dX6_hours_35 (fun r w1 hp => ?_)
      obtain ⟨rfl, rfl⟩ := hp
      exact g_iret cx gr (Nat.zero_le _) (Nat.zero_le _) dX6_hours_38 (mleaf (by first | (simp only [sp_hours, hNc, tKind, tMood, tPen, tAte, tHour, tTray, tAt, tRang, tCrack, tTak, tWay, cB, c_1, c_2, if_true, if_false]; done) | (simp only [sp_hours, hNc, tKind, tMood, tPen, tAte, tHour, tTray, tAt, tRang, tCrack, tTak, tWay, cB, c_1, c_2, if_true, if_false] <;> rfl) | (simp [sp_hours, hNc, tKind, tMood, tPen, tAte, tHour, tTray, tAt, tRang, tCrack, tTak, tWay, cB, c_1, c_2] <;> rfl)))
  · refine g_aload_n cx dX6_hours_12 0 rfl ?_
    refine g_ldc cx m1X6_hours_c45 dX6_hours_13 ?_
    refine g_VSi (rest := []) (As := [.int (-1000000001)]) cx hYX6_finds gX6_hours_X6_finds (c_X6_finds l E a c h (-1000000001) (by unfold vp_in; decide +kernel)) rfl rfl rfl ⟨Nat.le_of_ble_eq_true rfl, Nat.le_of_ble_eq_true rfl⟩ rfl rfl (Nat.le_of_ble_eq_true rfl) ⟨Nat.le_of_ble_eq_true rfl, Nat.le_of_ble_eq_true rfl⟩ dX6_hours_15 (fun r w1 hp => ?_)
    obtain ⟨rfl, rfl⟩ := hp
    exact g_iret cx gr (Nat.zero_le _) (Nat.zero_le _) dX6_hours_18 (mleaf (by first | (simp only [sp_hours, tKind, tMood, tPen, tAte, tHour, tTray, tAt, tRang, tCrack, tTak, tWay, cB, c_1, if_true, if_false]; done) | (simp only [sp_hours, tKind, tMood, tPen, tAte, tHour, tTray, tAt, tRang, tCrack, tTak, tWay, cB, c_1, if_true, if_false] <;> rfl) | (simp [sp_hours, tKind, tMood, tPen, tAte, tHour, tTray, tAt, tRang, tCrack, tTak, tWay, cB, c_1] <;> rfl)))

abbrev rmX6_on : Room := { frames := 8, cells := 0, slots := 0, locals := 180 }
theorem hYX6_on : gY yX6_on wsX6_on cX6_on 4 (some .int) 3 := ⟨⟨_, rfl⟩, by decide +kernel, by decide +kernel, by decide +kernel⟩
theorem m1X6_on_c45 : Cond.constant RX6 45 (-1000000001) ∈ wsX6_on := by decide +kernel
set_option maxRecDepth 100000 in
set_option maxHeartbeats 4000000 in
theorem c_X6_on (l : Launch) (E : gE) (a : Nat → Nat) (c : Cor) (h : Mar) (h0 : Int32) (n0 : Int32) (w0 : Int32) (hok : cOk c) : cti l yX6_on wsX6_on rmX6_on E [.ref (a 0), .int h0, .int n0, .int w0] (mW E a c h) (fun r w => ∃ h', r = (sp_on c h0 n0 w0).1 ∧ w = mW E a (sp_on c h0 n0 w0).2 h') := by
  refine mt_i (cc := cX6_on) (maxL := 4) (ret := some .int) (lv0 := [(0, .ref (a 0)), (1, .int h0), (2, .int n0), (3, .int w0)]) (by decide) rfl rfl (Nat.le_of_ble_eq_true rfl) (fun X cx gr hI => ?_)
  refine g_iload_n cx dX6_on_0 1 rfl ?_
  refine g_SPi (rest := []) (As := [.int h0]) cx hYX6_isHouse gX6_on_X6_isHouse (c_X6_isHouse l E h0 ) ⟨Nat.le_of_ble_eq_true rfl, Nat.le_of_ble_eq_true rfl⟩ rfl rfl (Nat.le_of_ble_eq_true rfl) ⟨Nat.le_of_ble_eq_true rfl, Nat.le_of_ble_eq_true rfl⟩ dX6_on_1 ?_
  refine g_if_eq (tgt := 24) cx dX6_on_4 (by decide) (fun c_1 => ?_) (fun c_1 => ?_)
  · refine g_aload_n cx dX6_on_24 0 rfl ?_
    refine g_ldc cx m1X6_on_c45 dX6_on_25 ?_
    refine g_VSi (rest := []) (As := [.int (-1000000001)]) cx hYX6_finds gX6_on_X6_finds (c_X6_finds l E a c h (-1000000001) (by unfold vp_in; decide +kernel)) rfl rfl rfl ⟨Nat.le_of_ble_eq_true rfl, Nat.le_of_ble_eq_true rfl⟩ rfl rfl (Nat.le_of_ble_eq_true rfl) ⟨Nat.le_of_ble_eq_true rfl, Nat.le_of_ble_eq_true rfl⟩ dX6_on_27 (fun r w1 hp => ?_)
    obtain ⟨rfl, rfl⟩ := hp
    exact g_iret cx gr (Nat.zero_le _) (Nat.zero_le _) dX6_on_30 (mleaf (by first | (simp only [sp_on, tKind, tMood, tPen, tAte, tHour, tTray, tAt, tRang, tCrack, tTak, tWay, cB, c_1, if_true, if_false]; done) | (simp only [sp_on, tKind, tMood, tPen, tAte, tHour, tTray, tAt, tRang, tCrack, tTak, tWay, cB, c_1, if_true, if_false] <;> rfl) | (simp [sp_on, tKind, tMood, tPen, tAte, tHour, tTray, tAt, tRang, tCrack, tTak, tWay, cB, c_1] <;> rfl)))
  · refine g_iload_n cx dX6_on_7 2 rfl ?_
    refine g_SPi (rest := []) (As := [.int n0]) cx hYX6_isAhead gX6_on_X6_isAhead (c_X6_isAhead l E n0 ) ⟨Nat.le_of_ble_eq_true rfl, Nat.le_of_ble_eq_true rfl⟩ rfl rfl (Nat.le_of_ble_eq_true rfl) ⟨Nat.le_of_ble_eq_true rfl, Nat.le_of_ble_eq_true rfl⟩ dX6_on_8 ?_
    refine g_if_eq (tgt := 24) cx dX6_on_11 (by decide) (fun c_2 => ?_) (fun c_2 => ?_)
    · refine g_aload_n cx dX6_on_24 0 rfl ?_
      refine g_ldc cx m1X6_on_c45 dX6_on_25 ?_
      refine g_VSi (rest := []) (As := [.int (-1000000001)]) cx hYX6_finds gX6_on_X6_finds (c_X6_finds l E a c h (-1000000001) (by unfold vp_in; decide +kernel)) rfl rfl rfl ⟨Nat.le_of_ble_eq_true rfl, Nat.le_of_ble_eq_true rfl⟩ rfl rfl (Nat.le_of_ble_eq_true rfl) ⟨Nat.le_of_ble_eq_true rfl, Nat.le_of_ble_eq_true rfl⟩ dX6_on_27 (fun r w1 hp => ?_)
      obtain ⟨rfl, rfl⟩ := hp
      exact g_iret cx gr (Nat.zero_le _) (Nat.zero_le _) dX6_on_30 (mleaf (by first | (simp only [sp_on, tKind, tMood, tPen, tAte, tHour, tTray, tAt, tRang, tCrack, tTak, tWay, cB, c_1, c_2, if_true, if_false]; done) | (simp only [sp_on, tKind, tMood, tPen, tAte, tHour, tTray, tAt, tRang, tCrack, tTak, tWay, cB, c_1, c_2, if_true, if_false] <;> rfl) | (simp [sp_on, tKind, tMood, tPen, tAte, tHour, tTray, tAt, tRang, tCrack, tTak, tWay, cB, c_1, c_2] <;> rfl)))
    · obtain ⟨N, hN, rfl⟩ := isW_nI 200 c_2 (by decide)
      have hNc : (nI N).toNatClampNeg = N := nI_clamp (by omega)
      refine g_iload_n cx dX6_on_14 3 rfl ?_
      refine g_i2l cx dX6_on_15 ?_
      refine g_lconst (v := 0) cx dX6_on_16 (by decide) ?_
      refine g_lconst (v := 1) cx dX6_on_17 (by decide) ?_
      refine g_SPi (rest := []) (As := [.long w0.toInt64, .long 0, .long 1]) cx hYX6_in gX6_on_X6_in (c_X6_inW l E w0 0 1 0 1 (by decide) (by decide)) ⟨Nat.le_of_ble_eq_true rfl, Nat.le_of_ble_eq_true rfl⟩ rfl rfl (Nat.le_of_ble_eq_true rfl) ⟨Nat.le_of_ble_eq_true rfl, Nat.le_of_ble_eq_true rfl⟩ dX6_on_18 ?_
      refine g_if_ne (tgt := 31) cx dX6_on_21 (by decide) (fun c_3 => ?_) (fun c_3 => ?_)
      · refine g_aload_n cx dX6_on_31 0 rfl ?_
        refine g_iload_n cx dX6_on_32 1 rfl ?_
        refine g_iload_n cx dX6_on_33 3 rfl ?_
        refine g_if_ne (tgt := 41) cx dX6_on_34 (by decide) (fun c_4 => ?_) (fun c_4 => ?_)
        · refine g_iconst (v := 3) cx dX6_on_41 (by decide) ?_
          refine g_SPi (rest := [.ref (a 0)]) (As := [.int h0, .int 3]) cx hYX6_spotOf gX6_on_X6_spotOf (c_X6_spotOf l E h0 3 ) ⟨Nat.le_of_ble_eq_true rfl, Nat.le_of_ble_eq_true rfl⟩ rfl rfl (Nat.le_of_ble_eq_true rfl) ⟨Nat.le_of_ble_eq_true rfl, Nat.le_of_ble_eq_true rfl⟩ dX6_on_42 ?_
          refine g_iload_n cx dX6_on_45 2 rfl ?_
          refine g_VSi (rest := []) (As := [.int (spot h0 3), .int (nI N)]) cx hYX6_behind gX6_on_X6_behind (c_X6_behind3 l E a c h h0 N hok.1.1 (by omega) (isW_vp 7 c_1 (by decide))) rfl rfl rfl ⟨Nat.le_of_ble_eq_true rfl, Nat.le_of_ble_eq_true rfl⟩ rfl rfl (Nat.le_of_ble_eq_true rfl) ⟨Nat.le_of_ble_eq_true rfl, Nat.le_of_ble_eq_true rfl⟩ dX6_on_46 (fun r w1 hp => ?_)
          obtain ⟨rfl, rfl⟩ := hp
          exact g_iret cx gr (Nat.zero_le _) (Nat.zero_le _) dX6_on_49 (mleaf (by first | (simp only [sp_on, hNc, tKind, tMood, tPen, tAte, tHour, tTray, tAt, tRang, tCrack, tTak, tWay, cB, c_1, c_2, c_3, c_4, if_true, if_false]; done) | (simp only [sp_on, hNc, tKind, tMood, tPen, tAte, tHour, tTray, tAt, tRang, tCrack, tTak, tWay, cB, c_1, c_2, c_3, c_4, if_true, if_false] <;> rfl) | (simp [sp_on, hNc, tKind, tMood, tPen, tAte, tHour, tTray, tAt, tRang, tCrack, tTak, tWay, cB, c_1, c_2, c_3, c_4] <;> rfl)))
        · refine g_iconst (v := 1) cx dX6_on_37 (by decide) ?_
          refine g_goto (tgt := 42) cx dX6_on_38 (by decide) ?_
          refine g_SPi (rest := [.ref (a 0)]) (As := [.int h0, .int 1]) cx hYX6_spotOf gX6_on_X6_spotOf (c_X6_spotOf l E h0 1 ) ⟨Nat.le_of_ble_eq_true rfl, Nat.le_of_ble_eq_true rfl⟩ rfl rfl (Nat.le_of_ble_eq_true rfl) ⟨Nat.le_of_ble_eq_true rfl, Nat.le_of_ble_eq_true rfl⟩ dX6_on_42 ?_
          refine g_iload_n cx dX6_on_45 2 rfl ?_
          refine g_VSi (rest := []) (As := [.int (spot h0 1), .int (nI N)]) cx hYX6_behind gX6_on_X6_behind (c_X6_behind1 l E a c h h0 N hok.1.1 (by omega) (isW_vp 7 c_1 (by decide))) rfl rfl rfl ⟨Nat.le_of_ble_eq_true rfl, Nat.le_of_ble_eq_true rfl⟩ rfl rfl (Nat.le_of_ble_eq_true rfl) ⟨Nat.le_of_ble_eq_true rfl, Nat.le_of_ble_eq_true rfl⟩ dX6_on_46 (fun r w1 hp => ?_)
          obtain ⟨rfl, rfl⟩ := hp
          exact g_iret cx gr (Nat.zero_le _) (Nat.zero_le _) dX6_on_49 (mleaf (by first | (simp only [sp_on, hNc, tKind, tMood, tPen, tAte, tHour, tTray, tAt, tRang, tCrack, tTak, tWay, cB, c_1, c_2, c_3, c_4, if_true, if_false]; done) | (simp only [sp_on, hNc, tKind, tMood, tPen, tAte, tHour, tTray, tAt, tRang, tCrack, tTak, tWay, cB, c_1, c_2, c_3, c_4, if_true, if_false] <;> rfl) | (simp [sp_on, hNc, tKind, tMood, tPen, tAte, tHour, tTray, tAt, tRang, tCrack, tTak, tWay, cB, c_1, c_2, c_3, c_4] <;> rfl)))
      · refine g_aload_n cx dX6_on_24 0 rfl ?_
        refine g_ldc cx m1X6_on_c45 dX6_on_25 ?_
        refine g_VSi (rest := []) (As := [.int (-1000000001)]) cx hYX6_finds gX6_on_X6_finds (c_X6_finds l E a c h (-1000000001) (by unfold vp_in; decide +kernel)) rfl rfl rfl ⟨Nat.le_of_ble_eq_true rfl, Nat.le_of_ble_eq_true rfl⟩ rfl rfl (Nat.le_of_ble_eq_true rfl) ⟨Nat.le_of_ble_eq_true rfl, Nat.le_of_ble_eq_true rfl⟩ dX6_on_27 (fun r w1 hp => ?_)
        obtain ⟨rfl, rfl⟩ := hp
        exact g_iret cx gr (Nat.zero_le _) (Nat.zero_le _) dX6_on_30 (mleaf (by first | (simp only [sp_on, hNc, tKind, tMood, tPen, tAte, tHour, tTray, tAt, tRang, tCrack, tTak, tWay, cB, c_1, c_2, c_3, if_true, if_false]; done) | (simp only [sp_on, hNc, tKind, tMood, tPen, tAte, tHour, tTray, tAt, tRang, tCrack, tTak, tWay, cB, c_1, c_2, c_3, if_true, if_false] <;> rfl) | (simp [sp_on, hNc, tKind, tMood, tPen, tAte, tHour, tTray, tAt, tRang, tCrack, tTak, tWay, cB, c_1, c_2, c_3] <;> rfl)))

abbrev rmX6_rang : Room := { frames := 8, cells := 0, slots := 0, locals := 180 }
theorem hYX6_rang : gY yX6_rang wsX6_rang cX6_rang 2 (some .int) 1 := ⟨⟨_, rfl⟩, by decide +kernel, by decide +kernel, by decide +kernel⟩
theorem m1X6_rang_c45 : Cond.constant RX6 45 (-1000000001) ∈ wsX6_rang := by decide +kernel
set_option maxRecDepth 100000 in
set_option maxHeartbeats 4000000 in
theorem c_X6_rang (l : Launch) (E : gE) (a : Nat → Nat) (c : Cor) (h : Mar) (n0 : Int32) (hok : cOk c) : cti l yX6_rang wsX6_rang rmX6_rang E [.ref (a 0), .int n0] (mW E a c h) (fun r w => ∃ h', r = (sp_rang c n0).1 ∧ w = mW E a (sp_rang c n0).2 h') := by
  refine mt_i (cc := cX6_rang) (maxL := 2) (ret := some .int) (lv0 := [(0, .ref (a 0)), (1, .int n0)]) (by decide) rfl rfl (Nat.le_of_ble_eq_true rfl) (fun X cx gr hI => ?_)
  refine g_iload_n cx dX6_rang_0 1 rfl ?_
  refine g_SPi (rest := []) (As := [.int n0]) cx hYX6_isAhead gX6_rang_X6_isAhead (c_X6_isAhead l E n0 ) ⟨Nat.le_of_ble_eq_true rfl, Nat.le_of_ble_eq_true rfl⟩ rfl rfl (Nat.le_of_ble_eq_true rfl) ⟨Nat.le_of_ble_eq_true rfl, Nat.le_of_ble_eq_true rfl⟩ dX6_rang_1 ?_
  refine g_if_eq (tgt := 16) cx dX6_rang_4 (by decide) (fun c_1 => ?_) (fun c_1 => ?_)
  · refine g_aload_n cx dX6_rang_16 0 rfl ?_
    refine g_ldc cx m1X6_rang_c45 dX6_rang_17 ?_
    refine g_VSi (rest := []) (As := [.int (-1000000001)]) cx hYX6_finds gX6_rang_X6_finds (c_X6_finds l E a c h (-1000000001) (by unfold vp_in; decide +kernel)) rfl rfl rfl ⟨Nat.le_of_ble_eq_true rfl, Nat.le_of_ble_eq_true rfl⟩ rfl rfl (Nat.le_of_ble_eq_true rfl) ⟨Nat.le_of_ble_eq_true rfl, Nat.le_of_ble_eq_true rfl⟩ dX6_rang_19 (fun r w1 hp => ?_)
    obtain ⟨rfl, rfl⟩ := hp
    exact g_iret cx gr (Nat.zero_le _) (Nat.zero_le _) dX6_rang_22 (mleaf (by first | (simp only [sp_rang, tKind, tMood, tPen, tAte, tHour, tTray, tAt, tRang, tCrack, tTak, tWay, cB, c_1, if_true, if_false]; done) | (simp only [sp_rang, tKind, tMood, tPen, tAte, tHour, tTray, tAt, tRang, tCrack, tTak, tWay, cB, c_1, if_true, if_false] <;> rfl) | (simp [sp_rang, tKind, tMood, tPen, tAte, tHour, tTray, tAt, tRang, tCrack, tTak, tWay, cB, c_1] <;> rfl)))
  · obtain ⟨N, hN, rfl⟩ := isW_nI 200 c_1 (by decide)
    have hNc : (nI N).toNatClampNeg = N := nI_clamp (by omega)
    refine g_aload_n cx dX6_rang_7 0 rfl ?_
    refine g_iconst (v := 4) cx dX6_rang_8 (by decide) ?_
    refine g_iload_n cx dX6_rang_9 1 rfl ?_
    refine g_VSi (rest := []) (As := [.int 4, .int (nI N)]) cx hYX6_behind gX6_rang_X6_behind (c_X6_behind l E a c h 4 N hok.1.1 (by omega) (by unfold vp_in; decide +kernel)) rfl rfl rfl ⟨Nat.le_of_ble_eq_true rfl, Nat.le_of_ble_eq_true rfl⟩ rfl rfl (Nat.le_of_ble_eq_true rfl) ⟨Nat.le_of_ble_eq_true rfl, Nat.le_of_ble_eq_true rfl⟩ dX6_rang_10 (fun r w1 hp => ?_)
    obtain ⟨rfl, rfl⟩ := hp
    refine g_goto (tgt := 22) cx dX6_rang_13 (by decide) ?_
    exact g_iret cx gr (Nat.zero_le _) (Nat.zero_le _) dX6_rang_22 (mleaf (by first | (simp only [sp_rang, hNc, tKind, tMood, tPen, tAte, tHour, tTray, tAt, tRang, tCrack, tTak, tWay, cB, c_1, if_true, if_false]; done) | (simp only [sp_rang, hNc, tKind, tMood, tPen, tAte, tHour, tTray, tAt, tRang, tCrack, tTak, tWay, cB, c_1, if_true, if_false] <;> rfl) | (simp [sp_rang, hNc, tKind, tMood, tPen, tAte, tHour, tTray, tAt, tRang, tCrack, tTak, tWay, cB, c_1] <;> rfl)))

abbrev rmX6_takings : Room := { frames := 8, cells := 0, slots := 0, locals := 180 }
theorem hYX6_takings : gY yX6_takings wsX6_takings cX6_takings 2 (some .int) 1 := ⟨⟨_, rfl⟩, by decide +kernel, by decide +kernel, by decide +kernel⟩
theorem m1X6_takings_c45 : Cond.constant RX6 45 (-1000000001) ∈ wsX6_takings := by decide +kernel
set_option maxRecDepth 100000 in
set_option maxHeartbeats 4000000 in
theorem c_X6_takings (l : Launch) (E : gE) (a : Nat → Nat) (c : Cor) (h : Mar) (n0 : Int32) (hok : cOk c) : cti l yX6_takings wsX6_takings rmX6_takings E [.ref (a 0), .int n0] (mW E a c h) (fun r w => ∃ h', r = (sp_takings c n0).1 ∧ w = mW E a (sp_takings c n0).2 h') := by
  refine mt_i (cc := cX6_takings) (maxL := 2) (ret := some .int) (lv0 := [(0, .ref (a 0)), (1, .int n0)]) (by decide) rfl rfl (Nat.le_of_ble_eq_true rfl) (fun X cx gr hI => ?_)
  refine g_iload_n cx dX6_takings_0 1 rfl ?_
  refine g_SPi (rest := []) (As := [.int n0]) cx hYX6_isAhead gX6_takings_X6_isAhead (c_X6_isAhead l E n0 ) ⟨Nat.le_of_ble_eq_true rfl, Nat.le_of_ble_eq_true rfl⟩ rfl rfl (Nat.le_of_ble_eq_true rfl) ⟨Nat.le_of_ble_eq_true rfl, Nat.le_of_ble_eq_true rfl⟩ dX6_takings_1 ?_
  refine g_if_eq (tgt := 17) cx dX6_takings_4 (by decide) (fun c_1 => ?_) (fun c_1 => ?_)
  · refine g_aload_n cx dX6_takings_17 0 rfl ?_
    refine g_ldc cx m1X6_takings_c45 dX6_takings_18 ?_
    refine g_VSi (rest := []) (As := [.int (-1000000001)]) cx hYX6_finds gX6_takings_X6_finds (c_X6_finds l E a c h (-1000000001) (by unfold vp_in; decide +kernel)) rfl rfl rfl ⟨Nat.le_of_ble_eq_true rfl, Nat.le_of_ble_eq_true rfl⟩ rfl rfl (Nat.le_of_ble_eq_true rfl) ⟨Nat.le_of_ble_eq_true rfl, Nat.le_of_ble_eq_true rfl⟩ dX6_takings_20 (fun r w1 hp => ?_)
    obtain ⟨rfl, rfl⟩ := hp
    exact g_iret cx gr (Nat.zero_le _) (Nat.zero_le _) dX6_takings_23 (mleaf (by first | (simp only [sp_takings, tKind, tMood, tPen, tAte, tHour, tTray, tAt, tRang, tCrack, tTak, tWay, cB, c_1, if_true, if_false]; done) | (simp only [sp_takings, tKind, tMood, tPen, tAte, tHour, tTray, tAt, tRang, tCrack, tTak, tWay, cB, c_1, if_true, if_false] <;> rfl) | (simp [sp_takings, tKind, tMood, tPen, tAte, tHour, tTray, tAt, tRang, tCrack, tTak, tWay, cB, c_1] <;> rfl)))
  · obtain ⟨N, hN, rfl⟩ := isW_nI 200 c_1 (by decide)
    have hNc : (nI N).toNatClampNeg = N := nI_clamp (by omega)
    refine g_aload_n cx dX6_takings_7 0 rfl ?_
    refine g_bipush (v := 6) cx dX6_takings_8 (by decide) ?_
    refine g_iload_n cx dX6_takings_10 1 rfl ?_
    refine g_VSi (rest := []) (As := [.int 6, .int (nI N)]) cx hYX6_behind gX6_takings_X6_behind (c_X6_behind l E a c h 6 N hok.1.1 (by omega) (by unfold vp_in; decide +kernel)) rfl rfl rfl ⟨Nat.le_of_ble_eq_true rfl, Nat.le_of_ble_eq_true rfl⟩ rfl rfl (Nat.le_of_ble_eq_true rfl) ⟨Nat.le_of_ble_eq_true rfl, Nat.le_of_ble_eq_true rfl⟩ dX6_takings_11 (fun r w1 hp => ?_)
    obtain ⟨rfl, rfl⟩ := hp
    refine g_goto (tgt := 23) cx dX6_takings_14 (by decide) ?_
    exact g_iret cx gr (Nat.zero_le _) (Nat.zero_le _) dX6_takings_23 (mleaf (by first | (simp only [sp_takings, hNc, tKind, tMood, tPen, tAte, tHour, tTray, tAt, tRang, tCrack, tTak, tWay, cB, c_1, if_true, if_false]; done) | (simp only [sp_takings, hNc, tKind, tMood, tPen, tAte, tHour, tTray, tAt, tRang, tCrack, tTak, tWay, cB, c_1, if_true, if_false] <;> rfl) | (simp [sp_takings, hNc, tKind, tMood, tPen, tAte, tHour, tTray, tAt, tRang, tCrack, tTak, tWay, cB, c_1] <;> rfl)))

abbrev rmX6_moods : Room := { frames := 8, cells := 0, slots := 0, locals := 179 }
theorem hYX6_moods : gY yX6_moods wsX6_moods cX6_moods 2 (some .int) 1 := ⟨⟨_, rfl⟩, by decide +kernel, by decide +kernel, by decide +kernel⟩
theorem m1X6_moods_c45 : Cond.constant RX6 45 (-1000000001) ∈ wsX6_moods := by decide +kernel
set_option maxRecDepth 100000 in
set_option maxHeartbeats 4000000 in
theorem c_X6_moods (l : Launch) (E : gE) (a : Nat → Nat) (c : Cor) (h : Mar) (n0 : Int32) (hok : cOk c) : cti l yX6_moods wsX6_moods rmX6_moods E [.ref (a 0), .int n0] (mW E a c h) (fun r w => ∃ h', r = (sp_moods c n0).1 ∧ w = mW E a (sp_moods c n0).2 h') := by
  refine mt_i (cc := cX6_moods) (maxL := 2) (ret := some .int) (lv0 := [(0, .ref (a 0)), (1, .int n0)]) (by decide) rfl rfl (Nat.le_of_ble_eq_true rfl) (fun X cx gr hI => ?_)
  refine g_iload_n cx dX6_moods_0 1 rfl ?_
  refine g_SPi (rest := []) (As := [.int n0]) cx hYX6_isAhead gX6_moods_X6_isAhead (c_X6_isAhead l E n0 ) ⟨Nat.le_of_ble_eq_true rfl, Nat.le_of_ble_eq_true rfl⟩ rfl rfl (Nat.le_of_ble_eq_true rfl) ⟨Nat.le_of_ble_eq_true rfl, Nat.le_of_ble_eq_true rfl⟩ dX6_moods_1 ?_
  refine g_if_eq (tgt := 15) cx dX6_moods_4 (by decide) (fun c_1 => ?_) (fun c_1 => ?_)
  · refine g_aload_n cx dX6_moods_15 0 rfl ?_
    refine g_ldc cx m1X6_moods_c45 dX6_moods_16 ?_
    refine g_VSi (rest := []) (As := [.int (-1000000001)]) cx hYX6_finds gX6_moods_X6_finds (c_X6_finds l E a c h (-1000000001) (by unfold vp_in; decide +kernel)) rfl rfl rfl ⟨Nat.le_of_ble_eq_true rfl, Nat.le_of_ble_eq_true rfl⟩ rfl rfl (Nat.le_of_ble_eq_true rfl) ⟨Nat.le_of_ble_eq_true rfl, Nat.le_of_ble_eq_true rfl⟩ dX6_moods_18 (fun r w1 hp => ?_)
    obtain ⟨rfl, rfl⟩ := hp
    exact g_iret cx gr (Nat.zero_le _) (Nat.zero_le _) dX6_moods_21 (mleaf (by first | (simp only [sp_moods, tKind, tMood, tPen, tAte, tHour, tTray, tAt, tRang, tCrack, tTak, tWay, cB, c_1, if_true, if_false]; done) | (simp only [sp_moods, tKind, tMood, tPen, tAte, tHour, tTray, tAt, tRang, tCrack, tTak, tWay, cB, c_1, if_true, if_false] <;> rfl) | (simp [sp_moods, tKind, tMood, tPen, tAte, tHour, tTray, tAt, tRang, tCrack, tTak, tWay, cB, c_1] <;> rfl)))
  · obtain ⟨N, hN, rfl⟩ := isW_nI 200 c_1 (by decide)
    have hNc : (nI N).toNatClampNeg = N := nI_clamp (by omega)
    refine g_aload_n cx dX6_moods_7 0 rfl ?_
    refine g_iload_n cx dX6_moods_8 1 rfl ?_
    refine g_VSi (rest := []) (As := [.int (nI N)]) cx hYX6_moodsIn gX6_moods_X6_moodsIn (c_X6_moodsIn l E a c h N hok.1.1 (by omega)) rfl rfl rfl ⟨Nat.le_of_ble_eq_true rfl, Nat.le_of_ble_eq_true rfl⟩ rfl rfl (Nat.le_of_ble_eq_true rfl) ⟨Nat.le_of_ble_eq_true rfl, Nat.le_of_ble_eq_true rfl⟩ dX6_moods_9 (fun r w1 hp => ?_)
    obtain ⟨rfl, rfl⟩ := hp
    refine g_goto (tgt := 21) cx dX6_moods_12 (by decide) ?_
    exact g_iret cx gr (Nat.zero_le _) (Nat.zero_le _) dX6_moods_21 (mleaf (by first | (simp only [sp_moods, hNc, tKind, tMood, tPen, tAte, tHour, tTray, tAt, tRang, tCrack, tTak, tWay, cB, c_1, if_true, if_false]; done) | (simp only [sp_moods, hNc, tKind, tMood, tPen, tAte, tHour, tTray, tAt, tRang, tCrack, tTak, tWay, cB, c_1, if_true, if_false] <;> rfl) | (simp [sp_moods, hNc, tKind, tMood, tPen, tAte, tHour, tTray, tAt, tRang, tCrack, tTak, tWay, cB, c_1] <;> rfl)))
