theorem his_in {w v : Int32} (h : ¬ isHis w v = 0) : vp_in (1 + w) 39 := by
  unfold isHis at h
  by_cases h0 : w = 0
  · subst h0; unfold vp_in; decide +kernel
  · by_cases h1 : w = 1
    · subst h1; unfold vp_in; decide +kernel
    · by_cases h2 : w = 2
      · subst h2; unfold vp_in; decide +kernel
      · by_cases h3 : w = 3
        · subst h3; unfold vp_in; decide +kernel
        · by_cases h4 : w = 4
          · subst h4; unfold vp_in; decide +kernel
          · simp [h0, h1, h2, h3, h4] at h

abbrev rmX6_man : Room := { frames := 3, cells := 0, slots := 0, locals := 66 }
theorem hYX6_man : gY yX6_man wsX6_man cX6_man 3 (some .int) 2 := ⟨⟨_, rfl⟩, by decide +kernel, by decide +kernel, by decide +kernel⟩
theorem m1X6_man_c45 : Cond.constant RX6 45 (-1000000001) ∈ wsX6_man := by decide +kernel
set_option maxRecDepth 100000 in
set_option maxHeartbeats 4000000 in
theorem c_X6_man (l : Launch) (E : gE) (a : Nat → Nat) (c : Cor) (h : Mar) (w0 : Int32) (v0 : Int32) (hok : cOk c) : cti l yX6_man wsX6_man rmX6_man E [.ref (a 0), .int w0, .int v0] (mW E a c h) (fun r w => ∃ h', r = (sp_man c w0 v0).1 ∧ w = mW E a (sp_man c w0 v0).2 h') := by
  refine mt_i (cc := cX6_man) (maxL := 3) (ret := some .int) (lv0 := [(0, .ref (a 0)), (1, .int w0), (2, .int v0)]) (by decide) rfl rfl (Nat.le_of_ble_eq_true rfl) (fun X cx gr hI => ?_)
  refine g_iload_n cx dX6_man_0 1 rfl ?_
  refine g_iload_n cx dX6_man_1 2 rfl ?_
  refine g_SPi (rest := []) (As := [.int w0, .int v0]) cx hYX6_isHis gX6_man_X6_isHis (c_X6_isHis l E w0 v0 ) ⟨Nat.le_of_ble_eq_true rfl, Nat.le_of_ble_eq_true rfl⟩ rfl rfl (Nat.le_of_ble_eq_true rfl) ⟨Nat.le_of_ble_eq_true rfl, Nat.le_of_ble_eq_true rfl⟩ dX6_man_2 ?_
  refine g_if_eq (tgt := 19) cx dX6_man_5 (by decide) (fun c_1 => ?_) (fun c_1 => ?_)
  · refine g_aload_n cx dX6_man_19 0 rfl ?_
    refine g_ldc cx m1X6_man_c45 dX6_man_20 ?_
    refine g_VSi (rest := []) (As := [.int (-1000000001)]) cx hYX6_finds gX6_man_X6_finds (c_X6_finds l E a c h (-1000000001) (by unfold vp_in; decide +kernel)) rfl rfl rfl ⟨Nat.le_of_ble_eq_true rfl, Nat.le_of_ble_eq_true rfl⟩ rfl rfl (Nat.le_of_ble_eq_true rfl) ⟨Nat.le_of_ble_eq_true rfl, Nat.le_of_ble_eq_true rfl⟩ dX6_man_22 (fun r w1 hp => ?_)
    obtain ⟨rfl, rfl⟩ := hp
    exact g_iret cx gr (Nat.zero_le _) (Nat.zero_le _) dX6_man_25 (mleaf (by first | (simp only [sp_man, tKind, tMood, tPen, tAte, tHour, tTray, tAt, tRang, tCrack, tTak, tWay, cB, c_1, if_true, if_false]; done) | (simp only [sp_man, tKind, tMood, tPen, tAte, tHour, tTray, tAt, tRang, tCrack, tTak, tWay, cB, c_1, if_true, if_false] <;> rfl) | (simp [sp_man, tKind, tMood, tPen, tAte, tHour, tTray, tAt, tRang, tCrack, tTak, tWay, cB, c_1] <;> rfl)))
  · refine g_aload_n cx dX6_man_8 0 rfl ?_
    refine g_iconst (v := 1) cx dX6_man_9 (by decide) ?_
    refine g_iload_n cx dX6_man_10 1 rfl ?_
    refine g_iadd cx dX6_man_11 ?_
    refine g_iload_n cx dX6_man_12 2 rfl ?_
    refine g_VSi (rest := []) (As := [.int (1 + w0), .int v0]) cx hYX6_becomes gX6_man_X6_becomes (c_X6_becomes l E a c h (1 + w0) v0 (his_in c_1)) rfl rfl rfl ⟨Nat.le_of_ble_eq_true rfl, Nat.le_of_ble_eq_true rfl⟩ rfl rfl (Nat.le_of_ble_eq_true rfl) ⟨Nat.le_of_ble_eq_true rfl, Nat.le_of_ble_eq_true rfl⟩ dX6_man_13 (fun r w1 hp => ?_)
    obtain ⟨rfl, rfl⟩ := hp
    refine g_goto (tgt := 25) cx dX6_man_16 (by decide) ?_
    exact g_iret cx gr (Nat.zero_le _) (Nat.zero_le _) dX6_man_25 (mleaf (by first | (simp only [sp_man, tKind, tMood, tPen, tAte, tHour, tTray, tAt, tRang, tCrack, tTak, tWay, cB, c_1, if_true, if_false]; done) | (simp only [sp_man, tKind, tMood, tPen, tAte, tHour, tTray, tAt, tRang, tCrack, tTak, tWay, cB, c_1, if_true, if_false] <;> rfl) | (simp [sp_man, tKind, tMood, tPen, tAte, tHour, tTray, tAt, tRang, tCrack, tTak, tWay, cB, c_1] <;> rfl)))

theorem now_in {w : Int32} (h : ¬ isW w 0 7 = 0) : vp_in w 39 := by
  obtain ⟨j, hj, rfl⟩ := isW_nI 7 h (by decide)
  exact vp_in_nI (by omega) (by decide)
theorem of_in {h w : Int32} (hh : ¬ isW h 0 7 = 0) (hw : ¬ isW w 0 4 = 0) (h3 : ¬ 3 < w) : vp_in (spot h w) 39 := by
  obtain ⟨j, hj, rfl⟩ := isW_nI 4 hw (by decide)
  exact spot_in (isW_vp 7 hh (by decide)) j (le_of 3 rfl h3 (by omega) (by decide))
theorem set_in {h w : Int32} (hh : ¬ isW h 0 7 = 0) (hw : ¬ isW w 1 3 = 0) : vp_in (spot h w) 39 := by
  obtain ⟨j, hj1, hj, rfl⟩ := isW_nI1 3 hw (by decide)
  exact spot_in (isW_vp 7 hh (by decide)) j hj

abbrev rmX6_now : Room := { frames := 1, cells := 0, slots := 0, locals := 25 }
theorem hYX6_now : gY yX6_now wsX6_now cX6_now 2 (some .int) 1 := ⟨⟨_, rfl⟩, by decide +kernel, by decide +kernel, by decide +kernel⟩
theorem m1X6_now_c46 : Cond.constantLong RX6 46 (7) ∈ wsX6_now := by decide +kernel
theorem iwX6_now_X6 : ∀ w ∈ u_ws RX6 TX6 16, w ∈ wsX6_now := by decide +kernel
theorem lkX6_now_7 : Cond.fieldLink RX6 7 "MuffinBellsModel" "s" "[I" ∈ wsX6_now := by decide +kernel
theorem m1X6_now_c45 : Cond.constant RX6 45 (-1000000001) ∈ wsX6_now := by decide +kernel
set_option maxRecDepth 100000 in
set_option maxHeartbeats 4000000 in
theorem c_X6_now (l : Launch) (E : gE) (a : Nat → Nat) (c : Cor) (h : Mar) (w0 : Int32) (hok : cOk c) : cti l yX6_now wsX6_now rmX6_now E [.ref (a 0), .int w0] (mW E a c h) (fun r w => ∃ h', r = (sp_now c w0).1 ∧ w = mW E a (sp_now c w0).2 h') := by
  refine mt_i (cc := cX6_now) (maxL := 2) (ret := some .int) (lv0 := [(0, .ref (a 0)), (1, .int w0)]) (by decide) rfl rfl (Nat.le_of_ble_eq_true rfl) (fun X cx gr hI => ?_)
  refine g_iload_n cx dX6_now_0 1 rfl ?_
  refine g_i2l cx dX6_now_1 ?_
  refine g_lconst (v := 0) cx dX6_now_2 (by decide) ?_
  refine g_ldc2 cx m1X6_now_c46 dX6_now_3 ?_
  refine g_SPi (rest := []) (As := [.long w0.toInt64, .long 0, .long 7]) cx hYX6_in gX6_now_X6_in (c_X6_inW l E w0 0 7 0 7 (by decide) (by decide)) ⟨Nat.le_of_ble_eq_true rfl, Nat.le_of_ble_eq_true rfl⟩ rfl rfl (Nat.le_of_ble_eq_true rfl) ⟨Nat.le_of_ble_eq_true rfl, Nat.le_of_ble_eq_true rfl⟩ dX6_now_6 ?_
  refine g_if_ne (tgt := 19) cx dX6_now_9 (by decide) (fun c_1 => ?_) (fun c_1 => ?_)
  · refine g_iload_n cx dX6_now_19 1 rfl ?_
    refine g_bipush (v := 7) cx dX6_now_20 (by decide) ?_
    refine g_icmp_ge (tgt := 34) cx dX6_now_22 (by decide) (fun c_2 => ?_) (fun c_2 => ?_)
    · refine g_aload_n cx dX6_now_34 0 rfl ?_
      refine g_VSi (rest := []) (As := []) cx hYX6_isResting gX6_now_X6_isResting (c_X6_isResting l E a c h  ) rfl rfl rfl ⟨Nat.le_of_ble_eq_true rfl, Nat.le_of_ble_eq_true rfl⟩ rfl rfl (Nat.le_of_ble_eq_true rfl) ⟨Nat.le_of_ble_eq_true rfl, Nat.le_of_ble_eq_true rfl⟩ dX6_now_35 (fun r w1 hp => ?_)
      obtain ⟨rfl, rfl⟩ := hp
      refine g_if_eq (tgt := 45) cx dX6_now_38 (by decide) (fun c_3 => ?_) (fun c_3 => ?_)
      · refine g_iconst (v := 0) cx dX6_now_45 (by decide) ?_
        exact g_iret cx gr (Nat.zero_le _) (Nat.zero_le _) dX6_now_46 (mleaf (by rw [sp_now, if_neg c_1, if_pos c_2, c_3]))
      · refine g_iconst (v := 1) cx dX6_now_41 (by decide) ?_
        refine g_goto (tgt := 46) cx dX6_now_42 (by decide) ?_
        exact g_iret cx gr (Nat.zero_le _) (Nat.zero_le _) dX6_now_46 (mleaf (by rw [sp_now, if_neg c_1, if_pos c_2, (sRest_b _).resolve_left c_3]))
    · refine g_aload_n cx dX6_now_25 0 rfl ?_
      refine g_get (C := RX6) (T := TX6) (N := 16) (v := .ref (a 1)) cx iwX6_now_X6 0 0 rfl rfl (by decide) lkX6_now_7 rfl dX6_now_26 ?_
      refine g_iload_n cx dX6_now_29 1 rfl ?_
      refine g_iald cx 1 rfl rfl (now_in c_1) dX6_now_30 ?_
      refine g_goto (tgt := 46) cx dX6_now_31 (by decide) ?_
      exact g_iret cx gr (Nat.zero_le _) (Nat.zero_le _) dX6_now_46 (mleaf (by first | (simp only [sp_now, tKind, tMood, tPen, tAte, tHour, tTray, tAt, tRang, tCrack, tTak, tWay, cB, c_1, c_2, if_true, if_false]; done) | (simp only [sp_now, tKind, tMood, tPen, tAte, tHour, tTray, tAt, tRang, tCrack, tTak, tWay, cB, c_1, c_2, if_true, if_false] <;> rfl) | (simp [sp_now, tKind, tMood, tPen, tAte, tHour, tTray, tAt, tRang, tCrack, tTak, tWay, cB, c_1, c_2] <;> rfl)))
  · refine g_aload_n cx dX6_now_12 0 rfl ?_
    refine g_ldc cx m1X6_now_c45 dX6_now_13 ?_
    refine g_VSi (rest := []) (As := [.int (-1000000001)]) cx hYX6_finds gX6_now_X6_finds (c_X6_finds l E a c h (-1000000001) (by unfold vp_in; decide +kernel)) rfl rfl rfl ⟨Nat.le_of_ble_eq_true rfl, Nat.le_of_ble_eq_true rfl⟩ rfl rfl (Nat.le_of_ble_eq_true rfl) ⟨Nat.le_of_ble_eq_true rfl, Nat.le_of_ble_eq_true rfl⟩ dX6_now_15 (fun r w1 hp => ?_)
    obtain ⟨rfl, rfl⟩ := hp
    exact g_iret cx gr (Nat.zero_le _) (Nat.zero_le _) dX6_now_18 (mleaf (by first | (simp only [sp_now, tKind, tMood, tPen, tAte, tHour, tTray, tAt, tRang, tCrack, tTak, tWay, cB, c_1, if_true, if_false]; done) | (simp only [sp_now, tKind, tMood, tPen, tAte, tHour, tTray, tAt, tRang, tCrack, tTak, tWay, cB, c_1, if_true, if_false] <;> rfl) | (simp [sp_now, tKind, tMood, tPen, tAte, tHour, tTray, tAt, tRang, tCrack, tTak, tWay, cB, c_1] <;> rfl)))

abbrev rmX6_of : Room := { frames := 3, cells := 0, slots := 0, locals := 68 }
theorem hYX6_of : gY yX6_of wsX6_of cX6_of 3 (some .int) 2 := ⟨⟨_, rfl⟩, by decide +kernel, by decide +kernel, by decide +kernel⟩
theorem m1X6_of_c45 : Cond.constant RX6 45 (-1000000001) ∈ wsX6_of := by decide +kernel
theorem m1X6_of_c96 : Cond.constantLong RX6 96 (4) ∈ wsX6_of := by decide +kernel
set_option maxRecDepth 100000 in
set_option maxHeartbeats 4000000 in
theorem c_X6_of (l : Launch) (E : gE) (a : Nat → Nat) (c : Cor) (h : Mar) (h0 : Int32) (w0 : Int32) (hok : cOk c) : cti l yX6_of wsX6_of rmX6_of E [.ref (a 0), .int h0, .int w0] (mW E a c h) (fun r w => ∃ h', r = (sp_of c h0 w0).1 ∧ w = mW E a (sp_of c h0 w0).2 h') := by
  refine mt_i (cc := cX6_of) (maxL := 3) (ret := some .int) (lv0 := [(0, .ref (a 0)), (1, .int h0), (2, .int w0)]) (by decide) rfl rfl (Nat.le_of_ble_eq_true rfl) (fun X cx gr hI => ?_)
  refine g_iload_n cx dX6_of_0 1 rfl ?_
  refine g_SPi (rest := []) (As := [.int h0]) cx hYX6_isHouse gX6_of_X6_isHouse (c_X6_isHouse l E h0 ) ⟨Nat.le_of_ble_eq_true rfl, Nat.le_of_ble_eq_true rfl⟩ rfl rfl (Nat.le_of_ble_eq_true rfl) ⟨Nat.le_of_ble_eq_true rfl, Nat.le_of_ble_eq_true rfl⟩ dX6_of_1 ?_
  refine g_if_eq (tgt := 19) cx dX6_of_4 (by decide) (fun c_1 => ?_) (fun c_1 => ?_)
  · refine g_aload_n cx dX6_of_19 0 rfl ?_
    refine g_ldc cx m1X6_of_c45 dX6_of_20 ?_
    refine g_VSi (rest := []) (As := [.int (-1000000001)]) cx hYX6_finds gX6_of_X6_finds (c_X6_finds l E a c h (-1000000001) (by unfold vp_in; decide +kernel)) rfl rfl rfl ⟨Nat.le_of_ble_eq_true rfl, Nat.le_of_ble_eq_true rfl⟩ rfl rfl (Nat.le_of_ble_eq_true rfl) ⟨Nat.le_of_ble_eq_true rfl, Nat.le_of_ble_eq_true rfl⟩ dX6_of_22 (fun r w1 hp => ?_)
    obtain ⟨rfl, rfl⟩ := hp
    exact g_iret cx gr (Nat.zero_le _) (Nat.zero_le _) dX6_of_25 (mleaf (by first | (simp only [sp_of, tKind, tMood, tPen, tAte, tHour, tTray, tAt, tRang, tCrack, tTak, tWay, cB, c_1, if_true, if_false]; done) | (simp only [sp_of, tKind, tMood, tPen, tAte, tHour, tTray, tAt, tRang, tCrack, tTak, tWay, cB, c_1, if_true, if_false] <;> rfl) | (simp [sp_of, tKind, tMood, tPen, tAte, tHour, tTray, tAt, tRang, tCrack, tTak, tWay, cB, c_1] <;> rfl)))
  · refine g_iload_n cx dX6_of_7 2 rfl ?_
    refine g_i2l cx dX6_of_8 ?_
    refine g_lconst (v := 0) cx dX6_of_9 (by decide) ?_
    refine g_ldc2 cx m1X6_of_c96 dX6_of_10 ?_
    refine g_SPi (rest := []) (As := [.long w0.toInt64, .long 0, .long 4]) cx hYX6_in gX6_of_X6_in (c_X6_inW l E w0 0 4 0 4 (by decide) (by decide)) ⟨Nat.le_of_ble_eq_true rfl, Nat.le_of_ble_eq_true rfl⟩ rfl rfl (Nat.le_of_ble_eq_true rfl) ⟨Nat.le_of_ble_eq_true rfl, Nat.le_of_ble_eq_true rfl⟩ dX6_of_13 ?_
    refine g_if_ne (tgt := 26) cx dX6_of_16 (by decide) (fun c_2 => ?_) (fun c_2 => ?_)
    · refine g_iload_n cx dX6_of_26 2 rfl ?_
      refine g_iconst (v := 3) cx dX6_of_27 (by decide) ?_
      refine g_icmp_gt (tgt := 40) cx dX6_of_28 (by decide) (fun c_3 => ?_) (fun c_3 => ?_)
      · refine g_aload_n cx dX6_of_40 0 rfl ?_
        refine g_iload_n cx dX6_of_41 1 rfl ?_
        refine g_VSi (rest := []) (As := [.int h0]) cx hYX6_toneOf gX6_of_X6_toneOf (c_X6_toneOf l E a c h h0 (isW_vp 7 c_1 (by decide))) rfl rfl rfl ⟨Nat.le_of_ble_eq_true rfl, Nat.le_of_ble_eq_true rfl⟩ rfl rfl (Nat.le_of_ble_eq_true rfl) ⟨Nat.le_of_ble_eq_true rfl, Nat.le_of_ble_eq_true rfl⟩ dX6_of_42 (fun r w1 hp => ?_)
        obtain ⟨rfl, rfl⟩ := hp
        exact g_iret cx gr (Nat.zero_le _) (Nat.zero_le _) dX6_of_45 (mleaf (by first | (simp only [sp_of, tKind, tMood, tPen, tAte, tHour, tTray, tAt, tRang, tCrack, tTak, tWay, cB, c_1, c_2, c_3, if_true, if_false]; done) | (simp only [sp_of, tKind, tMood, tPen, tAte, tHour, tTray, tAt, tRang, tCrack, tTak, tWay, cB, c_1, c_2, c_3, if_true, if_false] <;> rfl) | (simp [sp_of, tKind, tMood, tPen, tAte, tHour, tTray, tAt, tRang, tCrack, tTak, tWay, cB, c_1, c_2, c_3] <;> rfl)))
      · refine g_aload_n cx dX6_of_31 0 rfl ?_
        refine g_iload_n cx dX6_of_32 1 rfl ?_
        refine g_iload_n cx dX6_of_33 2 rfl ?_
        refine g_VSi (rest := []) (As := [.int h0, .int w0]) cx hYX6_its gX6_of_X6_its (c_X6_its l E a c h h0 w0 (of_in c_1 c_2 c_3)) rfl rfl rfl ⟨Nat.le_of_ble_eq_true rfl, Nat.le_of_ble_eq_true rfl⟩ rfl rfl (Nat.le_of_ble_eq_true rfl) ⟨Nat.le_of_ble_eq_true rfl, Nat.le_of_ble_eq_true rfl⟩ dX6_of_34 (fun r w1 hp => ?_)
        obtain ⟨rfl, rfl⟩ := hp
        refine g_goto (tgt := 45) cx dX6_of_37 (by decide) ?_
        exact g_iret cx gr (Nat.zero_le _) (Nat.zero_le _) dX6_of_45 (mleaf (by first | (simp only [sp_of, tKind, tMood, tPen, tAte, tHour, tTray, tAt, tRang, tCrack, tTak, tWay, cB, c_1, c_2, c_3, if_true, if_false]; done) | (simp only [sp_of, tKind, tMood, tPen, tAte, tHour, tTray, tAt, tRang, tCrack, tTak, tWay, cB, c_1, c_2, c_3, if_true, if_false] <;> rfl) | (simp [sp_of, tKind, tMood, tPen, tAte, tHour, tTray, tAt, tRang, tCrack, tTak, tWay, cB, c_1, c_2, c_3] <;> rfl)))
    · refine g_aload_n cx dX6_of_19 0 rfl ?_
      refine g_ldc cx m1X6_of_c45 dX6_of_20 ?_
      refine g_VSi (rest := []) (As := [.int (-1000000001)]) cx hYX6_finds gX6_of_X6_finds (c_X6_finds l E a c h (-1000000001) (by unfold vp_in; decide +kernel)) rfl rfl rfl ⟨Nat.le_of_ble_eq_true rfl, Nat.le_of_ble_eq_true rfl⟩ rfl rfl (Nat.le_of_ble_eq_true rfl) ⟨Nat.le_of_ble_eq_true rfl, Nat.le_of_ble_eq_true rfl⟩ dX6_of_22 (fun r w1 hp => ?_)
      obtain ⟨rfl, rfl⟩ := hp
      exact g_iret cx gr (Nat.zero_le _) (Nat.zero_le _) dX6_of_25 (mleaf (by first | (simp only [sp_of, tKind, tMood, tPen, tAte, tHour, tTray, tAt, tRang, tCrack, tTak, tWay, cB, c_1, c_2, if_true, if_false]; done) | (simp only [sp_of, tKind, tMood, tPen, tAte, tHour, tTray, tAt, tRang, tCrack, tTak, tWay, cB, c_1, c_2, if_true, if_false] <;> rfl) | (simp [sp_of, tKind, tMood, tPen, tAte, tHour, tTray, tAt, tRang, tCrack, tTak, tWay, cB, c_1, c_2] <;> rfl)))

abbrev rmX6_minds : Room := { frames := 4, cells := 0, slots := 0, locals := 93 }
theorem hYX6_minds : gY yX6_minds wsX6_minds cX6_minds 3 (some .int) 2 := ⟨⟨_, rfl⟩, by decide +kernel, by decide +kernel, by decide +kernel⟩
theorem m1X6_minds_c45 : Cond.constant RX6 45 (-1000000001) ∈ wsX6_minds := by decide +kernel
set_option maxRecDepth 100000 in
set_option maxHeartbeats 4000000 in
theorem c_X6_minds (l : Launch) (E : gE) (a : Nat → Nat) (c : Cor) (h : Mar) (h0 : Int32) (t0 : Int32) (hok : cOk c) : cti l yX6_minds wsX6_minds rmX6_minds E [.ref (a 0), .int h0, .int t0] (mW E a c h) (fun r w => ∃ h', r = (sp_minds c h0 t0).1 ∧ w = mW E a (sp_minds c h0 t0).2 h') := by
  refine mt_i (cc := cX6_minds) (maxL := 3) (ret := some .int) (lv0 := [(0, .ref (a 0)), (1, .int h0), (2, .int t0)]) (by decide) rfl rfl (Nat.le_of_ble_eq_true rfl) (fun X cx gr hI => ?_)
  refine g_iload_n cx dX6_minds_0 1 rfl ?_
  refine g_SPi (rest := []) (As := [.int h0]) cx hYX6_isHouse gX6_minds_X6_isHouse (c_X6_isHouse l E h0 ) ⟨Nat.le_of_ble_eq_true rfl, Nat.le_of_ble_eq_true rfl⟩ rfl rfl (Nat.le_of_ble_eq_true rfl) ⟨Nat.le_of_ble_eq_true rfl, Nat.le_of_ble_eq_true rfl⟩ dX6_minds_1 ?_
  refine g_if_eq (tgt := 26) cx dX6_minds_4 (by decide) (fun c_1 => ?_) (fun c_1 => ?_)
  · refine g_aload_n cx dX6_minds_26 0 rfl ?_
    refine g_ldc cx m1X6_minds_c45 dX6_minds_27 ?_
    refine g_VSi (rest := []) (As := [.int (-1000000001)]) cx hYX6_finds gX6_minds_X6_finds (c_X6_finds l E a c h (-1000000001) (by unfold vp_in; decide +kernel)) rfl rfl rfl ⟨Nat.le_of_ble_eq_true rfl, Nat.le_of_ble_eq_true rfl⟩ rfl rfl (Nat.le_of_ble_eq_true rfl) ⟨Nat.le_of_ble_eq_true rfl, Nat.le_of_ble_eq_true rfl⟩ dX6_minds_29 (fun r w1 hp => ?_)
    obtain ⟨rfl, rfl⟩ := hp
    exact g_iret cx gr (Nat.zero_le _) (Nat.zero_le _) dX6_minds_32 (mleaf (by first | (simp only [sp_minds, tKind, tMood, tPen, tAte, tHour, tTray, tAt, tRang, tCrack, tTak, tWay, cB, c_1, if_true, if_false]; done) | (simp only [sp_minds, tKind, tMood, tPen, tAte, tHour, tTray, tAt, tRang, tCrack, tTak, tWay, cB, c_1, if_true, if_false] <;> rfl) | (simp [sp_minds, tKind, tMood, tPen, tAte, tHour, tTray, tAt, tRang, tCrack, tTak, tWay, cB, c_1] <;> rfl)))
  · refine g_iload_n cx dX6_minds_7 2 rfl ?_
    refine g_SPi (rest := []) (As := [.int t0]) cx hYX6_isTone gX6_minds_X6_isTone (c_X6_isTone l E t0 ) ⟨Nat.le_of_ble_eq_true rfl, Nat.le_of_ble_eq_true rfl⟩ rfl rfl (Nat.le_of_ble_eq_true rfl) ⟨Nat.le_of_ble_eq_true rfl, Nat.le_of_ble_eq_true rfl⟩ dX6_minds_8 ?_
    refine g_if_eq (tgt := 26) cx dX6_minds_11 (by decide) (fun c_2 => ?_) (fun c_2 => ?_)
    · refine g_aload_n cx dX6_minds_26 0 rfl ?_
      refine g_ldc cx m1X6_minds_c45 dX6_minds_27 ?_
      refine g_VSi (rest := []) (As := [.int (-1000000001)]) cx hYX6_finds gX6_minds_X6_finds (c_X6_finds l E a c h (-1000000001) (by unfold vp_in; decide +kernel)) rfl rfl rfl ⟨Nat.le_of_ble_eq_true rfl, Nat.le_of_ble_eq_true rfl⟩ rfl rfl (Nat.le_of_ble_eq_true rfl) ⟨Nat.le_of_ble_eq_true rfl, Nat.le_of_ble_eq_true rfl⟩ dX6_minds_29 (fun r w1 hp => ?_)
      obtain ⟨rfl, rfl⟩ := hp
      exact g_iret cx gr (Nat.zero_le _) (Nat.zero_le _) dX6_minds_32 (mleaf (by first | (simp only [sp_minds, tKind, tMood, tPen, tAte, tHour, tTray, tAt, tRang, tCrack, tTak, tWay, cB, c_1, c_2, if_true, if_false]; done) | (simp only [sp_minds, tKind, tMood, tPen, tAte, tHour, tTray, tAt, tRang, tCrack, tTak, tWay, cB, c_1, c_2, if_true, if_false] <;> rfl) | (simp [sp_minds, tKind, tMood, tPen, tAte, tHour, tTray, tAt, tRang, tCrack, tTak, tWay, cB, c_1, c_2] <;> rfl)))
    · refine g_bipush (v := 100) cx dX6_minds_14 (by decide) ?_
      refine g_aload_n cx dX6_minds_16 0 rfl ?_
      refine g_iload_n cx dX6_minds_17 1 rfl ?_
      refine g_iload_n cx dX6_minds_18 2 rfl ?_
      refine g_VSi (rest := [.int 100]) (As := [.int h0, .int t0]) cx hYX6_mindsOf gX6_minds_X6_mindsOf (c_X6_mindsOf l E a c h h0 t0 (isW_vp 7 c_1 (by decide))) rfl rfl rfl ⟨Nat.le_of_ble_eq_true rfl, Nat.le_of_ble_eq_true rfl⟩ rfl rfl (Nat.le_of_ble_eq_true rfl) ⟨Nat.le_of_ble_eq_true rfl, Nat.le_of_ble_eq_true rfl⟩ dX6_minds_19 (fun r w1 hp => ?_)
      obtain ⟨rfl, rfl⟩ := hp
      refine g_iadd cx dX6_minds_22 ?_
      refine g_goto (tgt := 32) cx dX6_minds_23 (by decide) ?_
      exact g_iret cx gr (Nat.zero_le _) (Nat.zero_le _) dX6_minds_32 (mleaf (by first | (simp only [sp_minds, tKind, tMood, tPen, tAte, tHour, tTray, tAt, tRang, tCrack, tTak, tWay, cB, c_1, c_2, if_true, if_false]; done) | (simp only [sp_minds, tKind, tMood, tPen, tAte, tHour, tTray, tAt, tRang, tCrack, tTak, tWay, cB, c_1, c_2, if_true, if_false] <;> rfl) | (simp [sp_minds, tKind, tMood, tPen, tAte, tHour, tTray, tAt, tRang, tCrack, tTak, tWay, cB, c_1, c_2] <;> rfl)))

abbrev rmX6_buys : Room := { frames := 4, cells := 0, slots := 0, locals := 89 }
theorem hYX6_buys : gY yX6_buys wsX6_buys cX6_buys 3 (some .int) 2 := ⟨⟨_, rfl⟩, by decide +kernel, by decide +kernel, by decide +kernel⟩
theorem m1X6_buys_c45 : Cond.constant RX6 45 (-1000000001) ∈ wsX6_buys := by decide +kernel
set_option maxRecDepth 100000 in
set_option maxHeartbeats 4000000 in
theorem c_X6_buys (l : Launch) (E : gE) (a : Nat → Nat) (c : Cor) (h : Mar) (h0 : Int32) (t0 : Int32) (hok : cOk c) : cti l yX6_buys wsX6_buys rmX6_buys E [.ref (a 0), .int h0, .int t0] (mW E a c h) (fun r w => ∃ h', r = (sp_buys c h0 t0).1 ∧ w = mW E a (sp_buys c h0 t0).2 h') := by
  refine mt_i (cc := cX6_buys) (maxL := 3) (ret := some .int) (lv0 := [(0, .ref (a 0)), (1, .int h0), (2, .int t0)]) (by decide) rfl rfl (Nat.le_of_ble_eq_true rfl) (fun X cx gr hI => ?_)
  refine g_iload_n cx dX6_buys_0 1 rfl ?_
  refine g_SPi (rest := []) (As := [.int h0]) cx hYX6_isHouse gX6_buys_X6_isHouse (c_X6_isHouse l E h0 ) ⟨Nat.le_of_ble_eq_true rfl, Nat.le_of_ble_eq_true rfl⟩ rfl rfl (Nat.le_of_ble_eq_true rfl) ⟨Nat.le_of_ble_eq_true rfl, Nat.le_of_ble_eq_true rfl⟩ dX6_buys_1 ?_
  refine g_if_eq (tgt := 23) cx dX6_buys_4 (by decide) (fun c_1 => ?_) (fun c_1 => ?_)
  · refine g_aload_n cx dX6_buys_23 0 rfl ?_
    refine g_ldc cx m1X6_buys_c45 dX6_buys_24 ?_
    refine g_VSi (rest := []) (As := [.int (-1000000001)]) cx hYX6_finds gX6_buys_X6_finds (c_X6_finds l E a c h (-1000000001) (by unfold vp_in; decide +kernel)) rfl rfl rfl ⟨Nat.le_of_ble_eq_true rfl, Nat.le_of_ble_eq_true rfl⟩ rfl rfl (Nat.le_of_ble_eq_true rfl) ⟨Nat.le_of_ble_eq_true rfl, Nat.le_of_ble_eq_true rfl⟩ dX6_buys_26 (fun r w1 hp => ?_)
    obtain ⟨rfl, rfl⟩ := hp
    exact g_iret cx gr (Nat.zero_le _) (Nat.zero_le _) dX6_buys_29 (mleaf (by first | (simp only [sp_buys, tKind, tMood, tPen, tAte, tHour, tTray, tAt, tRang, tCrack, tTak, tWay, cB, c_1, if_true, if_false]; done) | (simp only [sp_buys, tKind, tMood, tPen, tAte, tHour, tTray, tAt, tRang, tCrack, tTak, tWay, cB, c_1, if_true, if_false] <;> rfl) | (simp [sp_buys, tKind, tMood, tPen, tAte, tHour, tTray, tAt, tRang, tCrack, tTak, tWay, cB, c_1] <;> rfl)))
  · refine g_iload_n cx dX6_buys_7 2 rfl ?_
    refine g_SPi (rest := []) (As := [.int t0]) cx hYX6_isTone gX6_buys_X6_isTone (c_X6_isTone l E t0 ) ⟨Nat.le_of_ble_eq_true rfl, Nat.le_of_ble_eq_true rfl⟩ rfl rfl (Nat.le_of_ble_eq_true rfl) ⟨Nat.le_of_ble_eq_true rfl, Nat.le_of_ble_eq_true rfl⟩ dX6_buys_8 ?_
    refine g_if_eq (tgt := 23) cx dX6_buys_11 (by decide) (fun c_2 => ?_) (fun c_2 => ?_)
    · refine g_aload_n cx dX6_buys_23 0 rfl ?_
      refine g_ldc cx m1X6_buys_c45 dX6_buys_24 ?_
      refine g_VSi (rest := []) (As := [.int (-1000000001)]) cx hYX6_finds gX6_buys_X6_finds (c_X6_finds l E a c h (-1000000001) (by unfold vp_in; decide +kernel)) rfl rfl rfl ⟨Nat.le_of_ble_eq_true rfl, Nat.le_of_ble_eq_true rfl⟩ rfl rfl (Nat.le_of_ble_eq_true rfl) ⟨Nat.le_of_ble_eq_true rfl, Nat.le_of_ble_eq_true rfl⟩ dX6_buys_26 (fun r w1 hp => ?_)
      obtain ⟨rfl, rfl⟩ := hp
      exact g_iret cx gr (Nat.zero_le _) (Nat.zero_le _) dX6_buys_29 (mleaf (by first | (simp only [sp_buys, tKind, tMood, tPen, tAte, tHour, tTray, tAt, tRang, tCrack, tTak, tWay, cB, c_1, c_2, if_true, if_false]; done) | (simp only [sp_buys, tKind, tMood, tPen, tAte, tHour, tTray, tAt, tRang, tCrack, tTak, tWay, cB, c_1, c_2, if_true, if_false] <;> rfl) | (simp [sp_buys, tKind, tMood, tPen, tAte, tHour, tTray, tAt, tRang, tCrack, tTak, tWay, cB, c_1, c_2] <;> rfl)))
    · refine g_aload_n cx dX6_buys_14 0 rfl ?_
      refine g_iload_n cx dX6_buys_15 1 rfl ?_
      refine g_iload_n cx dX6_buys_16 2 rfl ?_
      refine g_VSi (rest := []) (As := [.int h0, .int t0]) cx hYX6_buysOf gX6_buys_X6_buysOf (c_X6_buysOf l E a c h h0 t0 (isW_vp 7 c_1 (by decide))) rfl rfl rfl ⟨Nat.le_of_ble_eq_true rfl, Nat.le_of_ble_eq_true rfl⟩ rfl rfl (Nat.le_of_ble_eq_true rfl) ⟨Nat.le_of_ble_eq_true rfl, Nat.le_of_ble_eq_true rfl⟩ dX6_buys_17 (fun r w1 hp => ?_)
      obtain ⟨rfl, rfl⟩ := hp
      refine g_goto (tgt := 29) cx dX6_buys_20 (by decide) ?_
      exact g_iret cx gr (Nat.zero_le _) (Nat.zero_le _) dX6_buys_29 (mleaf (by first | (simp only [sp_buys, tKind, tMood, tPen, tAte, tHour, tTray, tAt, tRang, tCrack, tTak, tWay, cB, c_1, c_2, if_true, if_false]; done) | (simp only [sp_buys, tKind, tMood, tPen, tAte, tHour, tTray, tAt, tRang, tCrack, tTak, tWay, cB, c_1, c_2, if_true, if_false] <;> rfl) | (simp [sp_buys, tKind, tMood, tPen, tAte, tHour, tTray, tAt, tRang, tCrack, tTak, tWay, cB, c_1, c_2] <;> rfl)))

abbrev rmX6_set : Room := { frames := 2, cells := 0, slots := 0, locals := 45 }
theorem hYX6_set : gY yX6_set wsX6_set cX6_set 5 (some .int) 3 := ⟨⟨_, rfl⟩, by decide +kernel, by decide +kernel, by decide +kernel⟩
theorem m1X6_set_c107 : Cond.constantLong RX6 107 (3) ∈ wsX6_set := by decide +kernel
theorem m1X6_set_c45 : Cond.constant RX6 45 (-1000000001) ∈ wsX6_set := by decide +kernel
theorem m1X6_set_c111 : Cond.constantLong RX6 111 (9999) ∈ wsX6_set := by decide +kernel
theorem m1X6_set_c60 : Cond.constantLong RX6 60 (999) ∈ wsX6_set := by decide +kernel
theorem m1X6_set_c109 : Cond.constantLong RX6 109 (20) ∈ wsX6_set := by decide +kernel
set_option maxRecDepth 100000 in
set_option maxHeartbeats 4000000 in
theorem c_X6_set (l : Launch) (E : gE) (a : Nat → Nat) (c : Cor) (h : Mar) (h0 : Int32) (w0 : Int32) (v0 : Int32) (hok : cOk c) : cti l yX6_set wsX6_set rmX6_set E [.ref (a 0), .int h0, .int w0, .int v0] (mW E a c h) (fun r w => ∃ h', r = (sp_set c h0 w0 v0).1 ∧ w = mW E a (sp_set c h0 w0 v0).2 h') := by
  refine mt_i (cc := cX6_set) (maxL := 5) (ret := some .int) (lv0 := [(0, .ref (a 0)), (1, .int h0), (2, .int w0), (3, .int v0)]) (by decide) rfl rfl (Nat.le_of_ble_eq_true rfl) (fun X cx gr hI => ?_)
  refine g_iload_n cx dX6_set_0 2 rfl ?_
  refine g_i2l cx dX6_set_1 ?_
  refine g_lconst (v := 1) cx dX6_set_2 (by decide) ?_
  refine g_ldc2 cx m1X6_set_c107 dX6_set_3 ?_
  refine g_SPi (rest := []) (As := [.long w0.toInt64, .long 1, .long 3]) cx hYX6_in gX6_set_X6_in (c_X6_inW l E w0 1 3 1 3 (by decide) (by decide)) ⟨Nat.le_of_ble_eq_true rfl, Nat.le_of_ble_eq_true rfl⟩ rfl rfl (Nat.le_of_ble_eq_true rfl) ⟨Nat.le_of_ble_eq_true rfl, Nat.le_of_ble_eq_true rfl⟩ dX6_set_6 ?_
  refine g_if_eq (tgt := 50) cx dX6_set_9 (by decide) (fun c_1 => ?_) (fun c_1 => ?_)
  · refine g_iconst (v := 0) cx dX6_set_50 (by decide) ?_
    refine g_istore (lv' := [(4, .int 0), (0, .ref (a 0)), (1, .int h0), (2, .int w0), (3, .int v0)]) cx dX6_set_51 (by decide) rfl ?_
    refine g_iload_n cx dX6_set_53 2 rfl ?_
    refine g_SPi (rest := []) (As := [.int h0]) cx hYX6_isHouse gX6_set_X6_isHouse (c_X6_isHouse l E h0 ) ⟨Nat.le_of_ble_eq_true rfl, Nat.le_of_ble_eq_true rfl⟩ rfl rfl (Nat.le_of_ble_eq_true rfl) ⟨Nat.le_of_ble_eq_true rfl, Nat.le_of_ble_eq_true rfl⟩ dX6_set_54 ?_
    refine g_if_eq (tgt := 78) cx dX6_set_57 (by decide) (fun c_2 => ?_) (fun c_2 => ?_)
    · refine g_aload_n cx dX6_set_78 1 rfl ?_
      refine g_ldc cx m1X6_set_c45 dX6_set_79 ?_
      refine g_VSi (rest := []) (As := [.int (-1000000001)]) cx hYX6_finds gX6_set_X6_finds (c_X6_finds l E a c h (-1000000001) (by unfold vp_in; decide +kernel)) rfl rfl rfl ⟨Nat.le_of_ble_eq_true rfl, Nat.le_of_ble_eq_true rfl⟩ rfl rfl (Nat.le_of_ble_eq_true rfl) ⟨Nat.le_of_ble_eq_true rfl, Nat.le_of_ble_eq_true rfl⟩ dX6_set_81 (fun r w1 hp => ?_)
      obtain ⟨rfl, rfl⟩ := hp
      exact g_iret cx gr (Nat.zero_le _) (Nat.zero_le _) dX6_set_84 (mleaf (by rw [sp_set, if_pos c_2]; rfl))
    · refine g_iload cx dX6_set_60 0 rfl ?_
      refine g_if_eq (tgt := 78) cx dX6_set_62 (by decide) (fun c_3 => ?_) (fun c_3 => absurd ((by decide)) c_3)
      refine g_aload_n cx dX6_set_78 1 rfl ?_
      refine g_ldc cx m1X6_set_c45 dX6_set_79 ?_
      refine g_VSi (rest := []) (As := [.int (-1000000001)]) cx hYX6_finds gX6_set_X6_finds (c_X6_finds l E a c h (-1000000001) (by unfold vp_in; decide +kernel)) rfl rfl rfl ⟨Nat.le_of_ble_eq_true rfl, Nat.le_of_ble_eq_true rfl⟩ rfl rfl (Nat.le_of_ble_eq_true rfl) ⟨Nat.le_of_ble_eq_true rfl, Nat.le_of_ble_eq_true rfl⟩ dX6_set_81 (fun r w1 hp => ?_)
      obtain ⟨rfl, rfl⟩ := hp
      exact g_iret cx gr (Nat.zero_le _) (Nat.zero_le _) dX6_set_84 (mleaf (by rw [sp_set, if_neg c_2, if_pos c_1]; rfl))
  · refine g_iload_n cx dX6_set_12 3 rfl ?_
    refine g_i2l cx dX6_set_13 ?_
    refine g_lconst (v := 0) cx dX6_set_14 (by decide) ?_
    refine g_iload_n cx dX6_set_15 2 rfl ?_
    refine g_iconst (v := 1) cx dX6_set_16 (by decide) ?_
    have J40_3 : gG X 0 0 (mW E a c h) 40 [(0, .ref (a 0)), (1, .int h0), (2, .int w0), (3, .int v0)] (.long ((setLim w0).toInt64) :: .long 0 :: .long v0.toInt64 :: []) := by
      refine g_SPi (rest := []) (As := [.long v0.toInt64, .long 0, .long ((setLim w0).toInt64)]) cx hYX6_in gX6_set_X6_in (c_X6_inW l E v0 0 (setLim w0) 0 ((setLim w0).toInt64) (by decide) rfl) ⟨Nat.le_of_ble_eq_true rfl, Nat.le_of_ble_eq_true rfl⟩ rfl rfl (Nat.le_of_ble_eq_true rfl) ⟨Nat.le_of_ble_eq_true rfl, Nat.le_of_ble_eq_true rfl⟩ dX6_set_40 ?_
      refine g_if_eq (tgt := 50) cx dX6_set_43 (by decide) (fun c_5 => ?_) (fun c_5 => ?_)
      · refine g_iconst (v := 0) cx dX6_set_50 (by decide) ?_
        refine g_istore (lv' := [(4, .int 0), (0, .ref (a 0)), (1, .int h0), (2, .int w0), (3, .int v0)]) cx dX6_set_51 (by decide) rfl ?_
        refine g_iload_n cx dX6_set_53 2 rfl ?_
        refine g_SPi (rest := []) (As := [.int h0]) cx hYX6_isHouse gX6_set_X6_isHouse (c_X6_isHouse l E h0 ) ⟨Nat.le_of_ble_eq_true rfl, Nat.le_of_ble_eq_true rfl⟩ rfl rfl (Nat.le_of_ble_eq_true rfl) ⟨Nat.le_of_ble_eq_true rfl, Nat.le_of_ble_eq_true rfl⟩ dX6_set_54 ?_
        refine g_if_eq (tgt := 78) cx dX6_set_57 (by decide) (fun c_6 => ?_) (fun c_6 => ?_)
        · refine g_aload_n cx dX6_set_78 1 rfl ?_
          refine g_ldc cx m1X6_set_c45 dX6_set_79 ?_
          refine g_VSi (rest := []) (As := [.int (-1000000001)]) cx hYX6_finds gX6_set_X6_finds (c_X6_finds l E a c h (-1000000001) (by unfold vp_in; decide +kernel)) rfl rfl rfl ⟨Nat.le_of_ble_eq_true rfl, Nat.le_of_ble_eq_true rfl⟩ rfl rfl (Nat.le_of_ble_eq_true rfl) ⟨Nat.le_of_ble_eq_true rfl, Nat.le_of_ble_eq_true rfl⟩ dX6_set_81 (fun r w1 hp => ?_)
          obtain ⟨rfl, rfl⟩ := hp
          exact g_iret cx gr (Nat.zero_le _) (Nat.zero_le _) dX6_set_84 (mleaf (by rw [sp_set, if_pos c_6]; rfl))
        · refine g_iload cx dX6_set_60 0 rfl ?_
          refine g_if_eq (tgt := 78) cx dX6_set_62 (by decide) (fun c_7 => ?_) (fun c_7 => absurd ((by decide)) c_7)
          refine g_aload_n cx dX6_set_78 1 rfl ?_
          refine g_ldc cx m1X6_set_c45 dX6_set_79 ?_
          refine g_VSi (rest := []) (As := [.int (-1000000001)]) cx hYX6_finds gX6_set_X6_finds (c_X6_finds l E a c h (-1000000001) (by unfold vp_in; decide +kernel)) rfl rfl rfl ⟨Nat.le_of_ble_eq_true rfl, Nat.le_of_ble_eq_true rfl⟩ rfl rfl (Nat.le_of_ble_eq_true rfl) ⟨Nat.le_of_ble_eq_true rfl, Nat.le_of_ble_eq_true rfl⟩ dX6_set_81 (fun r w1 hp => ?_)
          obtain ⟨rfl, rfl⟩ := hp
          exact g_iret cx gr (Nat.zero_le _) (Nat.zero_le _) dX6_set_84 (mleaf (by rw [sp_set, if_neg c_6, if_neg c_1, if_pos c_5]; rfl))
      · refine g_iconst (v := 1) cx dX6_set_46 (by decide) ?_
        refine g_goto (tgt := 51) cx dX6_set_47 (by decide) ?_
        refine g_istore (lv' := [(4, .int 1), (0, .ref (a 0)), (1, .int h0), (2, .int w0), (3, .int v0)]) cx dX6_set_51 (by decide) rfl ?_
        refine g_iload_n cx dX6_set_53 2 rfl ?_
        refine g_SPi (rest := []) (As := [.int h0]) cx hYX6_isHouse gX6_set_X6_isHouse (c_X6_isHouse l E h0 ) ⟨Nat.le_of_ble_eq_true rfl, Nat.le_of_ble_eq_true rfl⟩ rfl rfl (Nat.le_of_ble_eq_true rfl) ⟨Nat.le_of_ble_eq_true rfl, Nat.le_of_ble_eq_true rfl⟩ dX6_set_54 ?_
        refine g_if_eq (tgt := 78) cx dX6_set_57 (by decide) (fun c_8 => ?_) (fun c_8 => ?_)
        · refine g_aload_n cx dX6_set_78 1 rfl ?_
          refine g_ldc cx m1X6_set_c45 dX6_set_79 ?_
          refine g_VSi (rest := []) (As := [.int (-1000000001)]) cx hYX6_finds gX6_set_X6_finds (c_X6_finds l E a c h (-1000000001) (by unfold vp_in; decide +kernel)) rfl rfl rfl ⟨Nat.le_of_ble_eq_true rfl, Nat.le_of_ble_eq_true rfl⟩ rfl rfl (Nat.le_of_ble_eq_true rfl) ⟨Nat.le_of_ble_eq_true rfl, Nat.le_of_ble_eq_true rfl⟩ dX6_set_81 (fun r w1 hp => ?_)
          obtain ⟨rfl, rfl⟩ := hp
          exact g_iret cx gr (Nat.zero_le _) (Nat.zero_le _) dX6_set_84 (mleaf (by rw [sp_set, if_pos c_8]; rfl))
        · refine g_iload cx dX6_set_60 0 rfl ?_
          refine g_if_eq (tgt := 78) cx dX6_set_62 (by decide) (fun c_9 => absurd c_9 ((by decide))) (fun c_9 => ?_)
          refine g_aload_n cx dX6_set_65 1 rfl ?_
          refine g_iload_n cx dX6_set_66 2 rfl ?_
          refine g_iload_n cx dX6_set_67 3 rfl ?_
          refine g_SPi (rest := [.ref (a 0)]) (As := [.int h0, .int w0]) cx hYX6_spotOf gX6_set_X6_spotOf (c_X6_spotOf l E h0 w0 ) ⟨Nat.le_of_ble_eq_true rfl, Nat.le_of_ble_eq_true rfl⟩ rfl rfl (Nat.le_of_ble_eq_true rfl) ⟨Nat.le_of_ble_eq_true rfl, Nat.le_of_ble_eq_true rfl⟩ dX6_set_68 ?_
          refine g_iload_n cx dX6_set_71 4 rfl ?_
          refine g_VSi (rest := []) (As := [.int (spot h0 w0), .int v0]) cx hYX6_becomes gX6_set_X6_becomes (c_X6_becomes l E a c h (spot h0 w0) v0 (set_in c_8 c_1)) rfl rfl rfl ⟨Nat.le_of_ble_eq_true rfl, Nat.le_of_ble_eq_true rfl⟩ rfl rfl (Nat.le_of_ble_eq_true rfl) ⟨Nat.le_of_ble_eq_true rfl, Nat.le_of_ble_eq_true rfl⟩ dX6_set_72 (fun r w1 hp => ?_)
          obtain ⟨rfl, rfl⟩ := hp
          refine g_goto (tgt := 84) cx dX6_set_75 (by decide) ?_
          exact g_iret cx gr (Nat.zero_le _) (Nat.zero_le _) dX6_set_84 (mleaf (by rw [sp_set, if_neg c_8, if_neg c_1, if_neg c_5]))
    refine g_icmp_ne (tgt := 26) cx dX6_set_17 (by decide) (fun c_10 => ?_) (fun c_10 => ?_)
    · refine g_iload_n cx dX6_set_26 2 rfl ?_
      refine g_iconst (v := 2) cx dX6_set_27 (by decide) ?_
      refine g_icmp_ne (tgt := 37) cx dX6_set_28 (by decide) (fun c_11 => ?_) (fun c_11 => ?_)
      · refine g_ldc2 cx m1X6_set_c111 dX6_set_37 ?_
        exact g_topl (show (9999 : Int64) = (setLim w0).toInt64 from by simp only [setLim, c_1, c_10, c_11, if_true, if_false, ite_true, ite_false, not_true_eq_false, not_false_eq_true] <;> rfl) J40_3
      · refine g_ldc2 cx m1X6_set_c60 dX6_set_31 ?_
        refine g_goto (tgt := 40) cx dX6_set_34 (by decide) ?_
        exact g_topl (show (999 : Int64) = (setLim w0).toInt64 from by simp only [setLim, c_1, c_10, c_11, if_true, if_false, ite_true, ite_false, not_true_eq_false, not_false_eq_true] <;> rfl) J40_3
    · refine g_ldc2 cx m1X6_set_c109 dX6_set_20 ?_
      refine g_goto (tgt := 40) cx dX6_set_23 (by decide) ?_
      exact g_topl (show (20 : Int64) = (setLim w0).toInt64 from by simp only [setLim, c_1, c_10, if_true, if_false, ite_true, ite_false, not_true_eq_false, not_false_eq_true] <;> rfl) J40_3

abbrev rmX6_turn : Room := { frames := 2, cells := 0, slots := 0, locals := 45 }
theorem hYX6_turn : gY yX6_turn wsX6_turn cX6_turn 3 (some .int) 2 := ⟨⟨_, rfl⟩, by decide +kernel, by decide +kernel, by decide +kernel⟩
theorem m1X6_turn_c45 : Cond.constant RX6 45 (-1000000001) ∈ wsX6_turn := by decide +kernel
set_option maxRecDepth 100000 in
set_option maxHeartbeats 4000000 in
theorem c_X6_turn (l : Launch) (E : gE) (a : Nat → Nat) (c : Cor) (h : Mar) (h0 : Int32) (k0 : Int32) (hok : cOk c) : cti l yX6_turn wsX6_turn rmX6_turn E [.ref (a 0), .int h0, .int k0] (mW E a c h) (fun r w => ∃ h', r = (sp_turn c h0 k0).1 ∧ w = mW E a (sp_turn c h0 k0).2 h') := by
  refine mt_i (cc := cX6_turn) (maxL := 3) (ret := some .int) (lv0 := [(0, .ref (a 0)), (1, .int h0), (2, .int k0)]) (by decide) rfl rfl (Nat.le_of_ble_eq_true rfl) (fun X cx gr hI => ?_)
  refine g_iload_n cx dX6_turn_0 1 rfl ?_
  refine g_SPi (rest := []) (As := [.int h0]) cx hYX6_isHouse gX6_turn_X6_isHouse (c_X6_isHouse l E h0 ) ⟨Nat.le_of_ble_eq_true rfl, Nat.le_of_ble_eq_true rfl⟩ rfl rfl (Nat.le_of_ble_eq_true rfl) ⟨Nat.le_of_ble_eq_true rfl, Nat.le_of_ble_eq_true rfl⟩ dX6_turn_1 ?_
  refine g_if_eq (tgt := 27) cx dX6_turn_4 (by decide) (fun c_1 => ?_) (fun c_1 => ?_)
  · refine g_aload_n cx dX6_turn_27 0 rfl ?_
    refine g_ldc cx m1X6_turn_c45 dX6_turn_28 ?_
    refine g_VSi (rest := []) (As := [.int (-1000000001)]) cx hYX6_finds gX6_turn_X6_finds (c_X6_finds l E a c h (-1000000001) (by unfold vp_in; decide +kernel)) rfl rfl rfl ⟨Nat.le_of_ble_eq_true rfl, Nat.le_of_ble_eq_true rfl⟩ rfl rfl (Nat.le_of_ble_eq_true rfl) ⟨Nat.le_of_ble_eq_true rfl, Nat.le_of_ble_eq_true rfl⟩ dX6_turn_30 (fun r w1 hp => ?_)
    obtain ⟨rfl, rfl⟩ := hp
    exact g_iret cx gr (Nat.zero_le _) (Nat.zero_le _) dX6_turn_33 (mleaf (by first | (simp only [sp_turn, tKind, tMood, tPen, tAte, tHour, tTray, tAt, tRang, tCrack, tTak, tWay, cB, c_1, if_true, if_false]; done) | (simp only [sp_turn, tKind, tMood, tPen, tAte, tHour, tTray, tAt, tRang, tCrack, tTak, tWay, cB, c_1, if_true, if_false] <;> rfl) | (simp [sp_turn, tKind, tMood, tPen, tAte, tHour, tTray, tAt, tRang, tCrack, tTak, tWay, cB, c_1] <;> rfl)))
  · refine g_iload_n cx dX6_turn_7 2 rfl ?_
    refine g_SPi (rest := []) (As := [.int k0]) cx hYX6_isKind gX6_turn_X6_isKind (c_X6_isKind l E k0 ) ⟨Nat.le_of_ble_eq_true rfl, Nat.le_of_ble_eq_true rfl⟩ rfl rfl (Nat.le_of_ble_eq_true rfl) ⟨Nat.le_of_ble_eq_true rfl, Nat.le_of_ble_eq_true rfl⟩ dX6_turn_8 ?_
    refine g_if_eq (tgt := 27) cx dX6_turn_11 (by decide) (fun c_2 => ?_) (fun c_2 => ?_)
    · refine g_aload_n cx dX6_turn_27 0 rfl ?_
      refine g_ldc cx m1X6_turn_c45 dX6_turn_28 ?_
      refine g_VSi (rest := []) (As := [.int (-1000000001)]) cx hYX6_finds gX6_turn_X6_finds (c_X6_finds l E a c h (-1000000001) (by unfold vp_in; decide +kernel)) rfl rfl rfl ⟨Nat.le_of_ble_eq_true rfl, Nat.le_of_ble_eq_true rfl⟩ rfl rfl (Nat.le_of_ble_eq_true rfl) ⟨Nat.le_of_ble_eq_true rfl, Nat.le_of_ble_eq_true rfl⟩ dX6_turn_30 (fun r w1 hp => ?_)
      obtain ⟨rfl, rfl⟩ := hp
      exact g_iret cx gr (Nat.zero_le _) (Nat.zero_le _) dX6_turn_33 (mleaf (by first | (simp only [sp_turn, tKind, tMood, tPen, tAte, tHour, tTray, tAt, tRang, tCrack, tTak, tWay, cB, c_1, c_2, if_true, if_false]; done) | (simp only [sp_turn, tKind, tMood, tPen, tAte, tHour, tTray, tAt, tRang, tCrack, tTak, tWay, cB, c_1, c_2, if_true, if_false] <;> rfl) | (simp [sp_turn, tKind, tMood, tPen, tAte, tHour, tTray, tAt, tRang, tCrack, tTak, tWay, cB, c_1, c_2] <;> rfl)))
    · refine g_aload_n cx dX6_turn_14 0 rfl ?_
      refine g_iload_n cx dX6_turn_15 1 rfl ?_
      refine g_iconst (v := 0) cx dX6_turn_16 (by decide) ?_
      refine g_SPi (rest := [.ref (a 0)]) (As := [.int h0, .int 0]) cx hYX6_spotOf gX6_turn_X6_spotOf (c_X6_spotOf l E h0 0 ) ⟨Nat.le_of_ble_eq_true rfl, Nat.le_of_ble_eq_true rfl⟩ rfl rfl (Nat.le_of_ble_eq_true rfl) ⟨Nat.le_of_ble_eq_true rfl, Nat.le_of_ble_eq_true rfl⟩ dX6_turn_17 ?_
      refine g_iload_n cx dX6_turn_20 2 rfl ?_
      refine g_VSi (rest := []) (As := [.int (spot h0 0), .int k0]) cx hYX6_becomes gX6_turn_X6_becomes (c_X6_becomes l E a c h (spot h0 0) k0 (si_K (isW_vp 7 c_1 (by decide)))) rfl rfl rfl ⟨Nat.le_of_ble_eq_true rfl, Nat.le_of_ble_eq_true rfl⟩ rfl rfl (Nat.le_of_ble_eq_true rfl) ⟨Nat.le_of_ble_eq_true rfl, Nat.le_of_ble_eq_true rfl⟩ dX6_turn_21 (fun r w1 hp => ?_)
      obtain ⟨rfl, rfl⟩ := hp
      refine g_goto (tgt := 33) cx dX6_turn_24 (by decide) ?_
      exact g_iret cx gr (Nat.zero_le _) (Nat.zero_le _) dX6_turn_33 (mleaf (by first | (simp only [sp_turn, tKind, tMood, tPen, tAte, tHour, tTray, tAt, tRang, tCrack, tTak, tWay, cB, c_1, c_2, if_true, if_false]; done) | (simp only [sp_turn, tKind, tMood, tPen, tAte, tHour, tTray, tAt, tRang, tCrack, tTak, tWay, cB, c_1, c_2, if_true, if_false] <;> rfl) | (simp [sp_turn, tKind, tMood, tPen, tAte, tHour, tTray, tAt, tRang, tCrack, tTak, tWay, cB, c_1, c_2] <;> rfl)))

def isUn (k o : Int32) : Int32 := if o = 0 then 1 else if k = o then 1 else if k ≤ 3 then 0 else if k - 3 = o then 1 else 0

abbrev rmX6_isUnder : Room := { frames := 0, cells := 0, slots := 0, locals := 0 }
theorem hYX6_isUnder : gY yX6_isUnder wsX6_isUnder cX6_isUnder 2 (some .boolean) 2 := ⟨⟨_, rfl⟩, by decide +kernel, by decide +kernel, by decide +kernel⟩
set_option maxRecDepth 100000 in
set_option maxHeartbeats 4000000 in
theorem c_X6_isUnder (l : Launch) (E : gE) (k0 : Int32) (o0 : Int32) : cti l yX6_isUnder wsX6_isUnder rmX6_isUnder E [.int k0, .int o0] [] (fun r w => r = isUn k0 o0 ∧ w = []) := by
  refine mt_i (cc := cX6_isUnder) (maxL := 2) (ret := some .boolean) (lv0 := [(0, .int k0), (1, .int o0)]) (by decide) rfl rfl (Nat.le_of_ble_eq_true rfl) (fun X cx gr hI => ?_)
  refine g_iload_n cx dX6_isUnder_0 1 rfl ?_
  refine g_if_eq (tgt := 21) cx dX6_isUnder_1 (by decide) (fun c_1 => ?_) (fun c_1 => ?_)
  · refine g_iconst (v := 1) cx dX6_isUnder_21 (by decide) ?_
    refine g_goto (tgt := 26) cx dX6_isUnder_22 (by decide) ?_
    exact g_zret cx gr rfl (Nat.zero_le _) (Nat.zero_le _) dX6_isUnder_26 ⟨by first | rfl | (simp only [isUn, c_1, if_true, if_false]; done) | simp [isUn, c_1], rfl⟩
  · refine g_iload_n cx dX6_isUnder_4 0 rfl ?_
    refine g_iload_n cx dX6_isUnder_5 1 rfl ?_
    refine g_icmp_eq (tgt := 21) cx dX6_isUnder_6 (by decide) (fun c_2 => ?_) (fun c_2 => ?_)
    · refine g_iconst (v := 1) cx dX6_isUnder_21 (by decide) ?_
      refine g_goto (tgt := 26) cx dX6_isUnder_22 (by decide) ?_
      exact g_zret cx gr rfl (Nat.zero_le _) (Nat.zero_le _) dX6_isUnder_26 ⟨by first | rfl | (simp only [isUn, c_1, c_2, if_true, if_false]; done) | simp [isUn, c_1, c_2], rfl⟩
    · refine g_iload_n cx dX6_isUnder_9 0 rfl ?_
      refine g_iconst (v := 3) cx dX6_isUnder_10 (by decide) ?_
      refine g_icmp_le (tgt := 25) cx dX6_isUnder_11 (by decide) (fun c_3 => ?_) (fun c_3 => ?_)
      · refine g_iconst (v := 0) cx dX6_isUnder_25 (by decide) ?_
        exact g_zret cx gr rfl (Nat.zero_le _) (Nat.zero_le _) dX6_isUnder_26 ⟨by first | rfl | (simp only [isUn, c_1, c_2, c_3, if_true, if_false]; done) | simp [isUn, c_1, c_2, c_3], rfl⟩
      · refine g_iload_n cx dX6_isUnder_14 0 rfl ?_
        refine g_iconst (v := 3) cx dX6_isUnder_15 (by decide) ?_
        refine g_isub cx dX6_isUnder_16 ?_
        refine g_iload_n cx dX6_isUnder_17 1 rfl ?_
        refine g_icmp_ne (tgt := 25) cx dX6_isUnder_18 (by decide) (fun c_4 => ?_) (fun c_4 => ?_)
        · refine g_iconst (v := 0) cx dX6_isUnder_25 (by decide) ?_
          exact g_zret cx gr rfl (Nat.zero_le _) (Nat.zero_le _) dX6_isUnder_26 ⟨by first | rfl | (simp only [isUn, c_1, c_2, c_3, c_4, if_true, if_false]; done) | simp [isUn, c_1, c_2, c_3, c_4], rfl⟩
        · refine g_iconst (v := 1) cx dX6_isUnder_21 (by decide) ?_
          refine g_goto (tgt := 26) cx dX6_isUnder_22 (by decide) ?_
          exact g_zret cx gr rfl (Nat.zero_le _) (Nat.zero_le _) dX6_isUnder_26 ⟨by first | rfl | (simp only [isUn, c_1, c_2, c_3, c_4, if_true, if_false]; done) | simp [isUn, c_1, c_2, c_3, c_4], rfl⟩

theorem un_one {k o : Int32} (hk : isW k 0 5 = 1) (ho : ¬ isW o 0 5 = 0) : isUn k o = 0 ↔ oneOf 6 k o = 0 := by
  obtain ⟨i, hi, rfl⟩ := isW_nI 5 (show ¬ isW k 0 (nI 5) = 0 by rw [show (nI 5 : Int32) = 5 from rfl, hk]; decide) (by decide)
  obtain ⟨j, hj, rfl⟩ := isW_nI 5 ho (by decide)
  have q : ∀ i : Fin 6, ∀ j : Fin 6, (isUn (nI i.val) (nI j.val) = 0 ↔ oneOf 6 (nI i.val) (nI j.val) = 0) := by decide +kernel
  exact q ⟨i, by omega⟩ ⟨j, by omega⟩
theorem kin_h {c : Cor} {h : Int32} (hok : cOk c) (hh : ¬ isW h 0 7 = 0) : isW (tKind c.1 h.toNatClampNeg) 0 5 = 1 := by
  obtain ⟨j, hj, rfl⟩ := isW_nI 7 hh (by decide)
  rw [nI_clamp (by omega)]
  exact hok.1.2.1 j (by omega)

abbrev rmX6_as : Room := { frames := 2, cells := 0, slots := 0, locals := 45 }
theorem hYX6_as : gY yX6_as wsX6_as cX6_as 3 (some .int) 2 := ⟨⟨_, rfl⟩, by decide +kernel, by decide +kernel, by decide +kernel⟩
theorem m1X6_as_c45 : Cond.constant RX6 45 (-1000000001) ∈ wsX6_as := by decide +kernel
theorem m1X6_as_c119 : Cond.constant RX6 119 (-1000000003) ∈ wsX6_as := by decide +kernel
set_option maxRecDepth 100000 in
set_option maxHeartbeats 4000000 in
theorem c_X6_as (l : Launch) (E : gE) (a : Nat → Nat) (c : Cor) (h : Mar) (h0 : Int32) (k0 : Int32) (hok : cOk c) : cti l yX6_as wsX6_as rmX6_as E [.ref (a 0), .int h0, .int k0] (mW E a c h) (fun r w => ∃ h', r = (sp_as c h0 k0).1 ∧ w = mW E a (sp_as c h0 k0).2 h') := by
  refine mt_i (cc := cX6_as) (maxL := 3) (ret := some .int) (lv0 := [(0, .ref (a 0)), (1, .int h0), (2, .int k0)]) (by decide) rfl rfl (Nat.le_of_ble_eq_true rfl) (fun X cx gr hI => ?_)
  refine g_iload_n cx dX6_as_0 1 rfl ?_
  refine g_SPi (rest := []) (As := [.int h0]) cx hYX6_isHouse gX6_as_X6_isHouse (c_X6_isHouse l E h0 ) ⟨Nat.le_of_ble_eq_true rfl, Nat.le_of_ble_eq_true rfl⟩ rfl rfl (Nat.le_of_ble_eq_true rfl) ⟨Nat.le_of_ble_eq_true rfl, Nat.le_of_ble_eq_true rfl⟩ dX6_as_1 ?_
  refine g_if_eq (tgt := 14) cx dX6_as_4 (by decide) (fun c_1 => ?_) (fun c_1 => ?_)
  · refine g_aload_n cx dX6_as_14 0 rfl ?_
    refine g_ldc cx m1X6_as_c45 dX6_as_15 ?_
    refine g_VSi (rest := []) (As := [.int (-1000000001)]) cx hYX6_finds gX6_as_X6_finds (c_X6_finds l E a c h (-1000000001) (by unfold vp_in; decide +kernel)) rfl rfl rfl ⟨Nat.le_of_ble_eq_true rfl, Nat.le_of_ble_eq_true rfl⟩ rfl rfl (Nat.le_of_ble_eq_true rfl) ⟨Nat.le_of_ble_eq_true rfl, Nat.le_of_ble_eq_true rfl⟩ dX6_as_17 (fun r w1 hp => ?_)
    obtain ⟨rfl, rfl⟩ := hp
    exact g_iret cx gr (Nat.zero_le _) (Nat.zero_le _) dX6_as_20 (mleaf (by first | (simp only [sp_as, tKind, tMood, tPen, tAte, tHour, tTray, tAt, tRang, tCrack, tTak, tWay, cB, c_1, if_true, if_false]; done) | (simp only [sp_as, tKind, tMood, tPen, tAte, tHour, tTray, tAt, tRang, tCrack, tTak, tWay, cB, c_1, if_true, if_false] <;> rfl) | (simp [sp_as, tKind, tMood, tPen, tAte, tHour, tTray, tAt, tRang, tCrack, tTak, tWay, cB, c_1] <;> rfl)))
  · refine g_iload_n cx dX6_as_7 2 rfl ?_
    refine g_SPi (rest := []) (As := [.int k0]) cx hYX6_isKind gX6_as_X6_isKind (c_X6_isKind l E k0 ) ⟨Nat.le_of_ble_eq_true rfl, Nat.le_of_ble_eq_true rfl⟩ rfl rfl (Nat.le_of_ble_eq_true rfl) ⟨Nat.le_of_ble_eq_true rfl, Nat.le_of_ble_eq_true rfl⟩ dX6_as_8 ?_
    refine g_if_ne (tgt := 21) cx dX6_as_11 (by decide) (fun c_2 => ?_) (fun c_2 => ?_)
    · refine g_aload_n cx dX6_as_21 0 rfl ?_
      refine g_iload_n cx dX6_as_22 1 rfl ?_
      refine g_iconst (v := 0) cx dX6_as_23 (by decide) ?_
      refine g_VSi (rest := []) (As := [.int h0, .int 0]) cx hYX6_its gX6_as_X6_its (c_X6_its0 l E a c h h0 (isW_vp 7 c_1 (by decide))) rfl rfl rfl ⟨Nat.le_of_ble_eq_true rfl, Nat.le_of_ble_eq_true rfl⟩ rfl rfl (Nat.le_of_ble_eq_true rfl) ⟨Nat.le_of_ble_eq_true rfl, Nat.le_of_ble_eq_true rfl⟩ dX6_as_24 (fun r w1 hp => ?_)
      obtain ⟨rfl, rfl⟩ := hp
      refine g_iload_n cx dX6_as_27 2 rfl ?_
      refine g_SPi (rest := []) (As := [.int (c.1.2.2.2.2.2.2.2.1 h0.toNatClampNeg), .int k0]) cx hYX6_isUnder gX6_as_X6_isUnder (c_X6_isUnder l E (c.1.2.2.2.2.2.2.2.1 h0.toNatClampNeg) k0 ) ⟨Nat.le_of_ble_eq_true rfl, Nat.le_of_ble_eq_true rfl⟩ rfl rfl (Nat.le_of_ble_eq_true rfl) ⟨Nat.le_of_ble_eq_true rfl, Nat.le_of_ble_eq_true rfl⟩ dX6_as_28 ?_
      refine g_if_eq (tgt := 43) cx dX6_as_31 (by decide) (fun c_3 => ?_) (fun c_3 => ?_)
      · refine g_aload_n cx dX6_as_43 0 rfl ?_
        refine g_ldc cx m1X6_as_c119 dX6_as_44 ?_
        refine g_VSi (rest := []) (As := [.int (-1000000003)]) cx hYX6_finds gX6_as_X6_finds (c_X6_finds l E a c h (-1000000003) (by unfold vp_in; decide +kernel)) rfl rfl rfl ⟨Nat.le_of_ble_eq_true rfl, Nat.le_of_ble_eq_true rfl⟩ rfl rfl (Nat.le_of_ble_eq_true rfl) ⟨Nat.le_of_ble_eq_true rfl, Nat.le_of_ble_eq_true rfl⟩ dX6_as_46 (fun r w1 hp => ?_)
        obtain ⟨rfl, rfl⟩ := hp
        exact g_iret cx gr (Nat.zero_le _) (Nat.zero_le _) dX6_as_49 (mleaf (by rw [sp_as, if_neg c_1, if_neg c_2, if_pos ((un_one (kin_h hok c_1) c_2).mp c_3)]; rfl))
      · refine g_aload_n cx dX6_as_34 0 rfl ?_
        refine g_iload_n cx dX6_as_35 1 rfl ?_
        refine g_iconst (v := 1) cx dX6_as_36 (by decide) ?_
        refine g_VSi (rest := []) (As := [.int h0, .int 1]) cx hYX6_its gX6_as_X6_its (c_X6_its1 l E a c h h0 (isW_vp 7 c_1 (by decide))) rfl rfl rfl ⟨Nat.le_of_ble_eq_true rfl, Nat.le_of_ble_eq_true rfl⟩ rfl rfl (Nat.le_of_ble_eq_true rfl) ⟨Nat.le_of_ble_eq_true rfl, Nat.le_of_ble_eq_true rfl⟩ dX6_as_37 (fun r w1 hp => ?_)
        obtain ⟨rfl, rfl⟩ := hp
        refine g_goto (tgt := 49) cx dX6_as_40 (by decide) ?_
        exact g_iret cx gr (Nat.zero_le _) (Nat.zero_le _) dX6_as_49 (mleaf (by rw [sp_as, if_neg c_1, if_neg c_2, if_neg (fun q => c_3 ((un_one (kin_h hok c_1) c_2).mpr q))]))
    · refine g_aload_n cx dX6_as_14 0 rfl ?_
      refine g_ldc cx m1X6_as_c45 dX6_as_15 ?_
      refine g_VSi (rest := []) (As := [.int (-1000000001)]) cx hYX6_finds gX6_as_X6_finds (c_X6_finds l E a c h (-1000000001) (by unfold vp_in; decide +kernel)) rfl rfl rfl ⟨Nat.le_of_ble_eq_true rfl, Nat.le_of_ble_eq_true rfl⟩ rfl rfl (Nat.le_of_ble_eq_true rfl) ⟨Nat.le_of_ble_eq_true rfl, Nat.le_of_ble_eq_true rfl⟩ dX6_as_17 (fun r w1 hp => ?_)
      obtain ⟨rfl, rfl⟩ := hp
      exact g_iret cx gr (Nat.zero_le _) (Nat.zero_le _) dX6_as_20 (mleaf (by first | (simp only [sp_as, tKind, tMood, tPen, tAte, tHour, tTray, tAt, tRang, tCrack, tTak, tWay, cB, c_1, c_2, if_true, if_false]; done) | (simp only [sp_as, tKind, tMood, tPen, tAte, tHour, tTray, tAt, tRang, tCrack, tTak, tWay, cB, c_1, c_2, if_true, if_false] <;> rfl) | (simp [sp_as, tKind, tMood, tPen, tAte, tHour, tTray, tAt, tRang, tCrack, tTak, tWay, cB, c_1, c_2] <;> rfl)))

theorem mv_eq {t : Ter} {h o : Int32} (hh : vp_in h 8) (ho : vp_in o 8) (hne : ¬ h = o) : mvT t h o 4 = chFam t h o := by
  obtain ⟨x, hx, rfl⟩ := vp_in_of hh (by decide)
  obtain ⟨y, hy, rfl⟩ := vp_in_of ho (by decide)
  have hxy : x ≠ y := fun q => hne (by rw [q])
  have e : ∀ (z w : Nat), z < 8 → w ≤ 3 → (spot (nI z) (nI w)).toNatClampNeg = 7 + 4 * z + w := fun z w hz hw => by rw [spot_nI, nI_clamp (by omega)]
  have cx : (nI x).toNatClampNeg = x := nI_clamp (by omega)
  have cy : (nI y).toNatClampNeg = y := nI_clamp (by omega)
  simp only [mvT, e x 0 hx (by omega), e x 1 hx (by omega), e x 2 hx (by omega), e x 3 hx (by omega), e y 0 hy (by omega), e y 1 hy (by omega), e y 2 hy (by omega), e y 3 hy (by omega)]
  show tPut _ _ _ = _
  rw [show 7 + 4 * x + 0 = 7 + 4 * x by omega, show 7 + 4 * y + 0 = 7 + 4 * y by omega]
  simp only [put_K, put_M, put_P, put_A, enc_K, enc_M, enc_P, enc_A]
  unfold chFam swp
  simp only [cx, cy]
  have sw : ∀ f : Nat → Int32, upd (upd f x (f y)) y (f x) = upd (upd f y (f x)) x (f y) := by
    intro f
    funext j
    unfold upd
    by_cases h1 : j = x
    · rw [h1, if_neg hxy, if_pos rfl, if_pos rfl]
    · by_cases h2 : j = y
      · rw [h2, if_pos rfl, if_neg (fun q => hxy q.symm), if_pos rfl]
      · rw [if_neg h2, if_neg h1, if_neg h1, if_neg h2]
  simp only [sw]

abbrev rmX6_moves : Room := { frames := 2, cells := 0, slots := 0, locals := 43 }
theorem hYX6_moves : gY yX6_moves wsX6_moves cX6_moves 5 (none) 2 := ⟨⟨_, rfl⟩, by decide +kernel, by decide +kernel, by decide +kernel⟩
theorem iwX6_moves_X6 : ∀ w ∈ u_ws RX6 TX6 16, w ∈ wsX6_moves := by decide +kernel
theorem lkX6_moves_7 : Cond.fieldLink RX6 7 "MuffinBellsModel" "s" "[I" ∈ wsX6_moves := by decide +kernel
set_option maxRecDepth 100000 in
set_option maxHeartbeats 4000000 in
theorem c_X6_moves (l : Launch) (E : gE) (a : Nat → Nat) (c : Cor) (h : Mar) (h0 : Int32) (o0 : Int32) (hh : vp_in h0 8) (ho : vp_in o0 8) (hne : ¬ h0 = o0) : ctv l yX6_moves wsX6_moves rmX6_moves E [.ref (a 0), .int h0, .int o0] (mW E a c h) (fun w => w = (mW E a ((chFam c.1 h0 o0), c.2.1, c.2.2.1, c.2.2.2.1, c.2.2.2.2.1, c.2.2.2.2.2.1, c.2.2.2.2.2.2.1, c.2.2.2.2.2.2.2.1, c.2.2.2.2.2.2.2.2) h)) := by
  refine mt_v (cc := cX6_moves) (maxL := 5) (ret := none) (lv0 := [(0, .ref (a 0)), (1, .int h0), (2, .int o0)]) (by decide) rfl rfl (Nat.le_of_ble_eq_true rfl) (fun X cx gr hI => ?_)
  refine g_iconst (v := 0) cx dX6_moves_0 (by decide) ?_
  refine g_istore_n (lv' := [(3, .int 0), (0, .ref (a 0)), (1, .int h0), (2, .int o0)]) cx dX6_moves_1 (by decide) rfl ?_
  have LP2 : ∀ (d : Nat) (i : Nat) (x : Int32), i + d = 5 → i ≤ 4 → x = nI i → gG X 0 0 (mW E a ((mvT c.1 h0 o0 i), c.2.1, c.2.2.1, c.2.2.2.1, c.2.2.2.2.1, c.2.2.2.2.2.1, c.2.2.2.2.2.2.1, c.2.2.2.2.2.2.2.1, c.2.2.2.2.2.2.2.2) h) 2 [(0, .ref (a 0)), (1, .int h0), (2, .int o0), (3, .int x)] [] := by
    intro d
    induction d with
    | zero =>
      intro i x hi hiN hx
      omega
    | succ d ih =>
      intro i x hi hiN hx
      refine g_iload_n cx dX6_moves_2 3 rfl ?_
      refine g_iconst (v := 3) cx dX6_moves_3 (by decide) ?_
      refine g_icmp_gt (tgt := 42) cx dX6_moves_4 (by decide) (fun c_1 => ?_) (fun c_1 => ?_)
      · exact g_vret cx gr (Nat.zero_le _) (Nat.zero_le _) dX6_moves_42 (by rw [show i = 4 by have := gt_of 3 hx c_1 (by omega) (by decide); omega, mv_eq hh ho hne])
      · refine g_aload_n cx dX6_moves_7 0 rfl ?_
        refine g_iload_n cx dX6_moves_8 1 rfl ?_
        refine g_iload_n cx dX6_moves_9 3 rfl ?_
        refine g_SPi (rest := [.ref (a 0)]) (As := [.int h0, .int x]) cx hYX6_spotOf gX6_moves_X6_spotOf (c_X6_spotOf l E h0 x ) ⟨Nat.le_of_ble_eq_true rfl, Nat.le_of_ble_eq_true rfl⟩ rfl rfl (Nat.le_of_ble_eq_true rfl) ⟨Nat.le_of_ble_eq_true rfl, Nat.le_of_ble_eq_true rfl⟩ dX6_moves_10 ?_
        refine g_aload_n cx dX6_moves_13 0 rfl ?_
        refine g_iload_n cx dX6_moves_14 2 rfl ?_
        refine g_iload_n cx dX6_moves_15 3 rfl ?_
        refine g_VSi (rest := [.int (spot h0 x), .ref (a 0)]) (As := [.int o0, .int x]) cx hYX6_its gX6_moves_X6_its (c_X6_its l E a ((mvT c.1 h0 o0 i), c.2.1, c.2.2.1, c.2.2.2.1, c.2.2.2.2.1, c.2.2.2.2.2.1, c.2.2.2.2.2.2.1, c.2.2.2.2.2.2.2.1, c.2.2.2.2.2.2.2.2) h o0 x (by rw [hx]; exact spot_in ho i (le_of 3 hx c_1 (by omega) (by decide)))) rfl rfl rfl ⟨Nat.le_of_ble_eq_true rfl, Nat.le_of_ble_eq_true rfl⟩ rfl rfl (Nat.le_of_ble_eq_true rfl) ⟨Nat.le_of_ble_eq_true rfl, Nat.le_of_ble_eq_true rfl⟩ dX6_moves_16 (fun r w1 hp => ?_)
        obtain ⟨rfl, rfl⟩ := hp
        refine g_VSi (rest := []) (As := [.int (spot h0 x), .int (enc (mvT c.1 h0 o0 i) (spot o0 x).toNatClampNeg)]) cx hYX6_becomes gX6_moves_X6_becomes (c_X6_becomes l E a ((mvT c.1 h0 o0 i), c.2.1, c.2.2.1, c.2.2.2.1, c.2.2.2.2.1, c.2.2.2.2.2.1, c.2.2.2.2.2.2.1, c.2.2.2.2.2.2.2.1, c.2.2.2.2.2.2.2.2) h (spot h0 x) (enc (mvT c.1 h0 o0 i) (spot o0 x).toNatClampNeg) (by rw [hx]; exact spot_in hh i (le_of 3 hx c_1 (by omega) (by decide)))) rfl rfl rfl ⟨Nat.le_of_ble_eq_true rfl, Nat.le_of_ble_eq_true rfl⟩ rfl rfl (Nat.le_of_ble_eq_true rfl) ⟨Nat.le_of_ble_eq_true rfl, Nat.le_of_ble_eq_true rfl⟩ dX6_moves_19 (fun r w1 hp => ?_)
        obtain ⟨rfl, rfl⟩ := hp
        refine g_istore (lv' := [(4, .int (enc (mvT c.1 h0 o0 i) (spot h0 x).toNatClampNeg)), (0, .ref (a 0)), (1, .int h0), (2, .int o0), (3, .int x)]) cx dX6_moves_22 (by decide) rfl ?_
        refine g_aload_n cx dX6_moves_24 1 rfl ?_
        refine g_get (C := RX6) (T := TX6) (N := 16) (v := .ref (a 1)) cx iwX6_moves_X6 0 0 rfl rfl (by decide) lkX6_moves_7 rfl dX6_moves_25 ?_
        refine g_iload_n cx dX6_moves_28 3 rfl ?_
        refine g_iload_n cx dX6_moves_29 4 rfl ?_
        refine g_SPi (rest := [.ref (a 1)]) (As := [.int o0, .int x]) cx hYX6_spotOf gX6_moves_X6_spotOf (c_X6_spotOf l E o0 x ) ⟨Nat.le_of_ble_eq_true rfl, Nat.le_of_ble_eq_true rfl⟩ rfl rfl (Nat.le_of_ble_eq_true rfl) ⟨Nat.le_of_ble_eq_true rfl, Nat.le_of_ble_eq_true rfl⟩ dX6_moves_30 ?_
        refine g_iload cx dX6_moves_33 0 rfl ?_
        refine g_iast (ws' := (mW E a ((tPut (tPut (mvT c.1 h0 o0 i) (spot h0 x).toNatClampNeg (enc (mvT c.1 h0 o0 i) (spot o0 x).toNatClampNeg)) (spot o0 x).toNatClampNeg (enc (mvT c.1 h0 o0 i) (spot h0 x).toNatClampNeg)), c.2.1, c.2.2.1, c.2.2.2.1, c.2.2.2.2.1, c.2.2.2.2.2.1, c.2.2.2.2.2.2.1, c.2.2.2.2.2.2.2.1, c.2.2.2.2.2.2.2.2) h)) cx 1 rfl rfl (by rw [hx]; exact spot_in ho i (le_of 3 hx c_1 (by omega) (by decide))) dX6_moves_35 (congrArg (fun f => List.set (mW E a ((tPut (mvT c.1 h0 o0 i) (spot h0 x).toNatClampNeg (enc (mvT c.1 h0 o0 i) (spot o0 x).toNatClampNeg)), c.2.1, c.2.2.1, c.2.2.2.1, c.2.2.2.2.1, c.2.2.2.2.2.1, c.2.2.2.2.2.2.1, c.2.2.2.2.2.2.2.1, c.2.2.2.2.2.2.2.2) h) 1 (a 1, .inl (gI E, 39, .inl f))) (enc_put (tPut (mvT c.1 h0 o0 i) (spot h0 x).toNatClampNeg (enc (mvT c.1 h0 o0 i) (spot o0 x).toNatClampNeg)) (spot o0 x).toNatClampNeg (enc (mvT c.1 h0 o0 i) (spot h0 x).toNatClampNeg))) ?_
        refine g_iinc (v := x + 1) (lv' := [(3, .int (x + 1)), (4, .int (enc (mvT c.1 h0 o0 i) (spot h0 x).toNatClampNeg)), (0, .ref (a 0)), (1, .int h0), (2, .int o0)]) cx dX6_moves_36 4 rfl rfl (by decide) rfl ?_
        refine g_goto (tgt := 2) cx dX6_moves_39 (by decide) ?_
        exact g_lv [2, 3, 4, 0] rfl (g_w (congrArg (fun T : Ter => (mW E a (T, c.2.1, c.2.2.1, c.2.2.2.1, c.2.2.2.2.1, c.2.2.2.2.2.1, c.2.2.2.2.2.2.1, c.2.2.2.2.2.2.2.1, c.2.2.2.2.2.2.2.2) h)) (by rw [hx]; rfl)) (ih (i + 1) (x + 1) (by omega) (by have := le_of 3 hx c_1 (by omega) (by decide); omega) (by rw [hx]; exact nI_1 i)))
  exact g_lv [1, 2, 3, 0] rfl (LP2 5 0 0 (by omega) (by omega) rfl)

abbrev rmX6_move : Room := { frames := 3, cells := 0, slots := 0, locals := 67 }
theorem hYX6_move : gY yX6_move wsX6_move cX6_move 3 (some .int) 2 := ⟨⟨_, rfl⟩, by decide +kernel, by decide +kernel, by decide +kernel⟩
theorem m1X6_move_c45 : Cond.constant RX6 45 (-1000000001) ∈ wsX6_move := by decide +kernel
set_option maxRecDepth 100000 in
set_option maxHeartbeats 4000000 in
theorem c_X6_move (l : Launch) (E : gE) (a : Nat → Nat) (c : Cor) (h : Mar) (h0 : Int32) (o0 : Int32) (hok : cOk c) : cti l yX6_move wsX6_move rmX6_move E [.ref (a 0), .int h0, .int o0] (mW E a c h) (fun r w => ∃ h', r = (sp_move c h0 o0).1 ∧ w = mW E a (sp_move c h0 o0).2 h') := by
  refine mt_i (cc := cX6_move) (maxL := 3) (ret := some .int) (lv0 := [(0, .ref (a 0)), (1, .int h0), (2, .int o0)]) (by decide) rfl rfl (Nat.le_of_ble_eq_true rfl) (fun X cx gr hI => ?_)
  refine g_iload_n cx dX6_move_0 1 rfl ?_
  refine g_SPi (rest := []) (As := [.int h0]) cx hYX6_isHouse gX6_move_X6_isHouse (c_X6_isHouse l E h0 ) ⟨Nat.le_of_ble_eq_true rfl, Nat.le_of_ble_eq_true rfl⟩ rfl rfl (Nat.le_of_ble_eq_true rfl) ⟨Nat.le_of_ble_eq_true rfl, Nat.le_of_ble_eq_true rfl⟩ dX6_move_1 ?_
  refine g_if_eq (tgt := 19) cx dX6_move_4 (by decide) (fun c_1 => ?_) (fun c_1 => ?_)
  · refine g_aload_n cx dX6_move_19 0 rfl ?_
    refine g_ldc cx m1X6_move_c45 dX6_move_20 ?_
    refine g_VSi (rest := []) (As := [.int (-1000000001)]) cx hYX6_finds gX6_move_X6_finds (c_X6_finds l E a c h (-1000000001) (by unfold vp_in; decide +kernel)) rfl rfl rfl ⟨Nat.le_of_ble_eq_true rfl, Nat.le_of_ble_eq_true rfl⟩ rfl rfl (Nat.le_of_ble_eq_true rfl) ⟨Nat.le_of_ble_eq_true rfl, Nat.le_of_ble_eq_true rfl⟩ dX6_move_22 (fun r w1 hp => ?_)
    obtain ⟨rfl, rfl⟩ := hp
    exact g_iret cx gr (Nat.zero_le _) (Nat.zero_le _) dX6_move_25 (mleaf (by first | (simp only [sp_move, tKind, tMood, tPen, tAte, tHour, tTray, tAt, tRang, tCrack, tTak, tWay, cB, c_1, if_true, if_false]; done) | (simp only [sp_move, tKind, tMood, tPen, tAte, tHour, tTray, tAt, tRang, tCrack, tTak, tWay, cB, c_1, if_true, if_false] <;> rfl) | (simp [sp_move, tKind, tMood, tPen, tAte, tHour, tTray, tAt, tRang, tCrack, tTak, tWay, cB, c_1] <;> rfl)))
  · refine g_iload_n cx dX6_move_7 2 rfl ?_
    refine g_SPi (rest := []) (As := [.int o0]) cx hYX6_isHouse gX6_move_X6_isHouse (c_X6_isHouse l E o0 ) ⟨Nat.le_of_ble_eq_true rfl, Nat.le_of_ble_eq_true rfl⟩ rfl rfl (Nat.le_of_ble_eq_true rfl) ⟨Nat.le_of_ble_eq_true rfl, Nat.le_of_ble_eq_true rfl⟩ dX6_move_8 ?_
    refine g_if_eq (tgt := 19) cx dX6_move_11 (by decide) (fun c_2 => ?_) (fun c_2 => ?_)
    · refine g_aload_n cx dX6_move_19 0 rfl ?_
      refine g_ldc cx m1X6_move_c45 dX6_move_20 ?_
      refine g_VSi (rest := []) (As := [.int (-1000000001)]) cx hYX6_finds gX6_move_X6_finds (c_X6_finds l E a c h (-1000000001) (by unfold vp_in; decide +kernel)) rfl rfl rfl ⟨Nat.le_of_ble_eq_true rfl, Nat.le_of_ble_eq_true rfl⟩ rfl rfl (Nat.le_of_ble_eq_true rfl) ⟨Nat.le_of_ble_eq_true rfl, Nat.le_of_ble_eq_true rfl⟩ dX6_move_22 (fun r w1 hp => ?_)
      obtain ⟨rfl, rfl⟩ := hp
      exact g_iret cx gr (Nat.zero_le _) (Nat.zero_le _) dX6_move_25 (mleaf (by first | (simp only [sp_move, tKind, tMood, tPen, tAte, tHour, tTray, tAt, tRang, tCrack, tTak, tWay, cB, c_1, c_2, if_true, if_false]; done) | (simp only [sp_move, tKind, tMood, tPen, tAte, tHour, tTray, tAt, tRang, tCrack, tTak, tWay, cB, c_1, c_2, if_true, if_false] <;> rfl) | (simp [sp_move, tKind, tMood, tPen, tAte, tHour, tTray, tAt, tRang, tCrack, tTak, tWay, cB, c_1, c_2] <;> rfl)))
    · refine g_iload_n cx dX6_move_14 1 rfl ?_
      refine g_iload_n cx dX6_move_15 2 rfl ?_
      refine g_icmp_ne (tgt := 26) cx dX6_move_16 (by decide) (fun c_3 => ?_) (fun c_3 => ?_)
      · refine g_aload_n cx dX6_move_26 0 rfl ?_
        refine g_iload_n cx dX6_move_27 1 rfl ?_
        refine g_iload_n cx dX6_move_28 2 rfl ?_
        refine g_VSv (rest := []) (As := [.int h0, .int o0]) cx hYX6_moves gX6_move_X6_moves (c_X6_moves l E a c h h0 o0 (isW_vp 7 c_1 (by decide)) (isW_vp 7 c_2 (by decide)) c_3) rfl rfl rfl ⟨Nat.le_of_ble_eq_true rfl, Nat.le_of_ble_eq_true rfl⟩ rfl rfl (Nat.le_of_ble_eq_true rfl) ⟨Nat.le_of_ble_eq_true rfl, Nat.le_of_ble_eq_true rfl⟩ dX6_move_29 (fun w1 hp => ?_)
        obtain rfl := hp
        refine g_iconst (v := 1) cx dX6_move_32 (by decide) ?_
        exact g_iret cx gr (Nat.zero_le _) (Nat.zero_le _) dX6_move_33 (mleaf (by first | (simp only [sp_move, tKind, tMood, tPen, tAte, tHour, tTray, tAt, tRang, tCrack, tTak, tWay, cB, c_1, c_2, c_3, if_true, if_false]; done) | (simp only [sp_move, tKind, tMood, tPen, tAte, tHour, tTray, tAt, tRang, tCrack, tTak, tWay, cB, c_1, c_2, c_3, if_true, if_false] <;> rfl) | (simp [sp_move, tKind, tMood, tPen, tAte, tHour, tTray, tAt, tRang, tCrack, tTak, tWay, cB, c_1, c_2, c_3] <;> rfl)))
      · refine g_aload_n cx dX6_move_19 0 rfl ?_
        refine g_ldc cx m1X6_move_c45 dX6_move_20 ?_
        refine g_VSi (rest := []) (As := [.int (-1000000001)]) cx hYX6_finds gX6_move_X6_finds (c_X6_finds l E a c h (-1000000001) (by unfold vp_in; decide +kernel)) rfl rfl rfl ⟨Nat.le_of_ble_eq_true rfl, Nat.le_of_ble_eq_true rfl⟩ rfl rfl (Nat.le_of_ble_eq_true rfl) ⟨Nat.le_of_ble_eq_true rfl, Nat.le_of_ble_eq_true rfl⟩ dX6_move_22 (fun r w1 hp => ?_)
        obtain ⟨rfl, rfl⟩ := hp
        exact g_iret cx gr (Nat.zero_le _) (Nat.zero_le _) dX6_move_25 (mleaf (by first | (simp only [sp_move, tKind, tMood, tPen, tAte, tHour, tTray, tAt, tRang, tCrack, tTak, tWay, cB, c_1, c_2, c_3, if_true, if_false]; done) | (simp only [sp_move, tKind, tMood, tPen, tAte, tHour, tTray, tAt, tRang, tCrack, tTak, tWay, cB, c_1, c_2, c_3, if_true, if_false] <;> rfl) | (simp [sp_move, tKind, tMood, tPen, tAte, tHour, tTray, tAt, tRang, tCrack, tTak, tWay, cB, c_1, c_2, c_3] <;> rfl)))
