abbrev rmX5_goOn : Room := { frames := 5, cells := 0, slots := 0, locals := 112 }
theorem hYX5_goOn : gY yX5_goOn wsX5_goOn cX5_goOn 2 (none) 1 := ⟨⟨_, rfl⟩, by decide +kernel, by decide +kernel, by decide +kernel⟩
theorem iwX5_goOn_X5 : ∀ w ∈ u_ws RX5 TX5 8, w ∈ wsX5_goOn := by decide +kernel
theorem lkX5_goOn_16 : Cond.fieldLink RX5 16 "MuffinBells" "trial" "LMuffinBells$Terrace;" ∈ wsX5_goOn := by decide +kernel
theorem lkX5_goOn_10 : Cond.fieldLink RX5 10 "MuffinBells" "present" "LMuffinBells$Terrace;" ∈ wsX5_goOn := by decide +kernel
set_option maxRecDepth 100000 in
set_option maxHeartbeats 4000000 in
theorem c_X5_goOn (l : Launch) (E : gE) (a : Nat → Nat) (c : Cor) (g : Gar) (N : Nat) (hat : vp_in (tAt c.1) 8) (hN : N < 2 ^ 31) : ctv l yX5_goOn wsX5_goOn rmX5_goOn E [.ref (a 0), .int (nI N)] (xW E a c g) (fun w => w = (xW E a c ((goHs N c.1), g.2.1, g.2.2.1, g.2.2.2.1, g.2.2.2.2))) := by
  refine mt_v (cc := cX5_goOn) (maxL := 2) (ret := none) (lv0 := [(0, .ref (a 0)), (1, .int (nI N))]) (by decide) rfl rfl (Nat.le_of_ble_eq_true rfl) (fun X cx gr hI => ?_)
  refine g_aload_n cx dX5_goOn_0 0 rfl ?_
  refine g_get (C := RX5) (T := TX5) (N := 8) (v := .ref (a 6)) cx iwX5_goOn_X5 0 1 rfl rfl (by decide) lkX5_goOn_16 rfl dX5_goOn_1 ?_
  refine g_aload_n cx dX5_goOn_4 0 rfl ?_
  refine g_get (C := RX5) (T := TX5) (N := 8) (v := .ref (a 1)) cx iwX5_goOn_X5 0 0 rfl rfl (by decide) lkX5_goOn_10 rfl dX5_goOn_5 ?_
  refine g_XBtp cx gX5_goOn_X3_become ⟨Nat.le_of_ble_eq_true rfl, Nat.le_of_ble_eq_true rfl⟩ (Nat.le_of_ble_eq_true rfl) dX5_goOn_8 ?_ (Nat.zero_le _) (Nat.zero_le _)
  refine g_aload_n cx dX5_goOn_11 0 rfl ?_
  refine g_get (C := RX5) (T := TX5) (N := 8) (v := .ref (a 6)) cx iwX5_goOn_X5 0 1 rfl rfl (by decide) lkX5_goOn_16 rfl dX5_goOn_12 ?_
  refine g_iload_n cx dX5_goOn_15 1 rfl ?_
  refine g_Xtv (rest := []) (As := [.int (nI N)]) cx hYX3_goHours gX5_goOn_X3_goHours (c_X3_goHours l E (fun i => a (6 + i)) c.1 N hat hN) rfl ⟨Nat.le_of_ble_eq_true rfl, Nat.le_of_ble_eq_true rfl⟩ rfl rfl (Nat.le_of_ble_eq_true rfl) ⟨Nat.le_of_ble_eq_true rfl, Nat.le_of_ble_eq_true rfl⟩ dX5_goOn_16 ?_
  exact g_vret cx gr (Nat.zero_le _) (Nat.zero_le _) dX5_goOn_19 (rfl)

abbrev rmX5_moodsGoing : Room := { frames := 5, cells := 0, slots := 0, locals := 112 }
theorem hYX5_moodsGoing : gY yX5_moodsGoing wsX5_moodsGoing cX5_moodsGoing 3 (some .int) 2 := ⟨⟨_, rfl⟩, by decide +kernel, by decide +kernel, by decide +kernel⟩
theorem iwX5_moodsGoing_X5 : ∀ w ∈ u_ws RX5 TX5 8, w ∈ wsX5_moodsGoing := by decide +kernel
theorem lkX5_moodsGoing_16 : Cond.fieldLink RX5 16 "MuffinBells" "trial" "LMuffinBells$Terrace;" ∈ wsX5_moodsGoing := by decide +kernel
theorem lkX5_moodsGoing_10 : Cond.fieldLink RX5 10 "MuffinBells" "present" "LMuffinBells$Terrace;" ∈ wsX5_moodsGoing := by decide +kernel
theorem iwX5_moodsGoing_X3 : ∀ w ∈ u_ws RX3 TX3 11, w ∈ wsX5_moodsGoing := by decide +kernel
theorem lkX5_moodsGoing_91 : Cond.fieldLink RX5 91 "MuffinBells$Terrace" "way" "I" ∈ wsX5_moodsGoing := by decide +kernel
theorem lkX5_moodsGoing_113 : Cond.fieldLink RX5 113 "MuffinBells$Terrace" "moods" "[I" ∈ wsX5_moodsGoing := by decide +kernel
set_option maxRecDepth 100000 in
set_option maxHeartbeats 4000000 in
theorem c_X5_moodsGoing (l : Launch) (E : gE) (a : Nat → Nat) (c : Cor) (g : Gar) (v0 : Int32) (N : Nat) (hat : vp_in (tAt c.1) 8) (hN : N < 2 ^ 31) : cti l yX5_moodsGoing wsX5_moodsGoing rmX5_moodsGoing E [.ref (a 0), .int v0, .int (nI N)] (xW E a c g) (fun r w => r = sumN (goHs N (c.1.1, c.1.2.1, v0, c.1.2.2.2.1, c.1.2.2.2.2.1, c.1.2.2.2.2.2.1, c.1.2.2.2.2.2.2.1, c.1.2.2.2.2.2.2.2.1, c.1.2.2.2.2.2.2.2.2.1, c.1.2.2.2.2.2.2.2.2.2.1, c.1.2.2.2.2.2.2.2.2.2.2)).2.2.2.2.2.2.2.2.1 8 ∧ w = (xW E a c ((goHs N (c.1.1, c.1.2.1, v0, c.1.2.2.2.1, c.1.2.2.2.2.1, c.1.2.2.2.2.2.1, c.1.2.2.2.2.2.2.1, c.1.2.2.2.2.2.2.2.1, c.1.2.2.2.2.2.2.2.2.1, c.1.2.2.2.2.2.2.2.2.2.1, c.1.2.2.2.2.2.2.2.2.2.2)), g.2.1, g.2.2.1, g.2.2.2.1, g.2.2.2.2))) := by
  refine mt_i (cc := cX5_moodsGoing) (maxL := 3) (ret := some .int) (lv0 := [(0, .ref (a 0)), (1, .int v0), (2, .int (nI N))]) (by decide) rfl rfl (Nat.le_of_ble_eq_true rfl) (fun X cx gr hI => ?_)
  refine g_aload_n cx dX5_moodsGoing_0 0 rfl ?_
  refine g_get (C := RX5) (T := TX5) (N := 8) (v := .ref (a 6)) cx iwX5_moodsGoing_X5 0 1 rfl rfl (by decide) lkX5_moodsGoing_16 rfl dX5_moodsGoing_1 ?_
  refine g_aload_n cx dX5_moodsGoing_4 0 rfl ?_
  refine g_get (C := RX5) (T := TX5) (N := 8) (v := .ref (a 1)) cx iwX5_moodsGoing_X5 0 0 rfl rfl (by decide) lkX5_moodsGoing_10 rfl dX5_moodsGoing_5 ?_
  refine g_XBtp cx gX5_moodsGoing_X3_become ⟨Nat.le_of_ble_eq_true rfl, Nat.le_of_ble_eq_true rfl⟩ (Nat.le_of_ble_eq_true rfl) dX5_moodsGoing_8 ?_ (Nat.zero_le _) (Nat.zero_le _)
  refine g_aload_n cx dX5_moodsGoing_11 0 rfl ?_
  refine g_get (C := RX5) (T := TX5) (N := 8) (v := .ref (a 6)) cx iwX5_moodsGoing_X5 0 1 rfl rfl (by decide) lkX5_moodsGoing_16 rfl dX5_moodsGoing_12 ?_
  refine g_iload_n cx dX5_moodsGoing_15 1 rfl ?_
  refine g_put (C := RX3) (T := TX3) (N := 11) (ws' := (xW E a c ((c.1.1, c.1.2.1, v0, c.1.2.2.2.1, c.1.2.2.2.2.1, c.1.2.2.2.2.2.1, c.1.2.2.2.2.2.2.1, c.1.2.2.2.2.2.2.2.1, c.1.2.2.2.2.2.2.2.2.1, c.1.2.2.2.2.2.2.2.2.2.1, c.1.2.2.2.2.2.2.2.2.2.2), g.2.1, g.2.2.1, g.2.2.2.1, g.2.2.2.2))) cx iwX5_moodsGoing_X3 tyX3 tyX3_ok nmX3 6 2 rfl rfl (by decide) lkX5_moodsGoing_91 rfl rfl rfl (Nat.le_of_ble_eq_true rfl) dX5_moodsGoing_16 rfl ?_
  refine g_aload_n cx dX5_moodsGoing_19 0 rfl ?_
  refine g_get (C := RX5) (T := TX5) (N := 8) (v := .ref (a 6)) cx iwX5_moodsGoing_X5 0 1 rfl rfl (by decide) lkX5_moodsGoing_16 rfl dX5_moodsGoing_20 ?_
  refine g_iload_n cx dX5_moodsGoing_23 2 rfl ?_
  refine g_Xtv (rest := []) (As := [.int (nI N)]) cx hYX3_goHours gX5_moodsGoing_X3_goHours (c_X3_goHours l E (fun i => a (6 + i)) (c.1.1, c.1.2.1, v0, c.1.2.2.2.1, c.1.2.2.2.2.1, c.1.2.2.2.2.2.1, c.1.2.2.2.2.2.2.1, c.1.2.2.2.2.2.2.2.1, c.1.2.2.2.2.2.2.2.2.1, c.1.2.2.2.2.2.2.2.2.2.1, c.1.2.2.2.2.2.2.2.2.2.2) N hat hN) rfl ⟨Nat.le_of_ble_eq_true rfl, Nat.le_of_ble_eq_true rfl⟩ rfl rfl (Nat.le_of_ble_eq_true rfl) ⟨Nat.le_of_ble_eq_true rfl, Nat.le_of_ble_eq_true rfl⟩ dX5_moodsGoing_24 ?_
  refine g_aload_n cx dX5_moodsGoing_27 0 rfl ?_
  refine g_get (C := RX5) (T := TX5) (N := 8) (v := .ref (a 6)) cx iwX5_moodsGoing_X5 0 1 rfl rfl (by decide) lkX5_moodsGoing_16 rfl dX5_moodsGoing_28 ?_
  refine g_get (C := RX3) (T := TX3) (N := 11) (v := .ref (a 8)) cx iwX5_moodsGoing_X3 6 8 rfl rfl (by decide) lkX5_moodsGoing_113 rfl dX5_moodsGoing_31 ?_
  refine g_Si (rest := []) (As := [.ref (a 8)]) (wr := (xW E a c ((goHs N (c.1.1, c.1.2.1, v0, c.1.2.2.2.1, c.1.2.2.2.2.1, c.1.2.2.2.2.2.1, c.1.2.2.2.2.2.2.1, c.1.2.2.2.2.2.2.2.1, c.1.2.2.2.2.2.2.2.2.1, c.1.2.2.2.2.2.2.2.2.2.1, c.1.2.2.2.2.2.2.2.2.2.2)), g.2.1, g.2.2.1, g.2.2.2.1, g.2.2.2.2)).eraseIdx 8) cx hYX5_sum gX5_moodsGoing_X5_sum (c_X5_sum l E (a 8) 8 ((goHs N (c.1.1, c.1.2.1, v0, c.1.2.2.2.1, c.1.2.2.2.2.1, c.1.2.2.2.2.2.1, c.1.2.2.2.2.2.2.1, c.1.2.2.2.2.2.2.2.1, c.1.2.2.2.2.2.2.2.2.1, c.1.2.2.2.2.2.2.2.2.2.1, c.1.2.2.2.2.2.2.2.2.2.2)).2.2.2.2.2.2.2.2.1) (by decide)) [8] [0, 1, 2, 3, 4, 5, 6, 7, 9, 10, 11, 12, 13, 14, 15, 16, 17, 18, 19, 20, 21, 22, 23, 24, 25, 26, 27, 28] rfl rfl rfl rfl (by decide) ⟨Nat.le_of_ble_eq_true rfl, Nat.le_of_ble_eq_true rfl⟩ rfl rfl (Nat.le_of_ble_eq_true rfl) ⟨Nat.le_of_ble_eq_true rfl, Nat.le_of_ble_eq_true rfl⟩ dX5_moodsGoing_34 (fun r w1 hp => ?_)
  obtain ⟨rfl, rfl⟩ := hp
  refine g_ws (ws' := (xW E a c ((goHs N (c.1.1, c.1.2.1, v0, c.1.2.2.2.1, c.1.2.2.2.2.1, c.1.2.2.2.2.2.1, c.1.2.2.2.2.2.2.1, c.1.2.2.2.2.2.2.2.1, c.1.2.2.2.2.2.2.2.2.1, c.1.2.2.2.2.2.2.2.2.2.1, c.1.2.2.2.2.2.2.2.2.2.2)), g.2.1, g.2.2.1, g.2.2.2.1, g.2.2.2.2))) [0, 1, 2, 3, 4, 5, 6, 7, 28, 8, 9, 10, 11, 12, 13, 14, 15, 16, 17, 18, 19, 20, 21, 22, 23, 24, 25, 26, 27] rfl rfl ?_
  exact g_iret cx gr (Nat.zero_le _) (Nat.zero_le _) dX5_moodsGoing_37 ⟨rfl, rfl⟩

abbrev rmX5_moodsSwapped : Room := { frames := 5, cells := 0, slots := 0, locals := 112 }
theorem hYX5_moodsSwapped : gY yX5_moodsSwapped wsX5_moodsSwapped cX5_moodsSwapped 4 (some .int) 3 := ⟨⟨_, rfl⟩, by decide +kernel, by decide +kernel, by decide +kernel⟩
theorem iwX5_moodsSwapped_X5 : ∀ w ∈ u_ws RX5 TX5 8, w ∈ wsX5_moodsSwapped := by decide +kernel
theorem lkX5_moodsSwapped_16 : Cond.fieldLink RX5 16 "MuffinBells" "trial" "LMuffinBells$Terrace;" ∈ wsX5_moodsSwapped := by decide +kernel
theorem lkX5_moodsSwapped_10 : Cond.fieldLink RX5 10 "MuffinBells" "present" "LMuffinBells$Terrace;" ∈ wsX5_moodsSwapped := by decide +kernel
theorem iwX5_moodsSwapped_X3 : ∀ w ∈ u_ws RX3 TX3 11, w ∈ wsX5_moodsSwapped := by decide +kernel
theorem lkX5_moodsSwapped_113 : Cond.fieldLink RX5 113 "MuffinBells$Terrace" "moods" "[I" ∈ wsX5_moodsSwapped := by decide +kernel
set_option maxRecDepth 100000 in
set_option maxHeartbeats 4000000 in
theorem c_X5_moodsSwapped (l : Launch) (E : gE) (a : Nat → Nat) (c : Cor) (g : Gar) (h0 : Int32) (o0 : Int32) (N : Nat) (hat : vp_in (tAt c.1) 8) (hN : N < 2 ^ 31) (hh : vp_in h0 8) (ho : vp_in o0 8) : cti l yX5_moodsSwapped wsX5_moodsSwapped rmX5_moodsSwapped E [.ref (a 0), .int h0, .int o0, .int (nI N)] (xW E a c g) (fun r w => r = sumN (goHs N (chFam c.1 h0 o0)).2.2.2.2.2.2.2.2.1 8 ∧ w = (xW E a c ((goHs N (chFam c.1 h0 o0)), g.2.1, g.2.2.1, g.2.2.2.1, g.2.2.2.2))) := by
  refine mt_i (cc := cX5_moodsSwapped) (maxL := 4) (ret := some .int) (lv0 := [(0, .ref (a 0)), (1, .int h0), (2, .int o0), (3, .int (nI N))]) (by decide) rfl rfl (Nat.le_of_ble_eq_true rfl) (fun X cx gr hI => ?_)
  refine g_aload_n cx dX5_moodsSwapped_0 0 rfl ?_
  refine g_get (C := RX5) (T := TX5) (N := 8) (v := .ref (a 6)) cx iwX5_moodsSwapped_X5 0 1 rfl rfl (by decide) lkX5_moodsSwapped_16 rfl dX5_moodsSwapped_1 ?_
  refine g_aload_n cx dX5_moodsSwapped_4 0 rfl ?_
  refine g_get (C := RX5) (T := TX5) (N := 8) (v := .ref (a 1)) cx iwX5_moodsSwapped_X5 0 0 rfl rfl (by decide) lkX5_moodsSwapped_10 rfl dX5_moodsSwapped_5 ?_
  refine g_XBtp cx gX5_moodsSwapped_X3_become ⟨Nat.le_of_ble_eq_true rfl, Nat.le_of_ble_eq_true rfl⟩ (Nat.le_of_ble_eq_true rfl) dX5_moodsSwapped_8 ?_ (Nat.zero_le _) (Nat.zero_le _)
  refine g_aload_n cx dX5_moodsSwapped_11 0 rfl ?_
  refine g_get (C := RX5) (T := TX5) (N := 8) (v := .ref (a 6)) cx iwX5_moodsSwapped_X5 0 1 rfl rfl (by decide) lkX5_moodsSwapped_16 rfl dX5_moodsSwapped_12 ?_
  refine g_iload_n cx dX5_moodsSwapped_15 1 rfl ?_
  refine g_iload_n cx dX5_moodsSwapped_16 2 rfl ?_
  refine g_Xtv (rest := []) (As := [.int h0, .int o0]) cx hYX3_changeFamilies gX5_moodsSwapped_X3_changeFamilies (c_X3_changeFamilies l E (fun i => a (6 + i)) c.1 h0 o0 hh ho) rfl ⟨Nat.le_of_ble_eq_true rfl, Nat.le_of_ble_eq_true rfl⟩ rfl rfl (Nat.le_of_ble_eq_true rfl) ⟨Nat.le_of_ble_eq_true rfl, Nat.le_of_ble_eq_true rfl⟩ dX5_moodsSwapped_17 ?_
  refine g_aload_n cx dX5_moodsSwapped_20 0 rfl ?_
  refine g_get (C := RX5) (T := TX5) (N := 8) (v := .ref (a 6)) cx iwX5_moodsSwapped_X5 0 1 rfl rfl (by decide) lkX5_moodsSwapped_16 rfl dX5_moodsSwapped_21 ?_
  refine g_iload_n cx dX5_moodsSwapped_24 3 rfl ?_
  refine g_Xtv (rest := []) (As := [.int (nI N)]) cx hYX3_goHours gX5_moodsSwapped_X3_goHours (c_X3_goHours l E (fun i => a (6 + i)) (chFam c.1 h0 o0) N hat hN) rfl ⟨Nat.le_of_ble_eq_true rfl, Nat.le_of_ble_eq_true rfl⟩ rfl rfl (Nat.le_of_ble_eq_true rfl) ⟨Nat.le_of_ble_eq_true rfl, Nat.le_of_ble_eq_true rfl⟩ dX5_moodsSwapped_25 ?_
  refine g_aload_n cx dX5_moodsSwapped_28 0 rfl ?_
  refine g_get (C := RX5) (T := TX5) (N := 8) (v := .ref (a 6)) cx iwX5_moodsSwapped_X5 0 1 rfl rfl (by decide) lkX5_moodsSwapped_16 rfl dX5_moodsSwapped_29 ?_
  refine g_get (C := RX3) (T := TX3) (N := 11) (v := .ref (a 8)) cx iwX5_moodsSwapped_X3 6 8 rfl rfl (by decide) lkX5_moodsSwapped_113 rfl dX5_moodsSwapped_32 ?_
  refine g_Si (rest := []) (As := [.ref (a 8)]) (wr := (xW E a c ((goHs N (chFam c.1 h0 o0)), g.2.1, g.2.2.1, g.2.2.2.1, g.2.2.2.2)).eraseIdx 8) cx hYX5_sum gX5_moodsSwapped_X5_sum (c_X5_sum l E (a 8) 8 ((goHs N (chFam c.1 h0 o0)).2.2.2.2.2.2.2.2.1) (by decide)) [8] [0, 1, 2, 3, 4, 5, 6, 7, 9, 10, 11, 12, 13, 14, 15, 16, 17, 18, 19, 20, 21, 22, 23, 24, 25, 26, 27, 28] rfl rfl rfl rfl (by decide) ⟨Nat.le_of_ble_eq_true rfl, Nat.le_of_ble_eq_true rfl⟩ rfl rfl (Nat.le_of_ble_eq_true rfl) ⟨Nat.le_of_ble_eq_true rfl, Nat.le_of_ble_eq_true rfl⟩ dX5_moodsSwapped_35 (fun r w1 hp => ?_)
  obtain ⟨rfl, rfl⟩ := hp
  refine g_ws (ws' := (xW E a c ((goHs N (chFam c.1 h0 o0)), g.2.1, g.2.2.1, g.2.2.2.1, g.2.2.2.2))) [0, 1, 2, 3, 4, 5, 6, 7, 28, 8, 9, 10, 11, 12, 13, 14, 15, 16, 17, 18, 19, 20, 21, 22, 23, 24, 25, 26, 27] rfl rfl ?_
  exact g_iret cx gr (Nat.zero_le _) (Nat.zero_le _) dX5_moodsSwapped_38 ⟨rfl, rfl⟩

abbrev rmX5_hours : Room := { frames := 5, cells := 0, slots := 0, locals := 112 }
theorem hYX5_hours : gY yX5_hours wsX5_hours cX5_hours 2 (some .int) 1 := ⟨⟨_, rfl⟩, by decide +kernel, by decide +kernel, by decide +kernel⟩
theorem iwX5_hours_X5 : ∀ w ∈ u_ws RX5 TX5 8, w ∈ wsX5_hours := by decide +kernel
theorem lkX5_hours_10 : Cond.fieldLink RX5 10 "MuffinBells" "present" "LMuffinBells$Terrace;" ∈ wsX5_hours := by decide +kernel
theorem iwX5_hours_X3 : ∀ w ∈ u_ws RX3 TX3 11, w ∈ wsX5_hours := by decide +kernel
theorem lkX5_hours_84 : Cond.fieldLink RX5 84 "MuffinBells$Terrace" "hour" "I" ∈ wsX5_hours := by decide +kernel
theorem m1X5_hours_c150 : Cond.constant RX5 150 (99999) ∈ wsX5_hours := by decide +kernel
theorem lkX5_hours_103 : Cond.fieldLink RX5 103 "MuffinBells$Terrace" "takings" "I" ∈ wsX5_hours := by decide +kernel
theorem m1X5_hours_c151 : Cond.constant RX5 151 (-1000000005) ∈ wsX5_hours := by decide +kernel
theorem m1X5_hours_c61 : Cond.constant RX5 61 (-1000000001) ∈ wsX5_hours := by decide +kernel
set_option maxRecDepth 100000 in
set_option maxHeartbeats 4000000 in
theorem c_X5_hours (l : Launch) (E : gE) (a : Nat → Nat) (c : Cor) (g : Gar) (n0 : Int32) (hok : cOk c) : cti l yX5_hours wsX5_hours rmX5_hours E [.ref (a 0), .int n0] (xW E a c g) (fun r w => ∃ g', r = (sp_hours c n0).1 ∧ w = xW E a (sp_hours c n0).2 g') := by
  refine mt_i (cc := cX5_hours) (maxL := 2) (ret := some .int) (lv0 := [(0, .ref (a 0)), (1, .int n0)]) (by decide) rfl rfl (Nat.le_of_ble_eq_true rfl) (fun X cx gr hI => ?_)
  refine g_iload_n cx dX5_hours_0 1 rfl ?_
  refine g_iconst (v := 1) cx dX5_hours_1 (by decide) ?_
  refine g_bipush (v := 100) cx dX5_hours_2 (by decide) ?_
  refine g_SPi (rest := []) (As := [.int n0, .int 1, .int 100]) cx hYX5_isWithin gX5_hours_X5_isWithin (c_X5_isWithin l E n0 1 100 ) ⟨Nat.le_of_ble_eq_true rfl, Nat.le_of_ble_eq_true rfl⟩ rfl rfl (Nat.le_of_ble_eq_true rfl) ⟨Nat.le_of_ble_eq_true rfl, Nat.le_of_ble_eq_true rfl⟩ dX5_hours_4 ?_
  refine g_if_ne (tgt := 17) cx dX5_hours_7 (by decide) (fun c_1 => ?_) (fun c_1 => ?_)
  · obtain ⟨N, hN1, hN, rfl⟩ := isW_nI1 100 c_1 (by decide)
    have hNc : (nI N).toNatClampNeg = N := nI_clamp (by omega)
    refine g_aload_n cx dX5_hours_17 0 rfl ?_
    refine g_get (C := RX5) (T := TX5) (N := 8) (v := .ref (a 1)) cx iwX5_hours_X5 0 0 rfl rfl (by decide) lkX5_hours_10 rfl dX5_hours_18 ?_
    refine g_get (C := RX3) (T := TX3) (N := 11) (v := .int c.1.1) cx iwX5_hours_X3 1 0 rfl rfl (by decide) lkX5_hours_84 rfl dX5_hours_21 ?_
    refine g_ldc cx m1X5_hours_c150 dX5_hours_24 ?_
    refine g_iload_n cx dX5_hours_26 1 rfl ?_
    refine g_isub cx dX5_hours_27 ?_
    refine g_icmp_le (tgt := 38) cx dX5_hours_28 (by decide) (fun c_2 => ?_) (fun c_2 => ?_)
    · refine g_aload_n cx dX5_hours_38 0 rfl ?_
      refine g_get (C := RX5) (T := TX5) (N := 8) (v := .ref (a 1)) cx iwX5_hours_X5 0 0 rfl rfl (by decide) lkX5_hours_10 rfl dX5_hours_39 ?_
      refine g_iload_n cx dX5_hours_42 1 rfl ?_
      refine g_Xpv (rest := []) (As := [.int (nI N)]) cx hYX3_goHours gX5_hours_X3_goHours (c_X3_goHours l E (fun i => a (1 + i)) c.1 N hok.1.1 (by omega)) rfl ⟨Nat.le_of_ble_eq_true rfl, Nat.le_of_ble_eq_true rfl⟩ rfl rfl (Nat.le_of_ble_eq_true rfl) ⟨Nat.le_of_ble_eq_true rfl, Nat.le_of_ble_eq_true rfl⟩ dX5_hours_43 ?_
      refine g_aload_n cx dX5_hours_46 0 rfl ?_
      refine g_get (C := RX5) (T := TX5) (N := 8) (v := .ref (a 1)) cx iwX5_hours_X5 0 0 rfl rfl (by decide) lkX5_hours_10 rfl dX5_hours_47 ?_
      refine g_get (C := RX3) (T := TX3) (N := 11) (v := .int ((goHs N c.1).2.2.2.2.2.2.1)) cx iwX5_hours_X3 1 6 rfl rfl (by decide) lkX5_hours_103 rfl dX5_hours_50 ?_
      exact g_iret cx gr (Nat.zero_le _) (Nat.zero_le _) dX5_hours_53 (xleaf (by rw [sp_hours, if_neg c_1, if_pos ((hour_w hok.1.2.2.2 hN).mp c_2), hNc]))
    · refine g_aload_n cx dX5_hours_31 0 rfl ?_
      refine g_ldc cx m1X5_hours_c151 dX5_hours_32 ?_
      refine g_VSi (rest := []) (As := [.int (-1000000005)]) cx hYX5_finding gX5_hours_X5_finding (c_X5_finding l E a c g (-1000000005) (by unfold vp_in; decide +kernel)) rfl rfl rfl ⟨Nat.le_of_ble_eq_true rfl, Nat.le_of_ble_eq_true rfl⟩ rfl rfl (Nat.le_of_ble_eq_true rfl) ⟨Nat.le_of_ble_eq_true rfl, Nat.le_of_ble_eq_true rfl⟩ dX5_hours_34 (fun r w1 hp => ?_)
      obtain ⟨rfl, rfl⟩ := hp
      exact g_iret cx gr (Nat.zero_le _) (Nat.zero_le _) dX5_hours_37 (xleaf (by rw [sp_hours, if_neg c_1, if_neg (fun q => c_2 ((hour_w hok.1.2.2.2 hN).mpr q))]; rfl))
  · refine g_aload_n cx dX5_hours_10 0 rfl ?_
    refine g_ldc cx m1X5_hours_c61 dX5_hours_11 ?_
    refine g_VSi (rest := []) (As := [.int (-1000000001)]) cx hYX5_finding gX5_hours_X5_finding (c_X5_finding l E a c g (-1000000001) (by unfold vp_in; decide +kernel)) rfl rfl rfl ⟨Nat.le_of_ble_eq_true rfl, Nat.le_of_ble_eq_true rfl⟩ rfl rfl (Nat.le_of_ble_eq_true rfl) ⟨Nat.le_of_ble_eq_true rfl, Nat.le_of_ble_eq_true rfl⟩ dX5_hours_13 (fun r w1 hp => ?_)
    obtain ⟨rfl, rfl⟩ := hp
    exact g_iret cx gr (Nat.zero_le _) (Nat.zero_le _) dX5_hours_16 (xleaf (by first | (simp only [sp_hours, tKind, tMood, tPen, tAte, tHour, tTray, tAt, tRang, tCrack, tTak, tWay, cB, c_1, if_true, if_false]; done) | (simp only [sp_hours, tKind, tMood, tPen, tAte, tHour, tTray, tAt, tRang, tCrack, tTak, tWay, cB, c_1, if_true, if_false] <;> rfl) | (simp [sp_hours, tKind, tMood, tPen, tAte, tHour, tTray, tAt, tRang, tCrack, tTak, tWay, cB, c_1] <;> rfl)))

abbrev rmX5_on : Room := { frames := 6, cells := 0, slots := 0, locals := 133 }
theorem hYX5_on : gY yX5_on wsX5_on cX5_on 4 (some .int) 3 := ⟨⟨_, rfl⟩, by decide +kernel, by decide +kernel, by decide +kernel⟩
theorem m1X5_on_c61 : Cond.constant RX5 61 (-1000000001) ∈ wsX5_on := by decide +kernel
theorem iwX5_on_X5 : ∀ w ∈ u_ws RX5 TX5 8, w ∈ wsX5_on := by decide +kernel
theorem lkX5_on_16 : Cond.fieldLink RX5 16 "MuffinBells" "trial" "LMuffinBells$Terrace;" ∈ wsX5_on := by decide +kernel
theorem iwX5_on_X3 : ∀ w ∈ u_ws RX3 TX3 11, w ∈ wsX5_on := by decide +kernel
theorem lkX5_on_119 : Cond.fieldLink RX5 119 "MuffinBells$Terrace" "ate" "[I" ∈ wsX5_on := by decide +kernel
theorem lkX5_on_113 : Cond.fieldLink RX5 113 "MuffinBells$Terrace" "moods" "[I" ∈ wsX5_on := by decide +kernel
set_option maxRecDepth 100000 in
set_option maxHeartbeats 4000000 in
theorem c_X5_on (l : Launch) (E : gE) (a : Nat → Nat) (c : Cor) (g : Gar) (h0 : Int32) (n0 : Int32) (w0 : Int32) (hok : cOk c) : cti l yX5_on wsX5_on rmX5_on E [.ref (a 0), .int h0, .int n0, .int w0] (xW E a c g) (fun r w => ∃ g', r = (sp_on c h0 n0 w0).1 ∧ w = xW E a (sp_on c h0 n0 w0).2 g') := by
  refine mt_i (cc := cX5_on) (maxL := 4) (ret := some .int) (lv0 := [(0, .ref (a 0)), (1, .int h0), (2, .int n0), (3, .int w0)]) (by decide) rfl rfl (Nat.le_of_ble_eq_true rfl) (fun X cx gr hI => ?_)
  refine g_iload_n cx dX5_on_0 1 rfl ?_
  refine g_SPi (rest := []) (As := [.int h0]) cx hYX5_isHouse gX5_on_X5_isHouse (c_X5_isHouse l E h0 ) ⟨Nat.le_of_ble_eq_true rfl, Nat.le_of_ble_eq_true rfl⟩ rfl rfl (Nat.le_of_ble_eq_true rfl) ⟨Nat.le_of_ble_eq_true rfl, Nat.le_of_ble_eq_true rfl⟩ dX5_on_1 ?_
  refine g_if_eq (tgt := 23) cx dX5_on_4 (by decide) (fun c_1 => ?_) (fun c_1 => ?_)
  · refine g_aload_n cx dX5_on_23 0 rfl ?_
    refine g_ldc cx m1X5_on_c61 dX5_on_24 ?_
    refine g_VSi (rest := []) (As := [.int (-1000000001)]) cx hYX5_finding gX5_on_X5_finding (c_X5_finding l E a c g (-1000000001) (by unfold vp_in; decide +kernel)) rfl rfl rfl ⟨Nat.le_of_ble_eq_true rfl, Nat.le_of_ble_eq_true rfl⟩ rfl rfl (Nat.le_of_ble_eq_true rfl) ⟨Nat.le_of_ble_eq_true rfl, Nat.le_of_ble_eq_true rfl⟩ dX5_on_26 (fun r w1 hp => ?_)
    obtain ⟨rfl, rfl⟩ := hp
    exact g_iret cx gr (Nat.zero_le _) (Nat.zero_le _) dX5_on_29 (xleaf (by first | (simp only [sp_on, tKind, tMood, tPen, tAte, tHour, tTray, tAt, tRang, tCrack, tTak, tWay, cB, c_1, if_true, if_false]; done) | (simp only [sp_on, tKind, tMood, tPen, tAte, tHour, tTray, tAt, tRang, tCrack, tTak, tWay, cB, c_1, if_true, if_false] <;> rfl) | (simp [sp_on, tKind, tMood, tPen, tAte, tHour, tTray, tAt, tRang, tCrack, tTak, tWay, cB, c_1] <;> rfl)))
  · refine g_iload_n cx dX5_on_7 2 rfl ?_
    refine g_SPi (rest := []) (As := [.int n0]) cx hYX5_isHoursOn gX5_on_X5_isHoursOn (c_X5_isHoursOn l E n0 ) ⟨Nat.le_of_ble_eq_true rfl, Nat.le_of_ble_eq_true rfl⟩ rfl rfl (Nat.le_of_ble_eq_true rfl) ⟨Nat.le_of_ble_eq_true rfl, Nat.le_of_ble_eq_true rfl⟩ dX5_on_8 ?_
    refine g_if_eq (tgt := 23) cx dX5_on_11 (by decide) (fun c_2 => ?_) (fun c_2 => ?_)
    · refine g_aload_n cx dX5_on_23 0 rfl ?_
      refine g_ldc cx m1X5_on_c61 dX5_on_24 ?_
      refine g_VSi (rest := []) (As := [.int (-1000000001)]) cx hYX5_finding gX5_on_X5_finding (c_X5_finding l E a c g (-1000000001) (by unfold vp_in; decide +kernel)) rfl rfl rfl ⟨Nat.le_of_ble_eq_true rfl, Nat.le_of_ble_eq_true rfl⟩ rfl rfl (Nat.le_of_ble_eq_true rfl) ⟨Nat.le_of_ble_eq_true rfl, Nat.le_of_ble_eq_true rfl⟩ dX5_on_26 (fun r w1 hp => ?_)
      obtain ⟨rfl, rfl⟩ := hp
      exact g_iret cx gr (Nat.zero_le _) (Nat.zero_le _) dX5_on_29 (xleaf (by first | (simp only [sp_on, tKind, tMood, tPen, tAte, tHour, tTray, tAt, tRang, tCrack, tTak, tWay, cB, c_1, c_2, if_true, if_false]; done) | (simp only [sp_on, tKind, tMood, tPen, tAte, tHour, tTray, tAt, tRang, tCrack, tTak, tWay, cB, c_1, c_2, if_true, if_false] <;> rfl) | (simp [sp_on, tKind, tMood, tPen, tAte, tHour, tTray, tAt, tRang, tCrack, tTak, tWay, cB, c_1, c_2] <;> rfl)))
    · obtain ⟨N, hN, rfl⟩ := isW_nI 200 c_2 (by decide)
      have hNc : (nI N).toNatClampNeg = N := nI_clamp (by omega)
      refine g_iload_n cx dX5_on_14 3 rfl ?_
      refine g_iconst (v := 0) cx dX5_on_15 (by decide) ?_
      refine g_iconst (v := 1) cx dX5_on_16 (by decide) ?_
      refine g_SPi (rest := []) (As := [.int w0, .int 0, .int 1]) cx hYX5_isWithin gX5_on_X5_isWithin (c_X5_isWithin l E w0 0 1 ) ⟨Nat.le_of_ble_eq_true rfl, Nat.le_of_ble_eq_true rfl⟩ rfl rfl (Nat.le_of_ble_eq_true rfl) ⟨Nat.le_of_ble_eq_true rfl, Nat.le_of_ble_eq_true rfl⟩ dX5_on_17 ?_
      refine g_if_ne (tgt := 30) cx dX5_on_20 (by decide) (fun c_3 => ?_) (fun c_3 => ?_)
      · refine g_aload_n cx dX5_on_30 0 rfl ?_
        refine g_iload_n cx dX5_on_31 2 rfl ?_
        refine g_VSv (rest := []) (As := [.int (nI N)]) cx hYX5_goOn gX5_on_X5_goOn (c_X5_goOn l E a c g N hok.1.1 (by omega)) rfl rfl rfl ⟨Nat.le_of_ble_eq_true rfl, Nat.le_of_ble_eq_true rfl⟩ rfl rfl (Nat.le_of_ble_eq_true rfl) ⟨Nat.le_of_ble_eq_true rfl, Nat.le_of_ble_eq_true rfl⟩ dX5_on_32 (fun w1 hp => ?_)
        obtain rfl := hp
        refine g_iload_n cx dX5_on_35 3 rfl ?_
        refine g_if_ne (tgt := 51) cx dX5_on_36 (by decide) (fun c_4 => ?_) (fun c_4 => ?_)
        · refine g_aload_n cx dX5_on_51 0 rfl ?_
          refine g_get (C := RX5) (T := TX5) (N := 8) (v := .ref (a 6)) cx iwX5_on_X5 0 1 rfl rfl (by decide) lkX5_on_16 rfl dX5_on_52 ?_
          refine g_get (C := RX3) (T := TX3) (N := 11) (v := .ref (a 10)) cx iwX5_on_X3 6 10 rfl rfl (by decide) lkX5_on_119 rfl dX5_on_55 ?_
          refine g_iload_n cx dX5_on_58 1 rfl ?_
          refine g_iald cx 10 rfl rfl (isW_vp 7 c_1 (by decide)) dX5_on_59 ?_
          exact g_iret cx gr (Nat.zero_le _) (Nat.zero_le _) dX5_on_60 (xleaf (by first | (simp only [sp_on, hNc, tKind, tMood, tPen, tAte, tHour, tTray, tAt, tRang, tCrack, tTak, tWay, cB, c_1, c_2, c_3, c_4, if_true, if_false]; done) | (simp only [sp_on, hNc, tKind, tMood, tPen, tAte, tHour, tTray, tAt, tRang, tCrack, tTak, tWay, cB, c_1, c_2, c_3, c_4, if_true, if_false] <;> rfl) | (simp [sp_on, hNc, tKind, tMood, tPen, tAte, tHour, tTray, tAt, tRang, tCrack, tTak, tWay, cB, c_1, c_2, c_3, c_4] <;> rfl)))
        · refine g_aload_n cx dX5_on_39 0 rfl ?_
          refine g_get (C := RX5) (T := TX5) (N := 8) (v := .ref (a 6)) cx iwX5_on_X5 0 1 rfl rfl (by decide) lkX5_on_16 rfl dX5_on_40 ?_
          refine g_get (C := RX3) (T := TX3) (N := 11) (v := .ref (a 8)) cx iwX5_on_X3 6 8 rfl rfl (by decide) lkX5_on_113 rfl dX5_on_43 ?_
          refine g_iload_n cx dX5_on_46 1 rfl ?_
          refine g_iald cx 8 rfl rfl (isW_vp 7 c_1 (by decide)) dX5_on_47 ?_
          refine g_goto (tgt := 60) cx dX5_on_48 (by decide) ?_
          exact g_iret cx gr (Nat.zero_le _) (Nat.zero_le _) dX5_on_60 (xleaf (by first | (simp only [sp_on, hNc, tKind, tMood, tPen, tAte, tHour, tTray, tAt, tRang, tCrack, tTak, tWay, cB, c_1, c_2, c_3, c_4, if_true, if_false]; done) | (simp only [sp_on, hNc, tKind, tMood, tPen, tAte, tHour, tTray, tAt, tRang, tCrack, tTak, tWay, cB, c_1, c_2, c_3, c_4, if_true, if_false] <;> rfl) | (simp [sp_on, hNc, tKind, tMood, tPen, tAte, tHour, tTray, tAt, tRang, tCrack, tTak, tWay, cB, c_1, c_2, c_3, c_4] <;> rfl)))
      · refine g_aload_n cx dX5_on_23 0 rfl ?_
        refine g_ldc cx m1X5_on_c61 dX5_on_24 ?_
        refine g_VSi (rest := []) (As := [.int (-1000000001)]) cx hYX5_finding gX5_on_X5_finding (c_X5_finding l E a c g (-1000000001) (by unfold vp_in; decide +kernel)) rfl rfl rfl ⟨Nat.le_of_ble_eq_true rfl, Nat.le_of_ble_eq_true rfl⟩ rfl rfl (Nat.le_of_ble_eq_true rfl) ⟨Nat.le_of_ble_eq_true rfl, Nat.le_of_ble_eq_true rfl⟩ dX5_on_26 (fun r w1 hp => ?_)
        obtain ⟨rfl, rfl⟩ := hp
        exact g_iret cx gr (Nat.zero_le _) (Nat.zero_le _) dX5_on_29 (xleaf (by first | (simp only [sp_on, hNc, tKind, tMood, tPen, tAte, tHour, tTray, tAt, tRang, tCrack, tTak, tWay, cB, c_1, c_2, c_3, if_true, if_false]; done) | (simp only [sp_on, hNc, tKind, tMood, tPen, tAte, tHour, tTray, tAt, tRang, tCrack, tTak, tWay, cB, c_1, c_2, c_3, if_true, if_false] <;> rfl) | (simp [sp_on, hNc, tKind, tMood, tPen, tAte, tHour, tTray, tAt, tRang, tCrack, tTak, tWay, cB, c_1, c_2, c_3] <;> rfl)))

abbrev rmX5_rang : Room := { frames := 6, cells := 0, slots := 0, locals := 133 }
theorem hYX5_rang : gY yX5_rang wsX5_rang cX5_rang 2 (some .int) 1 := ⟨⟨_, rfl⟩, by decide +kernel, by decide +kernel, by decide +kernel⟩
theorem iwX5_rang_X5 : ∀ w ∈ u_ws RX5 TX5 8, w ∈ wsX5_rang := by decide +kernel
theorem lkX5_rang_16 : Cond.fieldLink RX5 16 "MuffinBells" "trial" "LMuffinBells$Terrace;" ∈ wsX5_rang := by decide +kernel
theorem iwX5_rang_X3 : ∀ w ∈ u_ws RX3 TX3 11, w ∈ wsX5_rang := by decide +kernel
theorem lkX5_rang_97 : Cond.fieldLink RX5 97 "MuffinBells$Terrace" "rang" "I" ∈ wsX5_rang := by decide +kernel
theorem m1X5_rang_c61 : Cond.constant RX5 61 (-1000000001) ∈ wsX5_rang := by decide +kernel
set_option maxRecDepth 100000 in
set_option maxHeartbeats 4000000 in
theorem c_X5_rang (l : Launch) (E : gE) (a : Nat → Nat) (c : Cor) (g : Gar) (n0 : Int32) (hok : cOk c) : cti l yX5_rang wsX5_rang rmX5_rang E [.ref (a 0), .int n0] (xW E a c g) (fun r w => ∃ g', r = (sp_rang c n0).1 ∧ w = xW E a (sp_rang c n0).2 g') := by
  refine mt_i (cc := cX5_rang) (maxL := 2) (ret := some .int) (lv0 := [(0, .ref (a 0)), (1, .int n0)]) (by decide) rfl rfl (Nat.le_of_ble_eq_true rfl) (fun X cx gr hI => ?_)
  refine g_iload_n cx dX5_rang_0 1 rfl ?_
  refine g_SPi (rest := []) (As := [.int n0]) cx hYX5_isHoursOn gX5_rang_X5_isHoursOn (c_X5_isHoursOn l E n0 ) ⟨Nat.le_of_ble_eq_true rfl, Nat.le_of_ble_eq_true rfl⟩ rfl rfl (Nat.le_of_ble_eq_true rfl) ⟨Nat.le_of_ble_eq_true rfl, Nat.le_of_ble_eq_true rfl⟩ dX5_rang_1 ?_
  refine g_if_ne (tgt := 14) cx dX5_rang_4 (by decide) (fun c_1 => ?_) (fun c_1 => ?_)
  · obtain ⟨N, hN, rfl⟩ := isW_nI 200 c_1 (by decide)
    have hNc : (nI N).toNatClampNeg = N := nI_clamp (by omega)
    refine g_aload_n cx dX5_rang_14 0 rfl ?_
    refine g_iload_n cx dX5_rang_15 1 rfl ?_
    refine g_VSv (rest := []) (As := [.int (nI N)]) cx hYX5_goOn gX5_rang_X5_goOn (c_X5_goOn l E a c g N hok.1.1 (by omega)) rfl rfl rfl ⟨Nat.le_of_ble_eq_true rfl, Nat.le_of_ble_eq_true rfl⟩ rfl rfl (Nat.le_of_ble_eq_true rfl) ⟨Nat.le_of_ble_eq_true rfl, Nat.le_of_ble_eq_true rfl⟩ dX5_rang_16 (fun w1 hp => ?_)
    obtain rfl := hp
    refine g_aload_n cx dX5_rang_19 0 rfl ?_
    refine g_get (C := RX5) (T := TX5) (N := 8) (v := .ref (a 6)) cx iwX5_rang_X5 0 1 rfl rfl (by decide) lkX5_rang_16 rfl dX5_rang_20 ?_
    refine g_get (C := RX3) (T := TX3) (N := 11) (v := .int ((goHs N c.1).2.2.2.2.1)) cx iwX5_rang_X3 6 4 rfl rfl (by decide) lkX5_rang_97 rfl dX5_rang_23 ?_
    exact g_iret cx gr (Nat.zero_le _) (Nat.zero_le _) dX5_rang_26 (xleaf (by first | (simp only [sp_rang, hNc, tKind, tMood, tPen, tAte, tHour, tTray, tAt, tRang, tCrack, tTak, tWay, cB, c_1, if_true, if_false]; done) | (simp only [sp_rang, hNc, tKind, tMood, tPen, tAte, tHour, tTray, tAt, tRang, tCrack, tTak, tWay, cB, c_1, if_true, if_false] <;> rfl) | (simp [sp_rang, hNc, tKind, tMood, tPen, tAte, tHour, tTray, tAt, tRang, tCrack, tTak, tWay, cB, c_1] <;> rfl)))
  · refine g_aload_n cx dX5_rang_7 0 rfl ?_
    refine g_ldc cx m1X5_rang_c61 dX5_rang_8 ?_
    refine g_VSi (rest := []) (As := [.int (-1000000001)]) cx hYX5_finding gX5_rang_X5_finding (c_X5_finding l E a c g (-1000000001) (by unfold vp_in; decide +kernel)) rfl rfl rfl ⟨Nat.le_of_ble_eq_true rfl, Nat.le_of_ble_eq_true rfl⟩ rfl rfl (Nat.le_of_ble_eq_true rfl) ⟨Nat.le_of_ble_eq_true rfl, Nat.le_of_ble_eq_true rfl⟩ dX5_rang_10 (fun r w1 hp => ?_)
    obtain ⟨rfl, rfl⟩ := hp
    exact g_iret cx gr (Nat.zero_le _) (Nat.zero_le _) dX5_rang_13 (xleaf (by first | (simp only [sp_rang, tKind, tMood, tPen, tAte, tHour, tTray, tAt, tRang, tCrack, tTak, tWay, cB, c_1, if_true, if_false]; done) | (simp only [sp_rang, tKind, tMood, tPen, tAte, tHour, tTray, tAt, tRang, tCrack, tTak, tWay, cB, c_1, if_true, if_false] <;> rfl) | (simp [sp_rang, tKind, tMood, tPen, tAte, tHour, tTray, tAt, tRang, tCrack, tTak, tWay, cB, c_1] <;> rfl)))

abbrev rmX5_takings : Room := { frames := 6, cells := 0, slots := 0, locals := 133 }
theorem hYX5_takings : gY yX5_takings wsX5_takings cX5_takings 2 (some .int) 1 := ⟨⟨_, rfl⟩, by decide +kernel, by decide +kernel, by decide +kernel⟩
theorem iwX5_takings_X5 : ∀ w ∈ u_ws RX5 TX5 8, w ∈ wsX5_takings := by decide +kernel
theorem lkX5_takings_16 : Cond.fieldLink RX5 16 "MuffinBells" "trial" "LMuffinBells$Terrace;" ∈ wsX5_takings := by decide +kernel
theorem iwX5_takings_X3 : ∀ w ∈ u_ws RX3 TX3 11, w ∈ wsX5_takings := by decide +kernel
theorem lkX5_takings_103 : Cond.fieldLink RX5 103 "MuffinBells$Terrace" "takings" "I" ∈ wsX5_takings := by decide +kernel
theorem m1X5_takings_c61 : Cond.constant RX5 61 (-1000000001) ∈ wsX5_takings := by decide +kernel
set_option maxRecDepth 100000 in
set_option maxHeartbeats 4000000 in
theorem c_X5_takings (l : Launch) (E : gE) (a : Nat → Nat) (c : Cor) (g : Gar) (n0 : Int32) (hok : cOk c) : cti l yX5_takings wsX5_takings rmX5_takings E [.ref (a 0), .int n0] (xW E a c g) (fun r w => ∃ g', r = (sp_takings c n0).1 ∧ w = xW E a (sp_takings c n0).2 g') := by
  refine mt_i (cc := cX5_takings) (maxL := 2) (ret := some .int) (lv0 := [(0, .ref (a 0)), (1, .int n0)]) (by decide) rfl rfl (Nat.le_of_ble_eq_true rfl) (fun X cx gr hI => ?_)
  refine g_iload_n cx dX5_takings_0 1 rfl ?_
  refine g_SPi (rest := []) (As := [.int n0]) cx hYX5_isHoursOn gX5_takings_X5_isHoursOn (c_X5_isHoursOn l E n0 ) ⟨Nat.le_of_ble_eq_true rfl, Nat.le_of_ble_eq_true rfl⟩ rfl rfl (Nat.le_of_ble_eq_true rfl) ⟨Nat.le_of_ble_eq_true rfl, Nat.le_of_ble_eq_true rfl⟩ dX5_takings_1 ?_
  refine g_if_ne (tgt := 14) cx dX5_takings_4 (by decide) (fun c_1 => ?_) (fun c_1 => ?_)
  · obtain ⟨N, hN, rfl⟩ := isW_nI 200 c_1 (by decide)
    have hNc : (nI N).toNatClampNeg = N := nI_clamp (by omega)
    refine g_aload_n cx dX5_takings_14 0 rfl ?_
    refine g_iload_n cx dX5_takings_15 1 rfl ?_
    refine g_VSv (rest := []) (As := [.int (nI N)]) cx hYX5_goOn gX5_takings_X5_goOn (c_X5_goOn l E a c g N hok.1.1 (by omega)) rfl rfl rfl ⟨Nat.le_of_ble_eq_true rfl, Nat.le_of_ble_eq_true rfl⟩ rfl rfl (Nat.le_of_ble_eq_true rfl) ⟨Nat.le_of_ble_eq_true rfl, Nat.le_of_ble_eq_true rfl⟩ dX5_takings_16 (fun w1 hp => ?_)
    obtain rfl := hp
    refine g_aload_n cx dX5_takings_19 0 rfl ?_
    refine g_get (C := RX5) (T := TX5) (N := 8) (v := .ref (a 6)) cx iwX5_takings_X5 0 1 rfl rfl (by decide) lkX5_takings_16 rfl dX5_takings_20 ?_
    refine g_get (C := RX3) (T := TX3) (N := 11) (v := .int ((goHs N c.1).2.2.2.2.2.2.1)) cx iwX5_takings_X3 6 6 rfl rfl (by decide) lkX5_takings_103 rfl dX5_takings_23 ?_
    exact g_iret cx gr (Nat.zero_le _) (Nat.zero_le _) dX5_takings_26 (xleaf (by first | (simp only [sp_takings, hNc, tKind, tMood, tPen, tAte, tHour, tTray, tAt, tRang, tCrack, tTak, tWay, cB, c_1, if_true, if_false]; done) | (simp only [sp_takings, hNc, tKind, tMood, tPen, tAte, tHour, tTray, tAt, tRang, tCrack, tTak, tWay, cB, c_1, if_true, if_false] <;> rfl) | (simp [sp_takings, hNc, tKind, tMood, tPen, tAte, tHour, tTray, tAt, tRang, tCrack, tTak, tWay, cB, c_1] <;> rfl)))
  · refine g_aload_n cx dX5_takings_7 0 rfl ?_
    refine g_ldc cx m1X5_takings_c61 dX5_takings_8 ?_
    refine g_VSi (rest := []) (As := [.int (-1000000001)]) cx hYX5_finding gX5_takings_X5_finding (c_X5_finding l E a c g (-1000000001) (by unfold vp_in; decide +kernel)) rfl rfl rfl ⟨Nat.le_of_ble_eq_true rfl, Nat.le_of_ble_eq_true rfl⟩ rfl rfl (Nat.le_of_ble_eq_true rfl) ⟨Nat.le_of_ble_eq_true rfl, Nat.le_of_ble_eq_true rfl⟩ dX5_takings_10 (fun r w1 hp => ?_)
    obtain ⟨rfl, rfl⟩ := hp
    exact g_iret cx gr (Nat.zero_le _) (Nat.zero_le _) dX5_takings_13 (xleaf (by first | (simp only [sp_takings, tKind, tMood, tPen, tAte, tHour, tTray, tAt, tRang, tCrack, tTak, tWay, cB, c_1, if_true, if_false]; done) | (simp only [sp_takings, tKind, tMood, tPen, tAte, tHour, tTray, tAt, tRang, tCrack, tTak, tWay, cB, c_1, if_true, if_false] <;> rfl) | (simp [sp_takings, tKind, tMood, tPen, tAte, tHour, tTray, tAt, tRang, tCrack, tTak, tWay, cB, c_1] <;> rfl)))

abbrev rmX5_moods : Room := { frames := 6, cells := 0, slots := 0, locals := 133 }
theorem hYX5_moods : gY yX5_moods wsX5_moods cX5_moods 2 (some .int) 1 := ⟨⟨_, rfl⟩, by decide +kernel, by decide +kernel, by decide +kernel⟩
theorem iwX5_moods_X5 : ∀ w ∈ u_ws RX5 TX5 8, w ∈ wsX5_moods := by decide +kernel
theorem lkX5_moods_16 : Cond.fieldLink RX5 16 "MuffinBells" "trial" "LMuffinBells$Terrace;" ∈ wsX5_moods := by decide +kernel
theorem iwX5_moods_X3 : ∀ w ∈ u_ws RX3 TX3 11, w ∈ wsX5_moods := by decide +kernel
theorem lkX5_moods_113 : Cond.fieldLink RX5 113 "MuffinBells$Terrace" "moods" "[I" ∈ wsX5_moods := by decide +kernel
theorem m1X5_moods_c61 : Cond.constant RX5 61 (-1000000001) ∈ wsX5_moods := by decide +kernel
set_option maxRecDepth 100000 in
set_option maxHeartbeats 4000000 in
theorem c_X5_moods (l : Launch) (E : gE) (a : Nat → Nat) (c : Cor) (g : Gar) (n0 : Int32) (hok : cOk c) : cti l yX5_moods wsX5_moods rmX5_moods E [.ref (a 0), .int n0] (xW E a c g) (fun r w => ∃ g', r = (sp_moods c n0).1 ∧ w = xW E a (sp_moods c n0).2 g') := by
  refine mt_i (cc := cX5_moods) (maxL := 2) (ret := some .int) (lv0 := [(0, .ref (a 0)), (1, .int n0)]) (by decide) rfl rfl (Nat.le_of_ble_eq_true rfl) (fun X cx gr hI => ?_)
  refine g_iload_n cx dX5_moods_0 1 rfl ?_
  refine g_SPi (rest := []) (As := [.int n0]) cx hYX5_isHoursOn gX5_moods_X5_isHoursOn (c_X5_isHoursOn l E n0 ) ⟨Nat.le_of_ble_eq_true rfl, Nat.le_of_ble_eq_true rfl⟩ rfl rfl (Nat.le_of_ble_eq_true rfl) ⟨Nat.le_of_ble_eq_true rfl, Nat.le_of_ble_eq_true rfl⟩ dX5_moods_1 ?_
  refine g_if_ne (tgt := 14) cx dX5_moods_4 (by decide) (fun c_1 => ?_) (fun c_1 => ?_)
  · obtain ⟨N, hN, rfl⟩ := isW_nI 200 c_1 (by decide)
    have hNc : (nI N).toNatClampNeg = N := nI_clamp (by omega)
    refine g_aload_n cx dX5_moods_14 0 rfl ?_
    refine g_iload_n cx dX5_moods_15 1 rfl ?_
    refine g_VSv (rest := []) (As := [.int (nI N)]) cx hYX5_goOn gX5_moods_X5_goOn (c_X5_goOn l E a c g N hok.1.1 (by omega)) rfl rfl rfl ⟨Nat.le_of_ble_eq_true rfl, Nat.le_of_ble_eq_true rfl⟩ rfl rfl (Nat.le_of_ble_eq_true rfl) ⟨Nat.le_of_ble_eq_true rfl, Nat.le_of_ble_eq_true rfl⟩ dX5_moods_16 (fun w1 hp => ?_)
    obtain rfl := hp
    refine g_aload_n cx dX5_moods_19 0 rfl ?_
    refine g_get (C := RX5) (T := TX5) (N := 8) (v := .ref (a 6)) cx iwX5_moods_X5 0 1 rfl rfl (by decide) lkX5_moods_16 rfl dX5_moods_20 ?_
    refine g_get (C := RX3) (T := TX3) (N := 11) (v := .ref (a 8)) cx iwX5_moods_X3 6 8 rfl rfl (by decide) lkX5_moods_113 rfl dX5_moods_23 ?_
    refine g_Si (rest := []) (As := [.ref (a 8)]) (wr := (xW E a c ((goHs N c.1), g.2.1, g.2.2.1, g.2.2.2.1, g.2.2.2.2)).eraseIdx 8) cx hYX5_sum gX5_moods_X5_sum (c_X5_sum l E (a 8) 8 ((goHs N c.1).2.2.2.2.2.2.2.2.1) (by decide)) [8] [0, 1, 2, 3, 4, 5, 6, 7, 9, 10, 11, 12, 13, 14, 15, 16, 17, 18, 19, 20, 21, 22, 23, 24, 25, 26, 27, 28] rfl rfl rfl rfl (by decide) ⟨Nat.le_of_ble_eq_true rfl, Nat.le_of_ble_eq_true rfl⟩ rfl rfl (Nat.le_of_ble_eq_true rfl) ⟨Nat.le_of_ble_eq_true rfl, Nat.le_of_ble_eq_true rfl⟩ dX5_moods_26 (fun r w1 hp => ?_)
    obtain ⟨rfl, rfl⟩ := hp
    refine g_ws (ws' := (xW E a c ((goHs N c.1), g.2.1, g.2.2.1, g.2.2.2.1, g.2.2.2.2))) [0, 1, 2, 3, 4, 5, 6, 7, 28, 8, 9, 10, 11, 12, 13, 14, 15, 16, 17, 18, 19, 20, 21, 22, 23, 24, 25, 26, 27] rfl rfl ?_
    exact g_iret cx gr (Nat.zero_le _) (Nat.zero_le _) dX5_moods_29 (xleaf (by first | (simp only [sp_moods, hNc, tKind, tMood, tPen, tAte, tHour, tTray, tAt, tRang, tCrack, tTak, tWay, cB, c_1, if_true, if_false]; done) | (simp only [sp_moods, hNc, tKind, tMood, tPen, tAte, tHour, tTray, tAt, tRang, tCrack, tTak, tWay, cB, c_1, if_true, if_false] <;> rfl) | (simp [sp_moods, hNc, tKind, tMood, tPen, tAte, tHour, tTray, tAt, tRang, tCrack, tTak, tWay, cB, c_1] <;> rfl)))
  · refine g_aload_n cx dX5_moods_7 0 rfl ?_
    refine g_ldc cx m1X5_moods_c61 dX5_moods_8 ?_
    refine g_VSi (rest := []) (As := [.int (-1000000001)]) cx hYX5_finding gX5_moods_X5_finding (c_X5_finding l E a c g (-1000000001) (by unfold vp_in; decide +kernel)) rfl rfl rfl ⟨Nat.le_of_ble_eq_true rfl, Nat.le_of_ble_eq_true rfl⟩ rfl rfl (Nat.le_of_ble_eq_true rfl) ⟨Nat.le_of_ble_eq_true rfl, Nat.le_of_ble_eq_true rfl⟩ dX5_moods_10 (fun r w1 hp => ?_)
    obtain ⟨rfl, rfl⟩ := hp
    exact g_iret cx gr (Nat.zero_le _) (Nat.zero_le _) dX5_moods_13 (xleaf (by first | (simp only [sp_moods, tKind, tMood, tPen, tAte, tHour, tTray, tAt, tRang, tCrack, tTak, tWay, cB, c_1, if_true, if_false]; done) | (simp only [sp_moods, tKind, tMood, tPen, tAte, tHour, tTray, tAt, tRang, tCrack, tTak, tWay, cB, c_1, if_true, if_false] <;> rfl) | (simp [sp_moods, tKind, tMood, tPen, tAte, tHour, tTray, tAt, tRang, tCrack, tTak, tWay, cB, c_1] <;> rfl)))

abbrev rmX5_empty : Room := { frames := 4, cells := 0, slots := 0, locals := 90 }
theorem hYX5_empty : gY yX5_empty wsX5_empty cX5_empty 2 (some .int) 0 := ⟨⟨_, rfl⟩, by decide +kernel, by decide +kernel, by decide +kernel⟩
theorem iwX5_empty_X5 : ∀ w ∈ u_ws RX5 TX5 8, w ∈ wsX5_empty := by decide +kernel
theorem lkX5_empty_16 : Cond.fieldLink RX5 16 "MuffinBells" "trial" "LMuffinBells$Terrace;" ∈ wsX5_empty := by decide +kernel
theorem lkX5_empty_10 : Cond.fieldLink RX5 10 "MuffinBells" "present" "LMuffinBells$Terrace;" ∈ wsX5_empty := by decide +kernel
theorem m1X5_empty_c173 : Cond.constant RX5 173 (-1000000004) ∈ wsX5_empty := by decide +kernel
theorem iwX5_empty_X3 : ∀ w ∈ u_ws RX3 TX3 11, w ∈ wsX5_empty := by decide +kernel
theorem lkX5_empty_94 : Cond.fieldLink RX5 94 "MuffinBells$Terrace" "tray" "I" ∈ wsX5_empty := by decide +kernel
set_option maxRecDepth 100000 in
set_option maxHeartbeats 4000000 in
theorem c_X5_empty (l : Launch) (E : gE) (a : Nat → Nat) (c : Cor) (g : Gar) (hok : cOk c) : cti l yX5_empty wsX5_empty rmX5_empty E [.ref (a 0)] (xW E a c g) (fun r w => ∃ g', r = (sp_empty c).1 ∧ w = xW E a (sp_empty c).2 g') := by
  refine mt_i (cc := cX5_empty) (maxL := 2) (ret := some .int) (lv0 := [(0, .ref (a 0))]) (by decide) rfl rfl (Nat.le_of_ble_eq_true rfl) (fun X cx gr hI => ?_)
  refine g_aload_n cx dX5_empty_0 0 rfl ?_
  refine g_get (C := RX5) (T := TX5) (N := 8) (v := .ref (a 6)) cx iwX5_empty_X5 0 1 rfl rfl (by decide) lkX5_empty_16 rfl dX5_empty_1 ?_
  refine g_aload_n cx dX5_empty_4 0 rfl ?_
  refine g_get (C := RX5) (T := TX5) (N := 8) (v := .ref (a 1)) cx iwX5_empty_X5 0 0 rfl rfl (by decide) lkX5_empty_10 rfl dX5_empty_5 ?_
  refine g_XBtp cx gX5_empty_X3_become ⟨Nat.le_of_ble_eq_true rfl, Nat.le_of_ble_eq_true rfl⟩ (Nat.le_of_ble_eq_true rfl) dX5_empty_8 ?_ (Nat.zero_le _) (Nat.zero_le _)
  refine g_iconst (v := 0) cx dX5_empty_11 (by decide) ?_
  refine g_istore_n (lv' := [(1, .int 0), (0, .ref (a 0))]) cx dX5_empty_12 (by decide) rfl ?_
  have LP13 : ∀ (d : Nat) (i : Nat) (x : Int32) (u : Ter), i + d = 202 → i ≤ 201 → x = nI i → fstAs 3 0 201 c.1 = i + fstAs 3 0 (201 - i) u → vp_in (tAt u) 8 → gG X 0 0 (xW E a c (u, g.2.1, g.2.2.1, g.2.2.2.1, g.2.2.2.2)) 13 [(0, .ref (a 0)), (1, .int x)] [] := by
    intro d
    induction d with
    | zero =>
      intro i x u hi hiN hx hf hat
      omega
    | succ d ih =>
      intro i x u hi hiN hx hf hat
      refine g_iload_n cx dX5_empty_13 1 rfl ?_
      refine g_sipush (v := 200) cx dX5_empty_14 (by decide) ?_
      refine g_icmp_gt (tgt := 45) cx dX5_empty_17 (by decide) (fun c_1 => ?_) (fun c_1 => ?_)
      · refine g_aload_n cx dX5_empty_45 0 rfl ?_
        refine g_ldc cx m1X5_empty_c173 dX5_empty_46 ?_
        refine g_VSi (rest := []) (As := [.int (-1000000004)]) cx hYX5_finding gX5_empty_X5_finding (c_X5_finding l E a c (u, g.2.1, g.2.2.1, g.2.2.2.1, g.2.2.2.2) (-1000000004) (by unfold vp_in; decide +kernel)) rfl rfl rfl ⟨Nat.le_of_ble_eq_true rfl, Nat.le_of_ble_eq_true rfl⟩ rfl rfl (Nat.le_of_ble_eq_true rfl) ⟨Nat.le_of_ble_eq_true rfl, Nat.le_of_ble_eq_true rfl⟩ dX5_empty_48 (fun r w1 hp => ?_)
        obtain ⟨rfl, rfl⟩ := hp
        exact g_iret cx gr (Nat.zero_le _) (Nat.zero_le _) dX5_empty_51 (xleaf (by rw [sp_empty]; exact cF_n hf (by have := gt_of 200 hx c_1 (by omega) (by decide); omega)))
      · refine g_aload_n cx dX5_empty_20 0 rfl ?_
        refine g_get (C := RX5) (T := TX5) (N := 8) (v := .ref (a 6)) cx iwX5_empty_X5 0 1 rfl rfl (by decide) lkX5_empty_16 rfl dX5_empty_21 ?_
        refine g_get (C := RX3) (T := TX3) (N := 11) (v := .int u.2.2.2.1) cx iwX5_empty_X3 6 3 rfl rfl (by decide) lkX5_empty_94 rfl dX5_empty_24 ?_
        refine g_if_ne (tgt := 32) cx dX5_empty_27 (by decide) (fun c_2 => ?_) (fun c_2 => ?_)
        · refine g_aload_n cx dX5_empty_32 0 rfl ?_
          refine g_get (C := RX5) (T := TX5) (N := 8) (v := .ref (a 6)) cx iwX5_empty_X5 0 1 rfl rfl (by decide) lkX5_empty_16 rfl dX5_empty_33 ?_
          refine g_Xtv (rest := []) (As := []) cx hYX3_goHour gX5_empty_X3_goHour (c_X3_goHour l E (fun i => a (6 + i)) u  hat) rfl ⟨Nat.le_of_ble_eq_true rfl, Nat.le_of_ble_eq_true rfl⟩ rfl rfl (Nat.le_of_ble_eq_true rfl) ⟨Nat.le_of_ble_eq_true rfl, Nat.le_of_ble_eq_true rfl⟩ dX5_empty_36 ?_
          refine g_iinc (v := x + 1) (lv' := [(1, .int (x + 1)), (0, .ref (a 0))]) cx dX5_empty_39 1 rfl rfl (by decide) rfl ?_
          refine g_goto (tgt := 13) cx dX5_empty_42 (by decide) ?_
          exact g_lv [1, 0] rfl (ih (i + 1) (x + 1) (goHour u) (by omega) (by have := le_of 200 hx c_1 (by omega) (by decide); omega) (by rw [hx]; exact nI_1 i) (cF_s hf (le_of 200 hx c_1 (by omega) (by decide)) c_2) (goHour_at hat))
        · refine g_iload_n cx dX5_empty_30 1 rfl ?_
          exact g_iret cx gr (Nat.zero_le _) (Nat.zero_le _) dX5_empty_31 (xleaf (by rw [sp_empty, hx]; exact cF_k hf (le_of 200 hx c_1 (by omega) (by decide)) c_2))
  exact g_lv [1, 0] rfl (LP13 202 0 0 c.1 (by omega) (by omega) rfl (Nat.zero_add _).symm hok.1.1)

abbrev rmX5_comes : Room := { frames := 4, cells := 0, slots := 0, locals := 90 }
theorem hYX5_comes : gY yX5_comes wsX5_comes cX5_comes 3 (some .int) 1 := ⟨⟨_, rfl⟩, by decide +kernel, by decide +kernel, by decide +kernel⟩
theorem iwX5_comes_X5 : ∀ w ∈ u_ws RX5 TX5 8, w ∈ wsX5_comes := by decide +kernel
theorem lkX5_comes_16 : Cond.fieldLink RX5 16 "MuffinBells" "trial" "LMuffinBells$Terrace;" ∈ wsX5_comes := by decide +kernel
theorem lkX5_comes_10 : Cond.fieldLink RX5 10 "MuffinBells" "present" "LMuffinBells$Terrace;" ∈ wsX5_comes := by decide +kernel
theorem m1X5_comes_c173 : Cond.constant RX5 173 (-1000000004) ∈ wsX5_comes := by decide +kernel
theorem iwX5_comes_X3 : ∀ w ∈ u_ws RX3 TX3 11, w ∈ wsX5_comes := by decide +kernel
theorem lkX5_comes_88 : Cond.fieldLink RX5 88 "MuffinBells$Terrace" "at" "I" ∈ wsX5_comes := by decide +kernel
theorem m1X5_comes_c61 : Cond.constant RX5 61 (-1000000001) ∈ wsX5_comes := by decide +kernel
set_option maxRecDepth 100000 in
set_option maxHeartbeats 4000000 in
theorem c_X5_comes (l : Launch) (E : gE) (a : Nat → Nat) (c : Cor) (g : Gar) (h0 : Int32) (hok : cOk c) : cti l yX5_comes wsX5_comes rmX5_comes E [.ref (a 0), .int h0] (xW E a c g) (fun r w => ∃ g', r = (sp_comes c h0).1 ∧ w = xW E a (sp_comes c h0).2 g') := by
  refine mt_i (cc := cX5_comes) (maxL := 3) (ret := some .int) (lv0 := [(0, .ref (a 0)), (1, .int h0)]) (by decide) rfl rfl (Nat.le_of_ble_eq_true rfl) (fun X cx gr hI => ?_)
  refine g_iload_n cx dX5_comes_0 1 rfl ?_
  refine g_SPi (rest := []) (As := [.int h0]) cx hYX5_isHouse gX5_comes_X5_isHouse (c_X5_isHouse l E h0 ) ⟨Nat.le_of_ble_eq_true rfl, Nat.le_of_ble_eq_true rfl⟩ rfl rfl (Nat.le_of_ble_eq_true rfl) ⟨Nat.le_of_ble_eq_true rfl, Nat.le_of_ble_eq_true rfl⟩ dX5_comes_1 ?_
  refine g_if_ne (tgt := 14) cx dX5_comes_4 (by decide) (fun c_1 => ?_) (fun c_1 => ?_)
  · refine g_aload_n cx dX5_comes_14 0 rfl ?_
    refine g_get (C := RX5) (T := TX5) (N := 8) (v := .ref (a 6)) cx iwX5_comes_X5 0 1 rfl rfl (by decide) lkX5_comes_16 rfl dX5_comes_15 ?_
    refine g_aload_n cx dX5_comes_18 0 rfl ?_
    refine g_get (C := RX5) (T := TX5) (N := 8) (v := .ref (a 1)) cx iwX5_comes_X5 0 0 rfl rfl (by decide) lkX5_comes_10 rfl dX5_comes_19 ?_
    refine g_XBtp cx gX5_comes_X3_become ⟨Nat.le_of_ble_eq_true rfl, Nat.le_of_ble_eq_true rfl⟩ (Nat.le_of_ble_eq_true rfl) dX5_comes_22 ?_ (Nat.zero_le _) (Nat.zero_le _)
    refine g_iconst (v := 0) cx dX5_comes_25 (by decide) ?_
    refine g_istore_n (lv' := [(2, .int 0), (0, .ref (a 0)), (1, .int h0)]) cx dX5_comes_26 (by decide) rfl ?_
    have LP27 : ∀ (d : Nat) (i : Nat) (x : Int32) (u : Ter), i + d = 202 → i ≤ 201 → x = nI i → fstAs 1 h0 201 c.1 = i + fstAs 1 h0 (201 - i) u → vp_in (tAt u) 8 → gG X 0 0 (xW E a c (u, g.2.1, g.2.2.1, g.2.2.2.1, g.2.2.2.2)) 27 [(0, .ref (a 0)), (1, .int h0), (2, .int x)] [] := by
      intro d
      induction d with
      | zero =>
        intro i x u hi hiN hx hf hat
        omega
      | succ d ih =>
        intro i x u hi hiN hx hf hat
        refine g_iload_n cx dX5_comes_27 2 rfl ?_
        refine g_sipush (v := 200) cx dX5_comes_28 (by decide) ?_
        refine g_icmp_gt (tgt := 60) cx dX5_comes_31 (by decide) (fun c_2 => ?_) (fun c_2 => ?_)
        · refine g_aload_n cx dX5_comes_60 0 rfl ?_
          refine g_ldc cx m1X5_comes_c173 dX5_comes_61 ?_
          refine g_VSi (rest := []) (As := [.int (-1000000004)]) cx hYX5_finding gX5_comes_X5_finding (c_X5_finding l E a c (u, g.2.1, g.2.2.1, g.2.2.2.1, g.2.2.2.2) (-1000000004) (by unfold vp_in; decide +kernel)) rfl rfl rfl ⟨Nat.le_of_ble_eq_true rfl, Nat.le_of_ble_eq_true rfl⟩ rfl rfl (Nat.le_of_ble_eq_true rfl) ⟨Nat.le_of_ble_eq_true rfl, Nat.le_of_ble_eq_true rfl⟩ dX5_comes_63 (fun r w1 hp => ?_)
          obtain ⟨rfl, rfl⟩ := hp
          exact g_iret cx gr (Nat.zero_le _) (Nat.zero_le _) dX5_comes_66 (xleaf (by rw [sp_comes, if_neg c_1]; exact cF_n hf (by have := gt_of 200 hx c_2 (by omega) (by decide); omega)))
        · refine g_aload_n cx dX5_comes_34 0 rfl ?_
          refine g_get (C := RX5) (T := TX5) (N := 8) (v := .ref (a 6)) cx iwX5_comes_X5 0 1 rfl rfl (by decide) lkX5_comes_16 rfl dX5_comes_35 ?_
          refine g_get (C := RX3) (T := TX3) (N := 11) (v := .int u.2.1) cx iwX5_comes_X3 6 1 rfl rfl (by decide) lkX5_comes_88 rfl dX5_comes_38 ?_
          refine g_iload_n cx dX5_comes_41 1 rfl ?_
          refine g_icmp_ne (tgt := 47) cx dX5_comes_42 (by decide) (fun c_3 => ?_) (fun c_3 => ?_)
          · refine g_aload_n cx dX5_comes_47 0 rfl ?_
            refine g_get (C := RX5) (T := TX5) (N := 8) (v := .ref (a 6)) cx iwX5_comes_X5 0 1 rfl rfl (by decide) lkX5_comes_16 rfl dX5_comes_48 ?_
            refine g_Xtv (rest := []) (As := []) cx hYX3_goHour gX5_comes_X3_goHour (c_X3_goHour l E (fun i => a (6 + i)) u  hat) rfl ⟨Nat.le_of_ble_eq_true rfl, Nat.le_of_ble_eq_true rfl⟩ rfl rfl (Nat.le_of_ble_eq_true rfl) ⟨Nat.le_of_ble_eq_true rfl, Nat.le_of_ble_eq_true rfl⟩ dX5_comes_51 ?_
            refine g_iinc (v := x + 1) (lv' := [(2, .int (x + 1)), (0, .ref (a 0)), (1, .int h0)]) cx dX5_comes_54 2 rfl rfl (by decide) rfl ?_
            refine g_goto (tgt := 27) cx dX5_comes_57 (by decide) ?_
            exact g_lv [1, 2, 0] rfl (ih (i + 1) (x + 1) (goHour u) (by omega) (by have := le_of 200 hx c_2 (by omega) (by decide); omega) (by rw [hx]; exact nI_1 i) (cF_s hf (le_of 200 hx c_2 (by omega) (by decide)) c_3) (goHour_at hat))
          · refine g_iload_n cx dX5_comes_45 2 rfl ?_
            exact g_iret cx gr (Nat.zero_le _) (Nat.zero_le _) dX5_comes_46 (xleaf (by rw [sp_comes, if_neg c_1, hx]; exact cF_k hf (le_of 200 hx c_2 (by omega) (by decide)) c_3))
    exact g_lv [1, 2, 0] rfl (LP27 202 0 0 c.1 (by omega) (by omega) rfl (Nat.zero_add _).symm hok.1.1)
  · refine g_aload_n cx dX5_comes_7 0 rfl ?_
    refine g_ldc cx m1X5_comes_c61 dX5_comes_8 ?_
    refine g_VSi (rest := []) (As := [.int (-1000000001)]) cx hYX5_finding gX5_comes_X5_finding (c_X5_finding l E a c g (-1000000001) (by unfold vp_in; decide +kernel)) rfl rfl rfl ⟨Nat.le_of_ble_eq_true rfl, Nat.le_of_ble_eq_true rfl⟩ rfl rfl (Nat.le_of_ble_eq_true rfl) ⟨Nat.le_of_ble_eq_true rfl, Nat.le_of_ble_eq_true rfl⟩ dX5_comes_10 (fun r w1 hp => ?_)
    obtain ⟨rfl, rfl⟩ := hp
    exact g_iret cx gr (Nat.zero_le _) (Nat.zero_le _) dX5_comes_13 (xleaf (by first | (simp only [sp_comes, tKind, tMood, tPen, tAte, tHour, tTray, tAt, tRang, tCrack, tTak, tWay, cB, c_1, if_true, if_false]; done) | (simp only [sp_comes, tKind, tMood, tPen, tAte, tHour, tTray, tAt, tRang, tCrack, tTak, tWay, cB, c_1, if_true, if_false] <;> rfl) | (simp [sp_comes, tKind, tMood, tPen, tAte, tHour, tTray, tAt, tRang, tCrack, tTak, tWay, cB, c_1] <;> rfl)))

abbrev rmX5_when : Room := { frames := 4, cells := 0, slots := 0, locals := 90 }
theorem hYX5_when : gY yX5_when wsX5_when cX5_when 3 (some .int) 1 := ⟨⟨_, rfl⟩, by decide +kernel, by decide +kernel, by decide +kernel⟩
theorem iwX5_when_X5 : ∀ w ∈ u_ws RX5 TX5 8, w ∈ wsX5_when := by decide +kernel
theorem lkX5_when_16 : Cond.fieldLink RX5 16 "MuffinBells" "trial" "LMuffinBells$Terrace;" ∈ wsX5_when := by decide +kernel
theorem lkX5_when_10 : Cond.fieldLink RX5 10 "MuffinBells" "present" "LMuffinBells$Terrace;" ∈ wsX5_when := by decide +kernel
theorem m1X5_when_c173 : Cond.constant RX5 173 (-1000000004) ∈ wsX5_when := by decide +kernel
theorem iwX5_when_X3 : ∀ w ∈ u_ws RX3 TX3 11, w ∈ wsX5_when := by decide +kernel
theorem lkX5_when_97 : Cond.fieldLink RX5 97 "MuffinBells$Terrace" "rang" "I" ∈ wsX5_when := by decide +kernel
theorem m1X5_when_c61 : Cond.constant RX5 61 (-1000000001) ∈ wsX5_when := by decide +kernel
set_option maxRecDepth 100000 in
set_option maxHeartbeats 4000000 in
theorem c_X5_when (l : Launch) (E : gE) (a : Nat → Nat) (c : Cor) (g : Gar) (t0 : Int32) (hok : cOk c) : cti l yX5_when wsX5_when rmX5_when E [.ref (a 0), .int t0] (xW E a c g) (fun r w => ∃ g', r = (sp_when c t0).1 ∧ w = xW E a (sp_when c t0).2 g') := by
  refine mt_i (cc := cX5_when) (maxL := 3) (ret := some .int) (lv0 := [(0, .ref (a 0)), (1, .int t0)]) (by decide) rfl rfl (Nat.le_of_ble_eq_true rfl) (fun X cx gr hI => ?_)
  refine g_iload_n cx dX5_when_0 1 rfl ?_
  refine g_SPi (rest := []) (As := [.int t0]) cx hYX5_isTone gX5_when_X5_isTone (c_X5_isTone l E t0 ) ⟨Nat.le_of_ble_eq_true rfl, Nat.le_of_ble_eq_true rfl⟩ rfl rfl (Nat.le_of_ble_eq_true rfl) ⟨Nat.le_of_ble_eq_true rfl, Nat.le_of_ble_eq_true rfl⟩ dX5_when_1 ?_
  refine g_if_ne (tgt := 14) cx dX5_when_4 (by decide) (fun c_1 => ?_) (fun c_1 => ?_)
  · refine g_aload_n cx dX5_when_14 0 rfl ?_
    refine g_get (C := RX5) (T := TX5) (N := 8) (v := .ref (a 6)) cx iwX5_when_X5 0 1 rfl rfl (by decide) lkX5_when_16 rfl dX5_when_15 ?_
    refine g_aload_n cx dX5_when_18 0 rfl ?_
    refine g_get (C := RX5) (T := TX5) (N := 8) (v := .ref (a 1)) cx iwX5_when_X5 0 0 rfl rfl (by decide) lkX5_when_10 rfl dX5_when_19 ?_
    refine g_XBtp cx gX5_when_X3_become ⟨Nat.le_of_ble_eq_true rfl, Nat.le_of_ble_eq_true rfl⟩ (Nat.le_of_ble_eq_true rfl) dX5_when_22 ?_ (Nat.zero_le _) (Nat.zero_le _)
    refine g_iconst (v := 0) cx dX5_when_25 (by decide) ?_
    refine g_istore_n (lv' := [(2, .int 0), (0, .ref (a 0)), (1, .int t0)]) cx dX5_when_26 (by decide) rfl ?_
    have LP27 : ∀ (d : Nat) (i : Nat) (x : Int32) (u : Ter), i + d = 202 → i ≤ 201 → x = nI i → fstAs 4 t0 201 c.1 = i + fstAs 4 t0 (201 - i) u → vp_in (tAt u) 8 → gG X 0 0 (xW E a c (u, g.2.1, g.2.2.1, g.2.2.2.1, g.2.2.2.2)) 27 [(0, .ref (a 0)), (1, .int t0), (2, .int x)] [] := by
      intro d
      induction d with
      | zero =>
        intro i x u hi hiN hx hf hat
        omega
      | succ d ih =>
        intro i x u hi hiN hx hf hat
        refine g_iload_n cx dX5_when_27 2 rfl ?_
        refine g_sipush (v := 200) cx dX5_when_28 (by decide) ?_
        refine g_icmp_gt (tgt := 60) cx dX5_when_31 (by decide) (fun c_2 => ?_) (fun c_2 => ?_)
        · refine g_aload_n cx dX5_when_60 0 rfl ?_
          refine g_ldc cx m1X5_when_c173 dX5_when_61 ?_
          refine g_VSi (rest := []) (As := [.int (-1000000004)]) cx hYX5_finding gX5_when_X5_finding (c_X5_finding l E a c (u, g.2.1, g.2.2.1, g.2.2.2.1, g.2.2.2.2) (-1000000004) (by unfold vp_in; decide +kernel)) rfl rfl rfl ⟨Nat.le_of_ble_eq_true rfl, Nat.le_of_ble_eq_true rfl⟩ rfl rfl (Nat.le_of_ble_eq_true rfl) ⟨Nat.le_of_ble_eq_true rfl, Nat.le_of_ble_eq_true rfl⟩ dX5_when_63 (fun r w1 hp => ?_)
          obtain ⟨rfl, rfl⟩ := hp
          exact g_iret cx gr (Nat.zero_le _) (Nat.zero_le _) dX5_when_66 (xleaf (by rw [sp_when, if_neg c_1]; exact cF_n hf (by have := gt_of 200 hx c_2 (by omega) (by decide); omega)))
        · refine g_aload_n cx dX5_when_34 0 rfl ?_
          refine g_get (C := RX5) (T := TX5) (N := 8) (v := .ref (a 6)) cx iwX5_when_X5 0 1 rfl rfl (by decide) lkX5_when_16 rfl dX5_when_35 ?_
          refine g_get (C := RX3) (T := TX3) (N := 11) (v := .int u.2.2.2.2.1) cx iwX5_when_X3 6 4 rfl rfl (by decide) lkX5_when_97 rfl dX5_when_38 ?_
          refine g_iload_n cx dX5_when_41 1 rfl ?_
          refine g_icmp_ne (tgt := 47) cx dX5_when_42 (by decide) (fun c_3 => ?_) (fun c_3 => ?_)
          · refine g_aload_n cx dX5_when_47 0 rfl ?_
            refine g_get (C := RX5) (T := TX5) (N := 8) (v := .ref (a 6)) cx iwX5_when_X5 0 1 rfl rfl (by decide) lkX5_when_16 rfl dX5_when_48 ?_
            refine g_Xtv (rest := []) (As := []) cx hYX3_goHour gX5_when_X3_goHour (c_X3_goHour l E (fun i => a (6 + i)) u  hat) rfl ⟨Nat.le_of_ble_eq_true rfl, Nat.le_of_ble_eq_true rfl⟩ rfl rfl (Nat.le_of_ble_eq_true rfl) ⟨Nat.le_of_ble_eq_true rfl, Nat.le_of_ble_eq_true rfl⟩ dX5_when_51 ?_
            refine g_iinc (v := x + 1) (lv' := [(2, .int (x + 1)), (0, .ref (a 0)), (1, .int t0)]) cx dX5_when_54 2 rfl rfl (by decide) rfl ?_
            refine g_goto (tgt := 27) cx dX5_when_57 (by decide) ?_
            exact g_lv [1, 2, 0] rfl (ih (i + 1) (x + 1) (goHour u) (by omega) (by have := le_of 200 hx c_2 (by omega) (by decide); omega) (by rw [hx]; exact nI_1 i) (cF_s hf (le_of 200 hx c_2 (by omega) (by decide)) c_3) (goHour_at hat))
          · refine g_iload_n cx dX5_when_45 2 rfl ?_
            exact g_iret cx gr (Nat.zero_le _) (Nat.zero_le _) dX5_when_46 (xleaf (by rw [sp_when, if_neg c_1, hx]; exact cF_k hf (le_of 200 hx c_2 (by omega) (by decide)) c_3))
    exact g_lv [1, 2, 0] rfl (LP27 202 0 0 c.1 (by omega) (by omega) rfl (Nat.zero_add _).symm hok.1.1)
  · refine g_aload_n cx dX5_when_7 0 rfl ?_
    refine g_ldc cx m1X5_when_c61 dX5_when_8 ?_
    refine g_VSi (rest := []) (As := [.int (-1000000001)]) cx hYX5_finding gX5_when_X5_finding (c_X5_finding l E a c g (-1000000001) (by unfold vp_in; decide +kernel)) rfl rfl rfl ⟨Nat.le_of_ble_eq_true rfl, Nat.le_of_ble_eq_true rfl⟩ rfl rfl (Nat.le_of_ble_eq_true rfl) ⟨Nat.le_of_ble_eq_true rfl, Nat.le_of_ble_eq_true rfl⟩ dX5_when_10 (fun r w1 hp => ?_)
    obtain ⟨rfl, rfl⟩ := hp
    exact g_iret cx gr (Nat.zero_le _) (Nat.zero_le _) dX5_when_13 (xleaf (by first | (simp only [sp_when, tKind, tMood, tPen, tAte, tHour, tTray, tAt, tRang, tCrack, tTak, tWay, cB, c_1, if_true, if_false]; done) | (simp only [sp_when, tKind, tMood, tPen, tAte, tHour, tTray, tAt, tRang, tCrack, tTak, tWay, cB, c_1, if_true, if_false] <;> rfl) | (simp [sp_when, tKind, tMood, tPen, tAte, tHour, tTray, tAt, tRang, tCrack, tTak, tWay, cB, c_1] <;> rfl)))
