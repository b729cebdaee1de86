abbrev rmX5_wipe : Room := { frames := 0, cells := 0, slots := 0, locals := 0 }
theorem hYX5_wipe : gY yX5_wipe wsX5_wipe cX5_wipe 2 (some .int) 0 := ⟨⟨_, rfl⟩, by decide +kernel, by decide +kernel, by decide +kernel⟩
theorem iwX5_wipe_X5 : ∀ w ∈ u_ws RX5 TX5 8, w ∈ wsX5_wipe := by decide +kernel
theorem lkX5_wipe_29 : Cond.fieldLink RX5 29 "MuffinBells" "tape" "LMuffinBells$Tape;" ∈ wsX5_wipe := by decide +kernel
theorem iwX5_wipe_X2 : ∀ w ∈ u_ws RX2 TX2 2, w ∈ wsX5_wipe := by decide +kernel
theorem lkX5_wipe_184 : Cond.fieldLink RX5 184 "MuffinBells$Tape" "length" "I" ∈ wsX5_wipe := by decide +kernel
set_option maxRecDepth 100000 in
set_option maxHeartbeats 4000000 in
theorem c_X5_wipe (l : Launch) (E : gE) (a : Nat → Nat) (c : Cor) (g : Gar) (hok : cOk c) : cti l yX5_wipe wsX5_wipe rmX5_wipe E [.ref (a 0)] (xW E a c g) (fun r w => ∃ g', r = (sp_wipe c).1 ∧ w = xW E a (sp_wipe c).2 g') := by
  refine mt_i (cc := cX5_wipe) (maxL := 2) (ret := some .int) (lv0 := [(0, .ref (a 0))]) (by decide) rfl rfl (Nat.le_of_ble_eq_true rfl) (fun X cx gr hI => ?_)
  refine g_aload_n cx dX5_wipe_0 0 rfl ?_
  refine g_get (C := RX5) (T := TX5) (N := 8) (v := .ref (a 16)) cx iwX5_wipe_X5 0 4 rfl rfl (by decide) lkX5_wipe_29 rfl dX5_wipe_1 ?_
  refine g_get (C := RX2) (T := TX2) (N := 2) (v := .int c.2.2.2.2.1) cx iwX5_wipe_X2 16 1 rfl rfl (by decide) lkX5_wipe_184 rfl dX5_wipe_4 ?_
  refine g_istore_n (lv' := [(1, .int c.2.2.2.2.1), (0, .ref (a 0))]) cx dX5_wipe_7 (by decide) rfl ?_
  refine g_aload_n cx dX5_wipe_8 1 rfl ?_
  refine g_get (C := RX5) (T := TX5) (N := 8) (v := .ref (a 16)) cx iwX5_wipe_X5 0 4 rfl rfl (by decide) lkX5_wipe_29 rfl dX5_wipe_9 ?_
  refine g_iconst (v := 0) cx dX5_wipe_12 (by decide) ?_
  refine g_put (C := RX2) (T := TX2) (N := 2) (ws' := (xW E a (c.1, c.2.1, c.2.2.1, c.2.2.2.1, 0, c.2.2.2.2.2.1, c.2.2.2.2.2.2.1, c.2.2.2.2.2.2.2.1, c.2.2.2.2.2.2.2.2) g)) cx iwX5_wipe_X2 tyX2 tyX2_ok nmX2 16 1 rfl rfl (by decide) lkX5_wipe_184 rfl rfl rfl (Nat.le_of_ble_eq_true rfl) dX5_wipe_13 rfl ?_
  refine g_iload_n cx dX5_wipe_16 0 rfl ?_
  exact g_iret cx gr (Nat.zero_le _) (Nat.zero_le _) dX5_wipe_17 (xleaf (by first | (simp only [sp_wipe, tKind, tMood, tPen, tAte, tHour, tTray, tAt, tRang, tCrack, tTak, tWay, cB, if_true, if_false]; done) | (simp only [sp_wipe, tKind, tMood, tPen, tAte, tHour, tTray, tAt, tRang, tCrack, tTak, tWay, cB, if_true, if_false] <;> rfl) | (simp [sp_wipe, tKind, tMood, tPen, tAte, tHour, tTray, tAt, tRang, tCrack, tTak, tWay, cB] <;> rfl)))

abbrev rmX5_image : Room := { frames := 2, cells := 0, slots := 0, locals := 81 }
theorem hYX5_image : gY yX5_image wsX5_image cX5_image 1 (some .int) 0 := ⟨⟨_, rfl⟩, by decide +kernel, by decide +kernel, by decide +kernel⟩
theorem iwX5_image_X5 : ∀ w ∈ u_ws RX5 TX5 8, w ∈ wsX5_image := by decide +kernel
theorem lkX5_image_19 : Cond.fieldLink RX5 19 "MuffinBells" "kept" "LMuffinBells$Terrace;" ∈ wsX5_image := by decide +kernel
theorem lkX5_image_10 : Cond.fieldLink RX5 10 "MuffinBells" "present" "LMuffinBells$Terrace;" ∈ wsX5_image := by decide +kernel
theorem lkX5_image_22 : Cond.fieldLink RX5 22 "MuffinBells" "isKept" "Z" ∈ wsX5_image := by decide +kernel
set_option maxRecDepth 100000 in
set_option maxHeartbeats 4000000 in
theorem c_X5_image (l : Launch) (E : gE) (a : Nat → Nat) (c : Cor) (g : Gar) (hok : cOk c) : cti l yX5_image wsX5_image rmX5_image E [.ref (a 0)] (xW E a c g) (fun r w => ∃ g', r = (sp_image c).1 ∧ w = xW E a (sp_image c).2 g') := by
  refine mt_i (cc := cX5_image) (maxL := 1) (ret := some .int) (lv0 := [(0, .ref (a 0))]) (by decide) rfl rfl (Nat.le_of_ble_eq_true rfl) (fun X cx gr hI => ?_)
  refine g_aload_n cx dX5_image_0 0 rfl ?_
  refine g_get (C := RX5) (T := TX5) (N := 8) (v := .ref (a 11)) cx iwX5_image_X5 0 2 rfl rfl (by decide) lkX5_image_19 rfl dX5_image_1 ?_
  refine g_aload_n cx dX5_image_4 0 rfl ?_
  refine g_get (C := RX5) (T := TX5) (N := 8) (v := .ref (a 1)) cx iwX5_image_X5 0 0 rfl rfl (by decide) lkX5_image_10 rfl dX5_image_5 ?_
  refine g_XBkp cx gX5_image_X3_become ⟨Nat.le_of_ble_eq_true rfl, Nat.le_of_ble_eq_true rfl⟩ (Nat.le_of_ble_eq_true rfl) dX5_image_8 ?_ (Nat.zero_le _) (Nat.zero_le _)
  refine g_aload_n cx dX5_image_11 0 rfl ?_
  refine g_iconst (v := 1) cx dX5_image_12 (by decide) ?_
  refine g_put (C := RX5) (T := TX5) (N := 8) (ws' := (xW E a (c.1, c.1, 1, c.2.2.2.1, c.2.2.2.2.1, c.2.2.2.2.2.1, c.2.2.2.2.2.2.1, c.2.2.2.2.2.2.2.1, c.2.2.2.2.2.2.2.2) g)) cx iwX5_image_X5 tyX5 tyX5_ok nmX5 0 3 rfl rfl (by decide) lkX5_image_22 rfl rfl rfl (Nat.le_of_ble_eq_true rfl) dX5_image_13 rfl ?_
  refine g_iconst (v := 1) cx dX5_image_16 (by decide) ?_
  exact g_iret cx gr (Nat.zero_le _) (Nat.zero_le _) dX5_image_17 (xleaf (by first | (simp only [sp_image, tKind, tMood, tPen, tAte, tHour, tTray, tAt, tRang, tCrack, tTak, tWay, cB, if_true, if_false]; done) | (simp only [sp_image, tKind, tMood, tPen, tAte, tHour, tTray, tAt, tRang, tCrack, tTak, tWay, cB, if_true, if_false] <;> rfl) | (simp [sp_image, tKind, tMood, tPen, tAte, tHour, tTray, tAt, tRang, tCrack, tTak, tWay, cB] <;> rfl)))

abbrev rmX5_undo : Room := { frames := 2, cells := 0, slots := 0, locals := 81 }
theorem hYX5_undo : gY yX5_undo wsX5_undo cX5_undo 1 (some .int) 0 := ⟨⟨_, rfl⟩, by decide +kernel, by decide +kernel, by decide +kernel⟩
theorem iwX5_undo_X5 : ∀ w ∈ u_ws RX5 TX5 8, w ∈ wsX5_undo := by decide +kernel
theorem lkX5_undo_22 : Cond.fieldLink RX5 22 "MuffinBells" "isKept" "Z" ∈ wsX5_undo := by decide +kernel
theorem lkX5_undo_10 : Cond.fieldLink RX5 10 "MuffinBells" "present" "LMuffinBells$Terrace;" ∈ wsX5_undo := by decide +kernel
theorem lkX5_undo_19 : Cond.fieldLink RX5 19 "MuffinBells" "kept" "LMuffinBells$Terrace;" ∈ wsX5_undo := by decide +kernel
theorem iwX5_undo_X3 : ∀ w ∈ u_ws RX3 TX3 11, w ∈ wsX5_undo := by decide +kernel
theorem lkX5_undo_84 : Cond.fieldLink RX5 84 "MuffinBells$Terrace" "hour" "I" ∈ wsX5_undo := by decide +kernel
theorem m1X5_undo_c173 : Cond.constant RX5 173 (-1000000004) ∈ wsX5_undo := by decide +kernel
set_option maxRecDepth 100000 in
set_option maxHeartbeats 4000000 in
theorem c_X5_undo (l : Launch) (E : gE) (a : Nat → Nat) (c : Cor) (g : Gar) (hok : cOk c) : cti l yX5_undo wsX5_undo rmX5_undo E [.ref (a 0)] (xW E a c g) (fun r w => ∃ g', r = (sp_undo c).1 ∧ w = xW E a (sp_undo c).2 g') := by
  refine mt_i (cc := cX5_undo) (maxL := 1) (ret := some .int) (lv0 := [(0, .ref (a 0))]) (by decide) rfl rfl (Nat.le_of_ble_eq_true rfl) (fun X cx gr hI => ?_)
  refine g_aload_n cx dX5_undo_0 0 rfl ?_
  refine g_get (C := RX5) (T := TX5) (N := 8) (v := .int c.2.2.1) cx iwX5_undo_X5 0 3 rfl rfl (by decide) lkX5_undo_22 rfl dX5_undo_1 ?_
  refine g_if_ne (tgt := 14) cx dX5_undo_4 (by decide) (fun c_1 => ?_) (fun c_1 => ?_)
  · refine g_aload_n cx dX5_undo_14 0 rfl ?_
    refine g_get (C := RX5) (T := TX5) (N := 8) (v := .ref (a 1)) cx iwX5_undo_X5 0 0 rfl rfl (by decide) lkX5_undo_10 rfl dX5_undo_15 ?_
    refine g_aload_n cx dX5_undo_18 0 rfl ?_
    refine g_get (C := RX5) (T := TX5) (N := 8) (v := .ref (a 11)) cx iwX5_undo_X5 0 2 rfl rfl (by decide) lkX5_undo_19 rfl dX5_undo_19 ?_
    refine g_XBpk cx gX5_undo_X3_become ⟨Nat.le_of_ble_eq_true rfl, Nat.le_of_ble_eq_true rfl⟩ (Nat.le_of_ble_eq_true rfl) dX5_undo_22 ?_ (Nat.zero_le _) (Nat.zero_le _)
    refine g_aload_n cx dX5_undo_25 0 rfl ?_
    refine g_get (C := RX5) (T := TX5) (N := 8) (v := .ref (a 1)) cx iwX5_undo_X5 0 0 rfl rfl (by decide) lkX5_undo_10 rfl dX5_undo_26 ?_
    refine g_get (C := RX3) (T := TX3) (N := 11) (v := .int c.2.1.1) cx iwX5_undo_X3 1 0 rfl rfl (by decide) lkX5_undo_84 rfl dX5_undo_29 ?_
    exact g_iret cx gr (Nat.zero_le _) (Nat.zero_le _) dX5_undo_32 (xleaf (by first | (simp only [sp_undo, tKind, tMood, tPen, tAte, tHour, tTray, tAt, tRang, tCrack, tTak, tWay, cB, c_1, if_true, if_false]; done) | (simp only [sp_undo, tKind, tMood, tPen, tAte, tHour, tTray, tAt, tRang, tCrack, tTak, tWay, cB, c_1, if_true, if_false] <;> rfl) | (simp [sp_undo, tKind, tMood, tPen, tAte, tHour, tTray, tAt, tRang, tCrack, tTak, tWay, cB, c_1] <;> rfl)))
  · refine g_aload_n cx dX5_undo_7 0 rfl ?_
    refine g_ldc cx m1X5_undo_c173 dX5_undo_8 ?_
    refine g_VSi (rest := []) (As := [.int (-1000000004)]) cx hYX5_finding gX5_undo_X5_finding (c_X5_finding l E a c g (-1000000004) (by unfold vp_in; decide +kernel)) rfl rfl rfl ⟨Nat.le_of_ble_eq_true rfl, Nat.le_of_ble_eq_true rfl⟩ rfl rfl (Nat.le_of_ble_eq_true rfl) ⟨Nat.le_of_ble_eq_true rfl, Nat.le_of_ble_eq_true rfl⟩ dX5_undo_10 (fun r w1 hp => ?_)
    obtain ⟨rfl, rfl⟩ := hp
    exact g_iret cx gr (Nat.zero_le _) (Nat.zero_le _) dX5_undo_13 (xleaf (by first | (simp only [sp_undo, tKind, tMood, tPen, tAte, tHour, tTray, tAt, tRang, tCrack, tTak, tWay, cB, c_1, if_true, if_false]; done) | (simp only [sp_undo, tKind, tMood, tPen, tAte, tHour, tTray, tAt, tRang, tCrack, tTak, tWay, cB, c_1, if_true, if_false] <;> rfl) | (simp [sp_undo, tKind, tMood, tPen, tAte, tHour, tTray, tAt, tRang, tCrack, tTak, tWay, cB, c_1] <;> rfl)))

abbrev rmX5_tear : Room := { frames := 0, cells := 0, slots := 0, locals := 0 }
theorem hYX5_tear : gY yX5_tear wsX5_tear cX5_tear 2 (some .int) 0 := ⟨⟨_, rfl⟩, by decide +kernel, by decide +kernel, by decide +kernel⟩
theorem iwX5_tear_X5 : ∀ w ∈ u_ws RX5 TX5 8, w ∈ wsX5_tear := by decide +kernel
theorem lkX5_tear_22 : Cond.fieldLink RX5 22 "MuffinBells" "isKept" "Z" ∈ wsX5_tear := by decide +kernel
set_option maxRecDepth 100000 in
set_option maxHeartbeats 4000000 in
theorem c_X5_tear (l : Launch) (E : gE) (a : Nat → Nat) (c : Cor) (g : Gar) (hok : cOk c) : cti l yX5_tear wsX5_tear rmX5_tear E [.ref (a 0)] (xW E a c g) (fun r w => ∃ g', r = (sp_tear c).1 ∧ w = xW E a (sp_tear c).2 g') := by
  refine mt_i (cc := cX5_tear) (maxL := 2) (ret := some .int) (lv0 := [(0, .ref (a 0))]) (by decide) rfl rfl (Nat.le_of_ble_eq_true rfl) (fun X cx gr hI => ?_)
  refine g_aload_n cx dX5_tear_0 0 rfl ?_
  refine g_get (C := RX5) (T := TX5) (N := 8) (v := .int c.2.2.1) cx iwX5_tear_X5 0 3 rfl rfl (by decide) lkX5_tear_22 rfl dX5_tear_1 ?_
  refine g_if_eq (tgt := 11) cx dX5_tear_4 (by decide) (fun c_1 => ?_) (fun c_1 => ?_)
  · refine g_iconst (v := 0) cx dX5_tear_11 (by decide) ?_
    refine g_istore_n (lv' := [(1, .int 0), (0, .ref (a 0))]) cx dX5_tear_12 (by decide) rfl ?_
    refine g_aload_n cx dX5_tear_13 1 rfl ?_
    refine g_iconst (v := 0) cx dX5_tear_14 (by decide) ?_
    refine g_put (C := RX5) (T := TX5) (N := 8) (ws' := (xW E a (c.1, c.2.1, 0, c.2.2.2.1, c.2.2.2.2.1, c.2.2.2.2.2.1, c.2.2.2.2.2.2.1, c.2.2.2.2.2.2.2.1, c.2.2.2.2.2.2.2.2) g)) cx iwX5_tear_X5 tyX5 tyX5_ok nmX5 0 3 rfl rfl (by decide) lkX5_tear_22 rfl rfl rfl (Nat.le_of_ble_eq_true rfl) dX5_tear_15 rfl ?_
    refine g_iload_n cx dX5_tear_18 0 rfl ?_
    exact g_iret cx gr (Nat.zero_le _) (Nat.zero_le _) dX5_tear_19 (xleaf (by first | (simp only [sp_tear, tKind, tMood, tPen, tAte, tHour, tTray, tAt, tRang, tCrack, tTak, tWay, cB, c_1, if_true, if_false]; done) | (simp only [sp_tear, tKind, tMood, tPen, tAte, tHour, tTray, tAt, tRang, tCrack, tTak, tWay, cB, c_1, if_true, if_false] <;> rfl) | (simp [sp_tear, tKind, tMood, tPen, tAte, tHour, tTray, tAt, tRang, tCrack, tTak, tWay, cB, c_1] <;> rfl)))
  · refine g_iconst (v := 1) cx dX5_tear_7 (by decide) ?_
    refine g_goto (tgt := 12) cx dX5_tear_8 (by decide) ?_
    refine g_istore_n (lv' := [(1, .int 1), (0, .ref (a 0))]) cx dX5_tear_12 (by decide) rfl ?_
    refine g_aload_n cx dX5_tear_13 1 rfl ?_
    refine g_iconst (v := 0) cx dX5_tear_14 (by decide) ?_
    refine g_put (C := RX5) (T := TX5) (N := 8) (ws' := (xW E a (c.1, c.2.1, 0, c.2.2.2.1, c.2.2.2.2.1, c.2.2.2.2.2.1, c.2.2.2.2.2.2.1, c.2.2.2.2.2.2.2.1, c.2.2.2.2.2.2.2.2) g)) cx iwX5_tear_X5 tyX5 tyX5_ok nmX5 0 3 rfl rfl (by decide) lkX5_tear_22 rfl rfl rfl (Nat.le_of_ble_eq_true rfl) dX5_tear_15 rfl ?_
    refine g_iload_n cx dX5_tear_18 0 rfl ?_
    exact g_iret cx gr (Nat.zero_le _) (Nat.zero_le _) dX5_tear_19 (xleaf (by first | (simp only [sp_tear, tKind, tMood, tPen, tAte, tHour, tTray, tAt, tRang, tCrack, tTak, tWay, cB, c_1, if_true, if_false]; done) | (simp only [sp_tear, tKind, tMood, tPen, tAte, tHour, tTray, tAt, tRang, tCrack, tTak, tWay, cB, c_1, if_true, if_false] <;> rfl) | (simp [sp_tear, tKind, tMood, tPen, tAte, tHour, tTray, tAt, tRang, tCrack, tTak, tWay, cB, c_1] <;> rfl)))

abbrev rmX5_count : Room := { frames := 2, cells := 0, slots := 0, locals := 44 }
theorem hYX5_count : gY yX5_count wsX5_count cX5_count 2 (some .int) 1 := ⟨⟨_, rfl⟩, by decide +kernel, by decide +kernel, by decide +kernel⟩
theorem iwX5_count_X5 : ∀ w ∈ u_ws RX5 TX5 8, w ∈ wsX5_count := by decide +kernel
theorem lkX5_count_10 : Cond.fieldLink RX5 10 "MuffinBells" "present" "LMuffinBells$Terrace;" ∈ wsX5_count := by decide +kernel
theorem lkX5_count_29 : Cond.fieldLink RX5 29 "MuffinBells" "tape" "LMuffinBells$Tape;" ∈ wsX5_count := by decide +kernel
theorem iwX5_count_X2 : ∀ w ∈ u_ws RX2 TX2 2, w ∈ wsX5_count := by decide +kernel
theorem lkX5_count_184 : Cond.fieldLink RX5 184 "MuffinBells$Tape" "length" "I" ∈ wsX5_count := by decide +kernel
theorem iwX5_count_X3 : ∀ w ∈ u_ws RX3 TX3 11, w ∈ wsX5_count := by decide +kernel
theorem lkX5_count_113 : Cond.fieldLink RX5 113 "MuffinBells$Terrace" "moods" "[I" ∈ wsX5_count := by decide +kernel
theorem lkX5_count_119 : Cond.fieldLink RX5 119 "MuffinBells$Terrace" "ate" "[I" ∈ wsX5_count := by decide +kernel
theorem m1X5_count_c61 : Cond.constant RX5 61 (-1000000001) ∈ wsX5_count := by decide +kernel
set_option maxRecDepth 100000 in
set_option maxHeartbeats 4000000 in
theorem c_X5_count (l : Launch) (E : gE) (a : Nat → Nat) (c : Cor) (g : Gar) (w0 : Int32) (hok : cOk c) : cti l yX5_count wsX5_count rmX5_count E [.ref (a 0), .int w0] (xW E a c g) (fun r w => ∃ g', r = (sp_count c w0).1 ∧ w = xW E a (sp_count c w0).2 g') := by
  refine mt_i (cc := cX5_count) (maxL := 2) (ret := some .int) (lv0 := [(0, .ref (a 0)), (1, .int w0)]) (by decide) rfl rfl (Nat.le_of_ble_eq_true rfl) (fun X cx gr hI => ?_)
  refine g_iload_n cx dX5_count_0 1 rfl ?_
  refine g_tsw cx dX5_count_1 70 (by decide) (fun j hj cs_1 => ?_) (fun cs_1 => ?_)
  · rcases j with _ | _ | _ | _ | j
    · refine ⟨_, 32, rfl, by decide, ?_⟩
      have cs_1 : w0 = 0 := Int32.toInt_inj.mp (cs_1.trans (by decide))
      refine g_aload_n cx dX5_count_32 0 rfl ?_
      refine g_get (C := RX5) (T := TX5) (N := 8) (v := .ref (a 1)) cx iwX5_count_X5 0 0 rfl rfl (by decide) lkX5_count_10 rfl dX5_count_33 ?_
      refine g_Xpi (rest := []) (As := []) cx hYX3_housesOfOtherKinds gX5_count_X3_housesOfOtherKinds (c_X3_housesOfOtherKinds l E (fun i => a (1 + i)) c.1  ) rfl ⟨Nat.le_of_ble_eq_true rfl, Nat.le_of_ble_eq_true rfl⟩ rfl rfl (Nat.le_of_ble_eq_true rfl) ⟨Nat.le_of_ble_eq_true rfl, Nat.le_of_ble_eq_true rfl⟩ dX5_count_36 ?_
      exact g_iret cx gr (Nat.zero_le _) (Nat.zero_le _) dX5_count_39 (xleaf (by first | (simp only [sp_count, tKind, tMood, tPen, tAte, tHour, tTray, tAt, tRang, tCrack, tTak, tWay, cB, cs_1, if_true, if_false]; done) | (simp only [sp_count, tKind, tMood, tPen, tAte, tHour, tTray, tAt, tRang, tCrack, tTak, tWay, cB, cs_1, if_true, if_false] <;> rfl) | (simp [sp_count, tKind, tMood, tPen, tAte, tHour, tTray, tAt, tRang, tCrack, tTak, tWay, cB, cs_1] <;> rfl)))
    · refine ⟨_, 40, rfl, by decide, ?_⟩
      have cs_1 : w0 = 1 := Int32.toInt_inj.mp (cs_1.trans (by decide))
      refine g_aload_n cx dX5_count_40 0 rfl ?_
      refine g_get (C := RX5) (T := TX5) (N := 8) (v := .ref (a 16)) cx iwX5_count_X5 0 4 rfl rfl (by decide) lkX5_count_29 rfl dX5_count_41 ?_
      refine g_get (C := RX2) (T := TX2) (N := 2) (v := .int c.2.2.2.2.1) cx iwX5_count_X2 16 1 rfl rfl (by decide) lkX5_count_184 rfl dX5_count_44 ?_
      exact g_iret cx gr (Nat.zero_le _) (Nat.zero_le _) dX5_count_47 (xleaf (by first | (simp only [sp_count, tKind, tMood, tPen, tAte, tHour, tTray, tAt, tRang, tCrack, tTak, tWay, cB, cs_1, if_true, if_false]; done) | (simp only [sp_count, tKind, tMood, tPen, tAte, tHour, tTray, tAt, tRang, tCrack, tTak, tWay, cB, cs_1, if_true, if_false] <;> rfl) | (simp [sp_count, tKind, tMood, tPen, tAte, tHour, tTray, tAt, tRang, tCrack, tTak, tWay, cB, cs_1] <;> rfl)))
    · refine ⟨_, 48, rfl, by decide, ?_⟩
      have cs_1 : w0 = 2 := Int32.toInt_inj.mp (cs_1.trans (by decide))
      refine g_aload_n cx dX5_count_48 0 rfl ?_
      refine g_get (C := RX5) (T := TX5) (N := 8) (v := .ref (a 1)) cx iwX5_count_X5 0 0 rfl rfl (by decide) lkX5_count_10 rfl dX5_count_49 ?_
      refine g_get (C := RX3) (T := TX3) (N := 11) (v := .ref (a 3)) cx iwX5_count_X3 1 8 rfl rfl (by decide) lkX5_count_113 rfl dX5_count_52 ?_
      refine g_Si (rest := []) (As := [.ref (a 3)]) (wr := (xW E a c g).eraseIdx 3) cx hYX5_sum gX5_count_X5_sum (c_X5_sum l E (a 3) 8 c.1.2.2.2.2.2.2.2.2.1 (by decide)) [3] [0, 1, 2, 4, 5, 6, 7, 8, 9, 10, 11, 12, 13, 14, 15, 16, 17, 18, 19, 20, 21, 22, 23, 24, 25, 26, 27, 28] rfl rfl rfl rfl (by decide) ⟨Nat.le_of_ble_eq_true rfl, Nat.le_of_ble_eq_true rfl⟩ rfl rfl (Nat.le_of_ble_eq_true rfl) ⟨Nat.le_of_ble_eq_true rfl, Nat.le_of_ble_eq_true rfl⟩ dX5_count_55 (fun r w1 hp => ?_)
      obtain ⟨rfl, rfl⟩ := hp
      refine g_ws (ws' := (xW E a c g)) [0, 1, 2, 28, 3, 4, 5, 6, 7, 8, 9, 10, 11, 12, 13, 14, 15, 16, 17, 18, 19, 20, 21, 22, 23, 24, 25, 26, 27] rfl rfl ?_
      exact g_iret cx gr (Nat.zero_le _) (Nat.zero_le _) dX5_count_58 (xleaf (by first | (simp only [sp_count, tKind, tMood, tPen, tAte, tHour, tTray, tAt, tRang, tCrack, tTak, tWay, cB, cs_1, if_true, if_false]; done) | (simp only [sp_count, tKind, tMood, tPen, tAte, tHour, tTray, tAt, tRang, tCrack, tTak, tWay, cB, cs_1, if_true, if_false] <;> rfl) | (simp [sp_count, tKind, tMood, tPen, tAte, tHour, tTray, tAt, tRang, tCrack, tTak, tWay, cB, cs_1] <;> rfl)))
    · refine ⟨_, 59, rfl, by decide, ?_⟩
      have cs_1 : w0 = 3 := Int32.toInt_inj.mp (cs_1.trans (by decide))
      refine g_aload_n cx dX5_count_59 0 rfl ?_
      refine g_get (C := RX5) (T := TX5) (N := 8) (v := .ref (a 1)) cx iwX5_count_X5 0 0 rfl rfl (by decide) lkX5_count_10 rfl dX5_count_60 ?_
      refine g_get (C := RX3) (T := TX3) (N := 11) (v := .ref (a 5)) cx iwX5_count_X3 1 10 rfl rfl (by decide) lkX5_count_119 rfl dX5_count_63 ?_
      refine g_Si (rest := []) (As := [.ref (a 5)]) (wr := (xW E a c g).eraseIdx 5) cx hYX5_sum gX5_count_X5_sum (c_X5_sum l E (a 5) 8 c.1.2.2.2.2.2.2.2.2.2.2 (by decide)) [5] [0, 1, 2, 3, 4, 6, 7, 8, 9, 10, 11, 12, 13, 14, 15, 16, 17, 18, 19, 20, 21, 22, 23, 24, 25, 26, 27, 28] rfl rfl rfl rfl (by decide) ⟨Nat.le_of_ble_eq_true rfl, Nat.le_of_ble_eq_true rfl⟩ rfl rfl (Nat.le_of_ble_eq_true rfl) ⟨Nat.le_of_ble_eq_true rfl, Nat.le_of_ble_eq_true rfl⟩ dX5_count_66 (fun r w1 hp => ?_)
      obtain ⟨rfl, rfl⟩ := hp
      refine g_ws (ws' := (xW E a c g)) [0, 1, 2, 3, 4, 28, 5, 6, 7, 8, 9, 10, 11, 12, 13, 14, 15, 16, 17, 18, 19, 20, 21, 22, 23, 24, 25, 26, 27] rfl rfl ?_
      exact g_iret cx gr (Nat.zero_le _) (Nat.zero_le _) dX5_count_69 (xleaf (by first | (simp only [sp_count, tKind, tMood, tPen, tAte, tHour, tTray, tAt, tRang, tCrack, tTak, tWay, cB, cs_1, if_true, if_false]; done) | (simp only [sp_count, tKind, tMood, tPen, tAte, tHour, tTray, tAt, tRang, tCrack, tTak, tWay, cB, cs_1, if_true, if_false] <;> rfl) | (simp [sp_count, tKind, tMood, tPen, tAte, tHour, tTray, tAt, tRang, tCrack, tTak, tWay, cB, cs_1] <;> rfl)))
    · exact absurd hj (by omega)
  · have hsx := cs_1
    have cs_1_0 : ¬ w0 = 0 := sw_ne cs_1 (by decide)
    have cs_1_1 : ¬ w0 = 1 := sw_ne cs_1 (by decide)
    have cs_1_2 : ¬ w0 = 2 := sw_ne cs_1 (by decide)
    have cs_1_3 : ¬ w0 = 3 := sw_ne cs_1 (by decide)
    refine g_aload_n cx dX5_count_70 0 rfl ?_
    refine g_ldc cx m1X5_count_c61 dX5_count_71 ?_
    refine g_VSi (rest := []) (As := [.int (-1000000001)]) cx hYX5_finding gX5_count_X5_finding (c_X5_finding l E a c g (-1000000001) (by unfold vp_in; decide +kernel)) rfl rfl rfl ⟨Nat.le_of_ble_eq_true rfl, Nat.le_of_ble_eq_true rfl⟩ rfl rfl (Nat.le_of_ble_eq_true rfl) ⟨Nat.le_of_ble_eq_true rfl, Nat.le_of_ble_eq_true rfl⟩ dX5_count_73 (fun r w1 hp => ?_)
    obtain ⟨rfl, rfl⟩ := hp
    exact g_iret cx gr (Nat.zero_le _) (Nat.zero_le _) dX5_count_76 (xleaf (by first | (simp only [sp_count, tKind, tMood, tPen, tAte, tHour, tTray, tAt, tRang, tCrack, tTak, tWay, cB, cs_1_0, cs_1_1, cs_1_2, cs_1_3, if_true, if_false]; done) | (simp only [sp_count, tKind, tMood, tPen, tAte, tHour, tTray, tAt, tRang, tCrack, tTak, tWay, cB, cs_1_0, cs_1_1, cs_1_2, cs_1_3, if_true, if_false] <;> rfl) | (simp [sp_count, tKind, tMood, tPen, tAte, tHour, tTray, tAt, tRang, tCrack, tTak, tWay, cB, cs_1_0, cs_1_1, cs_1_2, cs_1_3] <;> rfl)))

abbrev rmX5_status : Room := { frames := 2, cells := 0, slots := 0, locals := 44 }
theorem hYX5_status : gY yX5_status wsX5_status cX5_status 2 (some .int) 1 := ⟨⟨_, rfl⟩, by decide +kernel, by decide +kernel, by decide +kernel⟩
theorem iwX5_status_X5 : ∀ w ∈ u_ws RX5 TX5 8, w ∈ wsX5_status := by decide +kernel
theorem lkX5_status_49 : Cond.fieldLink RX5 49 "MuffinBells" "findings" "[I" ∈ wsX5_status := by decide +kernel
theorem m1X5_status_c61 : Cond.constant RX5 61 (-1000000001) ∈ wsX5_status := by decide +kernel
set_option maxRecDepth 100000 in
set_option maxHeartbeats 4000000 in
theorem c_X5_status (l : Launch) (E : gE) (a : Nat → Nat) (c : Cor) (g : Gar) (w0 : Int32) (hok : cOk c) : cti l yX5_status wsX5_status rmX5_status E [.ref (a 0), .int w0] (xW E a c g) (fun r w => ∃ g', r = (sp_status c w0).1 ∧ w = xW E a (sp_status c w0).2 g') := by
  refine mt_i (cc := cX5_status) (maxL := 2) (ret := some .int) (lv0 := [(0, .ref (a 0)), (1, .int w0)]) (by decide) rfl rfl (Nat.le_of_ble_eq_true rfl) (fun X cx gr hI => ?_)
  refine g_iload_n cx dX5_status_0 1 rfl ?_
  refine g_iconst (v := (-1)) cx dX5_status_1 (by decide) ?_
  refine g_icmp_ne (tgt := 13) cx dX5_status_2 (by decide) (fun c_1 => ?_) (fun c_1 => ?_)
  · refine g_iload_n cx dX5_status_13 1 rfl ?_
    refine g_iconst (v := 0) cx dX5_status_14 (by decide) ?_
    refine g_bipush (v := 6) cx dX5_status_15 (by decide) ?_
    refine g_SPi (rest := []) (As := [.int w0, .int 0, .int 6]) cx hYX5_isWithin gX5_status_X5_isWithin (c_X5_isWithin l E w0 0 6 ) ⟨Nat.le_of_ble_eq_true rfl, Nat.le_of_ble_eq_true rfl⟩ rfl rfl (Nat.le_of_ble_eq_true rfl) ⟨Nat.le_of_ble_eq_true rfl, Nat.le_of_ble_eq_true rfl⟩ dX5_status_17 ?_
    refine g_if_ne (tgt := 30) cx dX5_status_20 (by decide) (fun c_2 => ?_) (fun c_2 => ?_)
    · refine g_aload_n cx dX5_status_30 0 rfl ?_
      refine g_get (C := RX5) (T := TX5) (N := 8) (v := .ref (a 28)) cx iwX5_status_X5 0 7 rfl rfl (by decide) lkX5_status_49 rfl dX5_status_31 ?_
      refine g_iload_n cx dX5_status_34 1 rfl ?_
      refine g_iald cx 28 rfl rfl (isW_vp 6 c_2 (by decide)) dX5_status_35 ?_
      exact g_iret cx gr (Nat.zero_le _) (Nat.zero_le _) dX5_status_36 (xleaf (by first | (simp only [sp_status, tKind, tMood, tPen, tAte, tHour, tTray, tAt, tRang, tCrack, tTak, tWay, cB, c_1, c_2, if_true, if_false]; done) | (simp only [sp_status, tKind, tMood, tPen, tAte, tHour, tTray, tAt, tRang, tCrack, tTak, tWay, cB, c_1, c_2, if_true, if_false] <;> rfl) | (simp [sp_status, tKind, tMood, tPen, tAte, tHour, tTray, tAt, tRang, tCrack, tTak, tWay, cB, c_1, c_2] <;> rfl)))
    · refine g_aload_n cx dX5_status_23 0 rfl ?_
      refine g_ldc cx m1X5_status_c61 dX5_status_24 ?_
      refine g_VSi (rest := []) (As := [.int (-1000000001)]) cx hYX5_finding gX5_status_X5_finding (c_X5_finding l E a c g (-1000000001) (by unfold vp_in; decide +kernel)) rfl rfl rfl ⟨Nat.le_of_ble_eq_true rfl, Nat.le_of_ble_eq_true rfl⟩ rfl rfl (Nat.le_of_ble_eq_true rfl) ⟨Nat.le_of_ble_eq_true rfl, Nat.le_of_ble_eq_true rfl⟩ dX5_status_26 (fun r w1 hp => ?_)
      obtain ⟨rfl, rfl⟩ := hp
      exact g_iret cx gr (Nat.zero_le _) (Nat.zero_le _) dX5_status_29 (xleaf (by first | (simp only [sp_status, tKind, tMood, tPen, tAte, tHour, tTray, tAt, tRang, tCrack, tTak, tWay, cB, c_1, c_2, if_true, if_false]; done) | (simp only [sp_status, tKind, tMood, tPen, tAte, tHour, tTray, tAt, tRang, tCrack, tTak, tWay, cB, c_1, c_2, if_true, if_false] <;> rfl) | (simp [sp_status, tKind, tMood, tPen, tAte, tHour, tTray, tAt, tRang, tCrack, tTak, tWay, cB, c_1, c_2] <;> rfl)))
  · refine g_aload_n cx dX5_status_5 0 rfl ?_
    refine g_get (C := RX5) (T := TX5) (N := 8) (v := .ref (a 28)) cx iwX5_status_X5 0 7 rfl rfl (by decide) lkX5_status_49 rfl dX5_status_6 ?_
    refine g_Si (rest := []) (As := [.ref (a 28)]) (wr := (xW E a c g).eraseIdx 28) cx hYX5_sum gX5_status_X5_sum (c_X5_sum l E (a 28) 7 c.2.2.2.2.2.2.2.2 (by decide)) [28] [0, 1, 2, 3, 4, 5, 6, 7, 8, 9, 10, 11, 12, 13, 14, 15, 16, 17, 18, 19, 20, 21, 22, 23, 24, 25, 26, 27] rfl rfl rfl rfl (by decide) ⟨Nat.le_of_ble_eq_true rfl, Nat.le_of_ble_eq_true rfl⟩ rfl rfl (Nat.le_of_ble_eq_true rfl) ⟨Nat.le_of_ble_eq_true rfl, Nat.le_of_ble_eq_true rfl⟩ dX5_status_9 (fun r w1 hp => ?_)
    obtain ⟨rfl, rfl⟩ := hp
    refine g_ws (ws' := (xW E a c g)) [0, 1, 2, 3, 4, 5, 6, 7, 8, 9, 10, 11, 12, 13, 14, 15, 16, 17, 18, 19, 20, 21, 22, 23, 24, 25, 26, 27, 28] rfl rfl ?_
    exact g_iret cx gr (Nat.zero_le _) (Nat.zero_le _) dX5_status_12 (xleaf (by first | (simp only [sp_status, tKind, tMood, tPen, tAte, tHour, tTray, tAt, tRang, tCrack, tTak, tWay, cB, c_1, if_true, if_false]; done) | (simp only [sp_status, tKind, tMood, tPen, tAte, tHour, tTray, tAt, tRang, tCrack, tTak, tWay, cB, c_1, if_true, if_false] <;> rfl) | (simp [sp_status, tKind, tMood, tPen, tAte, tHour, tTray, tAt, tRang, tCrack, tTak, tWay, cB, c_1] <;> rfl)))

abbrev taW (E : gE) (a : Nat → Nat) (s : (Nat → Int32) × Int32) : va_W := [(a 0, .inr (1, [.ref (a 1), .int s.2])), (a 1, .inl (gI E, 120, .inl s.1))]
theorem fd_x (j : Nat) : nI (8 * (j + 1)) - 8 = nI (8 * j) := by
  rw [show (8 : Int32) = nI 8 from rfl, pk_sub (by omega)]
  congr 1
theorem fd_0 (n : Nat) (h : 1 ≤ n) : 8 * (nI n - 1) = nI (8 * n) - 8 := by
  obtain ⟨j, rfl⟩ : ∃ j, n = j + 1 := ⟨n - 1, by omega⟩
  rw [fd_x, nI_pred, show (8 : Int32) = nI 8 from rfl, pk_mul]

theorem fd_s (j : Nat) : nI (8 * j) + (-8) = nI (8 * j) - 8 := (Int32.sub_eq_add_neg _ _).symm
theorem fd_z {x : Int32} {k : Nat} (hx : x = nI (8 * k) - 8) (hk : k ≤ 120) (c : x < 0) : k = 0 := by
  rcases k with _ | k
  · rfl
  · rw [hx, fd_x] at c
    exact absurd c (nI_pos (by omega))

abbrev rmX2_take : Room := { frames := 0, cells := 0, slots := 0, locals := 0 }
theorem hYX2_take : gY yX2_take wsX2_take cX2_take 4 (none) 2 := ⟨⟨_, rfl⟩, by decide +kernel, by decide +kernel, by decide +kernel⟩
theorem iwX2_take_X2 : ∀ w ∈ u_ws RX2 TX2 2, w ∈ wsX2_take := by decide +kernel
theorem lkX2_take_9 : Cond.fieldLink RX2 9 "MuffinBells$Tape" "bytes" "[I" ∈ wsX2_take := by decide +kernel
theorem lkX2_take_15 : Cond.fieldLink RX2 15 "MuffinBells$Tape" "length" "I" ∈ wsX2_take := by decide +kernel
set_option maxRecDepth 100000 in
set_option maxHeartbeats 4000000 in
theorem c_X2_take (l : Launch) (E : gE) (a : Nat → Nat) (s : (Nat → Int32) × Int32) (b0 : Int32) (N : Nat) (T0 : Nat) (hN1 : 1 ≤ N) (hN : T0 + N ≤ 120) (hT0 : s.2 = nI T0) : ctv l yX2_take wsX2_take rmX2_take E [.ref (a 0), .int b0, .int (nI N)] (taW E a s) (fun w => w = taW E a (feedL b0 N s)) := by
  refine mt_v (cc := cX2_take) (maxL := 4) (ret := none) (lv0 := [(0, .ref (a 0)), (1, .int b0), (2, .int (nI N))]) (by decide) rfl rfl (Nat.le_of_ble_eq_true rfl) (fun X cx gr hI => ?_)
  refine g_bipush (v := 8) cx dX2_take_0 (by decide) ?_
  refine g_iload_n cx dX2_take_2 2 rfl ?_
  refine g_iconst (v := 1) cx dX2_take_3 (by decide) ?_
  refine g_isub cx dX2_take_4 ?_
  refine g_imul cx dX2_take_5 ?_
  refine g_istore_n (lv' := [(3, .int (8 * ((nI N) - 1))), (0, .ref (a 0)), (1, .int b0), (2, .int (nI N))]) cx dX2_take_6 (by decide) rfl ?_
  have LP7 : ∀ (d : Nat) (k : Nat) (x : Int32) (u : (Nat → Int32) × Int32) (T : Nat), d = k + 1 → T + k ≤ 120 → x = nI (8 * k) - 8 → u.2 = nI T → feedL b0 N s = feedL b0 k u → gG X 0 0 (taW E a u) 7 [(0, .ref (a 0)), (1, .int b0), (3, .int x)] [] := by
    intro d
    induction d with
    | zero =>
      intro k x u T hi hk hx hT hf
      omega
    | succ d ih =>
      intro k x u T hi hk hx hT hf
      refine g_iload_n cx dX2_take_7 2 rfl ?_
      refine g_if_lt (tgt := 43) cx dX2_take_8 (by decide) (fun c_1 => ?_) (fun c_1 => ?_)
      · exact g_vret cx gr (Nat.zero_le _) (Nat.zero_le _) dX2_take_43 (by rw [hf, show k = 0 from fd_z hx (by omega) c_1]; rfl)
      · obtain ⟨j, rfl⟩ : ∃ j, k = j + 1 := by
          rcases k with _ | k
          · exact absurd (by rw [hx]; decide) c_1
          · exact ⟨k, rfl⟩
        have hxj : x = nI (8 * j) := by rw [hx, fd_x]
        refine g_aload_n cx dX2_take_11 0 rfl ?_
        refine g_get (C := RX2) (T := TX2) (N := 2) (v := .ref (a 1)) cx iwX2_take_X2 0 0 rfl rfl (by decide) lkX2_take_9 rfl dX2_take_12 ?_
        refine g_aload_n cx dX2_take_15 0 rfl ?_
        refine g_get (C := RX2) (T := TX2) (N := 2) (v := .int u.2) cx iwX2_take_X2 0 1 rfl rfl (by decide) lkX2_take_15 rfl dX2_take_16 ?_
        refine g_iload_n cx dX2_take_19 1 rfl ?_
        refine g_iload_n cx dX2_take_20 2 rfl ?_
        refine g_ishr cx dX2_take_21 ?_
        refine g_sipush (v := 255) cx dX2_take_22 (by decide) ?_
        refine g_iand cx dX2_take_25 ?_
        refine g_iast (ws' := (taW E a (upd u.1 u.2.toNatClampNeg ((b0 >>> (x &&& 31)) &&& 255), u.2))) cx 1 rfl rfl (vp_of_nI hT (by omega) (by decide)) dX2_take_26 rfl ?_
        refine g_aload_n cx dX2_take_27 0 rfl ?_
        refine g_dup cx dX2_take_28 rfl ?_
        refine g_get (C := RX2) (T := TX2) (N := 2) (v := .int u.2) cx iwX2_take_X2 0 1 rfl rfl (by decide) lkX2_take_15 rfl dX2_take_29 ?_
        refine g_iconst (v := 1) cx dX2_take_32 (by decide) ?_
        refine g_iadd cx dX2_take_33 ?_
        refine g_put (C := RX2) (T := TX2) (N := 2) (ws' := (taW E a (upd u.1 u.2.toNatClampNeg ((b0 >>> (x &&& 31)) &&& 255), u.2 + 1))) cx iwX2_take_X2 tyX2 tyX2_ok nmX2 0 1 rfl rfl (by decide) lkX2_take_15 rfl rfl rfl (Nat.le_of_ble_eq_true rfl) dX2_take_34 rfl ?_
        refine g_iinc (v := x + (-8)) (lv' := [(3, .int (x + (-8))), (0, .ref (a 0)), (1, .int b0)]) cx dX2_take_37 2 rfl rfl (by decide) rfl ?_
        refine g_goto (tgt := 7) cx dX2_take_40 (by decide) ?_
        exact g_lv [1, 2, 0] rfl (ih j (x + (-8)) (upd u.1 u.2.toNatClampNeg ((b0 >>> (x &&& 31)) &&& 255), u.2 + 1) (T + 1) (by omega) (by omega) (by rw [hxj]; exact fd_s j) (by rw [hT]; exact nI_1 T) (by rw [hf, feedL, ← hxj]))
  exact g_lv [1, 2, 0] rfl (LP7 (N + 1) N _ s T0 (by omega) (by omega) (fd_0 N hN1) hT0 rfl)

theorem tl_nI {c : Cor} (hok : cOk c) : ∃ T : Nat, T ≤ 120 ∧ c.2.2.2.2.1 = nI T := isW_nI 120 (by rw [show (nI 120 : Int32) = 120 from rfl, hok.2.2.1]; decide) (by decide)
theorem tl_le {T N : Nat} {x : Int32} (hT : x = nI T) (h1 : T ≤ 120) (h2 : N ≤ 4) (c : x + nI N ≤ 120) : T + N ≤ 120 := by
  rw [hT, nI_add] at c
  exact (nI_leI (by omega) (by decide)).mp c

abbrev rmX5_feed : Room := { frames := 2, cells := 0, slots := 0, locals := 44 }
theorem hYX5_feed : gY yX5_feed wsX5_feed cX5_feed 3 (some .int) 2 := ⟨⟨_, rfl⟩, by decide +kernel, by decide +kernel, by decide +kernel⟩
theorem iwX5_feed_X5 : ∀ w ∈ u_ws RX5 TX5 8, w ∈ wsX5_feed := by decide +kernel
theorem lkX5_feed_29 : Cond.fieldLink RX5 29 "MuffinBells" "tape" "LMuffinBells$Tape;" ∈ wsX5_feed := by decide +kernel
theorem iwX5_feed_X2 : ∀ w ∈ u_ws RX2 TX2 2, w ∈ wsX5_feed := by decide +kernel
theorem lkX5_feed_184 : Cond.fieldLink RX5 184 "MuffinBells$Tape" "length" "I" ∈ wsX5_feed := by decide +kernel
theorem m1X5_feed_c187 : Cond.constant RX5 187 (-1000000002) ∈ wsX5_feed := by decide +kernel
theorem m1X5_feed_c61 : Cond.constant RX5 61 (-1000000001) ∈ wsX5_feed := by decide +kernel
set_option maxRecDepth 100000 in
set_option maxHeartbeats 4000000 in
theorem c_X5_feed (l : Launch) (E : gE) (a : Nat → Nat) (c : Cor) (g : Gar) (b0 : Int32) (n0 : Int32) (hok : cOk c) : cti l yX5_feed wsX5_feed rmX5_feed E [.ref (a 0), .int b0, .int n0] (xW E a c g) (fun r w => ∃ g', r = (sp_feed c b0 n0).1 ∧ w = xW E a (sp_feed c b0 n0).2 g') := by
  refine mt_i (cc := cX5_feed) (maxL := 3) (ret := some .int) (lv0 := [(0, .ref (a 0)), (1, .int b0), (2, .int n0)]) (by decide) rfl rfl (Nat.le_of_ble_eq_true rfl) (fun X cx gr hI => ?_)
  refine g_iload_n cx dX5_feed_0 2 rfl ?_
  refine g_iconst (v := 1) cx dX5_feed_1 (by decide) ?_
  refine g_iconst (v := 4) cx dX5_feed_2 (by decide) ?_
  refine g_SPi (rest := []) (As := [.int n0, .int 1, .int 4]) cx hYX5_isWithin gX5_feed_X5_isWithin (c_X5_isWithin l E n0 1 4 ) ⟨Nat.le_of_ble_eq_true rfl, Nat.le_of_ble_eq_true rfl⟩ rfl rfl (Nat.le_of_ble_eq_true rfl) ⟨Nat.le_of_ble_eq_true rfl, Nat.le_of_ble_eq_true rfl⟩ dX5_feed_3 ?_
  refine g_if_ne (tgt := 16) cx dX5_feed_6 (by decide) (fun c_1 => ?_) (fun c_1 => ?_)
  · obtain ⟨N, hN1, hN, rfl⟩ := isW_nI1 4 c_1 (by decide)
    have hNc : (nI N).toNatClampNeg = N := nI_clamp (by omega)
    refine g_aload_n cx dX5_feed_16 0 rfl ?_
    refine g_get (C := RX5) (T := TX5) (N := 8) (v := .ref (a 16)) cx iwX5_feed_X5 0 4 rfl rfl (by decide) lkX5_feed_29 rfl dX5_feed_17 ?_
    refine g_get (C := RX2) (T := TX2) (N := 2) (v := .int c.2.2.2.2.1) cx iwX5_feed_X2 16 1 rfl rfl (by decide) lkX5_feed_184 rfl dX5_feed_20 ?_
    refine g_iload_n cx dX5_feed_23 2 rfl ?_
    refine g_iadd cx dX5_feed_24 ?_
    refine g_bipush (v := 120) cx dX5_feed_25 (by decide) ?_
    refine g_icmp_le (tgt := 37) cx dX5_feed_27 (by decide) (fun c_2 => ?_) (fun c_2 => ?_)
    · obtain ⟨T, hT1, hT⟩ := tl_nI hok
      refine g_aload_n cx dX5_feed_37 0 rfl ?_
      refine g_get (C := RX5) (T := TX5) (N := 8) (v := .ref (a 16)) cx iwX5_feed_X5 0 4 rfl rfl (by decide) lkX5_feed_29 rfl dX5_feed_38 ?_
      refine g_iload_n cx dX5_feed_41 1 rfl ?_
      refine g_iload_n cx dX5_feed_42 2 rfl ?_
      refine g_Vv (rest := []) (As := [.int b0, .int (nI N)]) (wr := ([0, 1, 2, 3, 4, 5, 6, 7, 8, 9, 10, 11, 12, 13, 14, 15, 18, 19, 20, 21, 22, 23, 24, 25, 26, 27, 28].filterMap (fun i => (xW E a c g)[i]?))) cx hYX2_take gX5_feed_X2_take (c_X2_take l E (fun i => a (16 + i)) (c.2.2.2.1, c.2.2.2.2.1) b0 N T hN1 (tl_le hT hT1 hN c_2) hT) rfl rfl rfl [16, 17] [0, 1, 2, 3, 4, 5, 6, 7, 8, 9, 10, 11, 12, 13, 14, 15, 18, 19, 20, 21, 22, 23, 24, 25, 26, 27, 28] rfl rfl rfl rfl (by decide) ⟨Nat.le_of_ble_eq_true rfl, Nat.le_of_ble_eq_true rfl⟩ rfl rfl (Nat.le_of_ble_eq_true rfl) ⟨Nat.le_of_ble_eq_true rfl, Nat.le_of_ble_eq_true rfl⟩ dX5_feed_43 (fun w1 hp => ?_)
      obtain rfl := hp
      refine g_ws (ws' := (xW E a (c.1, c.2.1, c.2.2.1, (feedL b0 N (c.2.2.2.1, c.2.2.2.2.1)).1, (feedL b0 N (c.2.2.2.1, c.2.2.2.2.1)).2, c.2.2.2.2.2.1, c.2.2.2.2.2.2.1, c.2.2.2.2.2.2.2.1, c.2.2.2.2.2.2.2.2) g)) [0, 1, 2, 3, 4, 5, 6, 7, 8, 9, 10, 11, 12, 13, 14, 15, 27, 28, 16, 17, 18, 19, 20, 21, 22, 23, 24, 25, 26] rfl rfl ?_
      refine g_aload_n cx dX5_feed_46 0 rfl ?_
      refine g_get (C := RX5) (T := TX5) (N := 8) (v := .ref (a 16)) cx iwX5_feed_X5 0 4 rfl rfl (by decide) lkX5_feed_29 rfl dX5_feed_47 ?_
      refine g_get (C := RX2) (T := TX2) (N := 2) (v := .int ((feedL b0 N (c.2.2.2.1, c.2.2.2.2.1)).2)) cx iwX5_feed_X2 16 1 rfl rfl (by decide) lkX5_feed_184 rfl dX5_feed_50 ?_
      exact g_iret cx gr (Nat.zero_le _) (Nat.zero_le _) dX5_feed_53 (xleaf (by rw [sp_feed, if_neg c_1, if_pos c_2, hNc]))
    · refine g_aload_n cx dX5_feed_30 0 rfl ?_
      refine g_ldc cx m1X5_feed_c187 dX5_feed_31 ?_
      refine g_VSi (rest := []) (As := [.int (-1000000002)]) cx hYX5_finding gX5_feed_X5_finding (c_X5_finding l E a c g (-1000000002) (by unfold vp_in; decide +kernel)) rfl rfl rfl ⟨Nat.le_of_ble_eq_true rfl, Nat.le_of_ble_eq_true rfl⟩ rfl rfl (Nat.le_of_ble_eq_true rfl) ⟨Nat.le_of_ble_eq_true rfl, Nat.le_of_ble_eq_true rfl⟩ dX5_feed_33 (fun r w1 hp => ?_)
      obtain ⟨rfl, rfl⟩ := hp
      exact g_iret cx gr (Nat.zero_le _) (Nat.zero_le _) dX5_feed_36 (xleaf (by rw [sp_feed, if_neg c_1, if_neg c_2]; rfl))
  · refine g_aload_n cx dX5_feed_9 0 rfl ?_
    refine g_ldc cx m1X5_feed_c61 dX5_feed_10 ?_
    refine g_VSi (rest := []) (As := [.int (-1000000001)]) cx hYX5_finding gX5_feed_X5_finding (c_X5_finding l E a c g (-1000000001) (by unfold vp_in; decide +kernel)) rfl rfl rfl ⟨Nat.le_of_ble_eq_true rfl, Nat.le_of_ble_eq_true rfl⟩ rfl rfl (Nat.le_of_ble_eq_true rfl) ⟨Nat.le_of_ble_eq_true rfl, Nat.le_of_ble_eq_true rfl⟩ dX5_feed_12 (fun r w1 hp => ?_)
    obtain ⟨rfl, rfl⟩ := hp
    exact g_iret cx gr (Nat.zero_le _) (Nat.zero_le _) dX5_feed_15 (xleaf (by first | (simp only [sp_feed, tKind, tMood, tPen, tAte, tHour, tTray, tAt, tRang, tCrack, tTak, tWay, cB, c_1, if_true, if_false]; done) | (simp only [sp_feed, tKind, tMood, tPen, tAte, tHour, tTray, tAt, tRang, tCrack, tTak, tWay, cB, c_1, if_true, if_false] <;> rfl) | (simp [sp_feed, tKind, tMood, tPen, tAte, tHour, tTray, tAt, tRang, tCrack, tTak, tWay, cB, c_1] <;> rfl)))
