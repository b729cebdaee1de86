abbrev rmX3_putMan : Room := { frames := 0, cells := 0, slots := 0, locals := 0 }
theorem hYX3_putMan : gY yX3_putMan wsX3_putMan cX3_putMan 3 (some .int) 1 := ⟨⟨_, rfl⟩, by decide +kernel, by decide +kernel, by decide +kernel⟩
theorem iwX3_putMan_X3 : ∀ w ∈ u_ws RX3 TX3 11, w ∈ wsX3_putMan := by decide +kernel
theorem lkX3_putMan_15 : Cond.fieldLink RX3 15 "MuffinBells$Terrace" "at" "I" ∈ wsX3_putMan := by decide +kernel
set_option maxRecDepth 100000 in
set_option maxHeartbeats 4000000 in
theorem c_X3_putMan (l : Launch) (E : gE) (a : Nat → Nat) (t : Ter) (v0 : Int32) : cti l yX3_putMan wsX3_putMan rmX3_putMan E [.ref (a 0), .int v0] (tW E a t) (fun r w => r = t.2.1 ∧ w = tW E a (t.1, v0, t.2.2.1, t.2.2.2.1, t.2.2.2.2.1, t.2.2.2.2.2.1, t.2.2.2.2.2.2.1, t.2.2.2.2.2.2.2.1, t.2.2.2.2.2.2.2.2.1, t.2.2.2.2.2.2.2.2.2.1, t.2.2.2.2.2.2.2.2.2.2)) := by
  refine mt_i (cc := cX3_putMan) (maxL := 3) (ret := some .int) (lv0 := [(0, .ref (a 0)), (1, .int v0)]) (by decide) rfl rfl (Nat.le_of_ble_eq_true rfl) (fun X cx gr hI => ?_)
  refine g_aload_n cx dX3_putMan_0 0 rfl ?_
  refine g_get (C := RX3) (T := TX3) (N := 11) (v := .int t.2.1) cx iwX3_putMan_X3 0 1 rfl rfl (by decide) lkX3_putMan_15 rfl dX3_putMan_1 ?_
  refine g_istore_n (lv' := [(2, .int t.2.1), (0, .ref (a 0)), (1, .int v0)]) cx dX3_putMan_4 (by decide) rfl ?_
  refine g_aload_n cx dX3_putMan_5 1 rfl ?_
  refine g_iload_n cx dX3_putMan_6 2 rfl ?_
  refine g_put (C := RX3) (T := TX3) (N := 11) (ws' := (tW E a (t.1, v0, t.2.2.1, t.2.2.2.1, t.2.2.2.2.1, t.2.2.2.2.2.1, t.2.2.2.2.2.2.1, t.2.2.2.2.2.2.2.1, t.2.2.2.2.2.2.2.2.1, t.2.2.2.2.2.2.2.2.2.1, t.2.2.2.2.2.2.2.2.2.2))) cx iwX3_putMan_X3 tyX3 tyX3_ok nmX3 0 1 rfl rfl (by decide) lkX3_putMan_15 rfl rfl rfl (Nat.le_of_ble_eq_true rfl) dX3_putMan_7 rfl ?_
  refine g_iload_n cx dX3_putMan_10 0 rfl ?_
  exact g_iret cx gr (Nat.zero_le _) (Nat.zero_le _) dX3_putMan_11 ⟨rfl, rfl⟩

abbrev rmX3_putWay : Room := { frames := 0, cells := 0, slots := 0, locals := 0 }
theorem hYX3_putWay : gY yX3_putWay wsX3_putWay cX3_putWay 3 (some .int) 1 := ⟨⟨_, rfl⟩, by decide +kernel, by decide +kernel, by decide +kernel⟩
theorem iwX3_putWay_X3 : ∀ w ∈ u_ws RX3 TX3 11, w ∈ wsX3_putWay := by decide +kernel
theorem lkX3_putWay_18 : Cond.fieldLink RX3 18 "MuffinBells$Terrace" "way" "I" ∈ wsX3_putWay := by decide +kernel
set_option maxRecDepth 100000 in
set_option maxHeartbeats 4000000 in
theorem c_X3_putWay (l : Launch) (E : gE) (a : Nat → Nat) (t : Ter) (v0 : Int32) : cti l yX3_putWay wsX3_putWay rmX3_putWay E [.ref (a 0), .int v0] (tW E a t) (fun r w => r = t.2.2.1 ∧ w = tW E a (t.1, t.2.1, v0, t.2.2.2.1, t.2.2.2.2.1, t.2.2.2.2.2.1, t.2.2.2.2.2.2.1, t.2.2.2.2.2.2.2.1, t.2.2.2.2.2.2.2.2.1, t.2.2.2.2.2.2.2.2.2.1, t.2.2.2.2.2.2.2.2.2.2)) := by
  refine mt_i (cc := cX3_putWay) (maxL := 3) (ret := some .int) (lv0 := [(0, .ref (a 0)), (1, .int v0)]) (by decide) rfl rfl (Nat.le_of_ble_eq_true rfl) (fun X cx gr hI => ?_)
  refine g_aload_n cx dX3_putWay_0 0 rfl ?_
  refine g_get (C := RX3) (T := TX3) (N := 11) (v := .int t.2.2.1) cx iwX3_putWay_X3 0 2 rfl rfl (by decide) lkX3_putWay_18 rfl dX3_putWay_1 ?_
  refine g_istore_n (lv' := [(2, .int t.2.2.1), (0, .ref (a 0)), (1, .int v0)]) cx dX3_putWay_4 (by decide) rfl ?_
  refine g_aload_n cx dX3_putWay_5 1 rfl ?_
  refine g_iload_n cx dX3_putWay_6 2 rfl ?_
  refine g_put (C := RX3) (T := TX3) (N := 11) (ws' := (tW E a (t.1, t.2.1, v0, t.2.2.2.1, t.2.2.2.2.1, t.2.2.2.2.2.1, t.2.2.2.2.2.2.1, t.2.2.2.2.2.2.2.1, t.2.2.2.2.2.2.2.2.1, t.2.2.2.2.2.2.2.2.2.1, t.2.2.2.2.2.2.2.2.2.2))) cx iwX3_putWay_X3 tyX3 tyX3_ok nmX3 0 2 rfl rfl (by decide) lkX3_putWay_18 rfl rfl rfl (Nat.le_of_ble_eq_true rfl) dX3_putWay_7 rfl ?_
  refine g_iload_n cx dX3_putWay_10 0 rfl ?_
  exact g_iret cx gr (Nat.zero_le _) (Nat.zero_le _) dX3_putWay_11 ⟨rfl, rfl⟩

abbrev rmX3_putTray : Room := { frames := 0, cells := 0, slots := 0, locals := 0 }
theorem hYX3_putTray : gY yX3_putTray wsX3_putTray cX3_putTray 3 (some .int) 1 := ⟨⟨_, rfl⟩, by decide +kernel, by decide +kernel, by decide +kernel⟩
theorem iwX3_putTray_X3 : ∀ w ∈ u_ws RX3 TX3 11, w ∈ wsX3_putTray := by decide +kernel
theorem lkX3_putTray_21 : Cond.fieldLink RX3 21 "MuffinBells$Terrace" "tray" "I" ∈ wsX3_putTray := by decide +kernel
set_option maxRecDepth 100000 in
set_option maxHeartbeats 4000000 in
theorem c_X3_putTray (l : Launch) (E : gE) (a : Nat → Nat) (t : Ter) (v0 : Int32) : cti l yX3_putTray wsX3_putTray rmX3_putTray E [.ref (a 0), .int v0] (tW E a t) (fun r w => r = t.2.2.2.1 ∧ w = tW E a (t.1, t.2.1, t.2.2.1, v0, t.2.2.2.2.1, t.2.2.2.2.2.1, t.2.2.2.2.2.2.1, t.2.2.2.2.2.2.2.1, t.2.2.2.2.2.2.2.2.1, t.2.2.2.2.2.2.2.2.2.1, t.2.2.2.2.2.2.2.2.2.2)) := by
  refine mt_i (cc := cX3_putTray) (maxL := 3) (ret := some .int) (lv0 := [(0, .ref (a 0)), (1, .int v0)]) (by decide) rfl rfl (Nat.le_of_ble_eq_true rfl) (fun X cx gr hI => ?_)
  refine g_aload_n cx dX3_putTray_0 0 rfl ?_
  refine g_get (C := RX3) (T := TX3) (N := 11) (v := .int t.2.2.2.1) cx iwX3_putTray_X3 0 3 rfl rfl (by decide) lkX3_putTray_21 rfl dX3_putTray_1 ?_
  refine g_istore_n (lv' := [(2, .int t.2.2.2.1), (0, .ref (a 0)), (1, .int v0)]) cx dX3_putTray_4 (by decide) rfl ?_
  refine g_aload_n cx dX3_putTray_5 1 rfl ?_
  refine g_iload_n cx dX3_putTray_6 2 rfl ?_
  refine g_put (C := RX3) (T := TX3) (N := 11) (ws' := (tW E a (t.1, t.2.1, t.2.2.1, v0, t.2.2.2.2.1, t.2.2.2.2.2.1, t.2.2.2.2.2.2.1, t.2.2.2.2.2.2.2.1, t.2.2.2.2.2.2.2.2.1, t.2.2.2.2.2.2.2.2.2.1, t.2.2.2.2.2.2.2.2.2.2))) cx iwX3_putTray_X3 tyX3 tyX3_ok nmX3 0 3 rfl rfl (by decide) lkX3_putTray_21 rfl rfl rfl (Nat.le_of_ble_eq_true rfl) dX3_putTray_7 rfl ?_
  refine g_iload_n cx dX3_putTray_10 0 rfl ?_
  exact g_iret cx gr (Nat.zero_le _) (Nat.zero_le _) dX3_putTray_11 ⟨rfl, rfl⟩

abbrev rmX3_putRang : Room := { frames := 0, cells := 0, slots := 0, locals := 0 }
theorem hYX3_putRang : gY yX3_putRang wsX3_putRang cX3_putRang 3 (some .int) 1 := ⟨⟨_, rfl⟩, by decide +kernel, by decide +kernel, by decide +kernel⟩
theorem iwX3_putRang_X3 : ∀ w ∈ u_ws RX3 TX3 11, w ∈ wsX3_putRang := by decide +kernel
theorem lkX3_putRang_24 : Cond.fieldLink RX3 24 "MuffinBells$Terrace" "rang" "I" ∈ wsX3_putRang := by decide +kernel
set_option maxRecDepth 100000 in
set_option maxHeartbeats 4000000 in
theorem c_X3_putRang (l : Launch) (E : gE) (a : Nat → Nat) (t : Ter) (v0 : Int32) : cti l yX3_putRang wsX3_putRang rmX3_putRang E [.ref (a 0), .int v0] (tW E a t) (fun r w => r = t.2.2.2.2.1 ∧ w = tW E a (t.1, t.2.1, t.2.2.1, t.2.2.2.1, v0, t.2.2.2.2.2.1, t.2.2.2.2.2.2.1, t.2.2.2.2.2.2.2.1, t.2.2.2.2.2.2.2.2.1, t.2.2.2.2.2.2.2.2.2.1, t.2.2.2.2.2.2.2.2.2.2)) := by
  refine mt_i (cc := cX3_putRang) (maxL := 3) (ret := some .int) (lv0 := [(0, .ref (a 0)), (1, .int v0)]) (by decide) rfl rfl (Nat.le_of_ble_eq_true rfl) (fun X cx gr hI => ?_)
  refine g_aload_n cx dX3_putRang_0 0 rfl ?_
  refine g_get (C := RX3) (T := TX3) (N := 11) (v := .int t.2.2.2.2.1) cx iwX3_putRang_X3 0 4 rfl rfl (by decide) lkX3_putRang_24 rfl dX3_putRang_1 ?_
  refine g_istore_n (lv' := [(2, .int t.2.2.2.2.1), (0, .ref (a 0)), (1, .int v0)]) cx dX3_putRang_4 (by decide) rfl ?_
  refine g_aload_n cx dX3_putRang_5 1 rfl ?_
  refine g_iload_n cx dX3_putRang_6 2 rfl ?_
  refine g_put (C := RX3) (T := TX3) (N := 11) (ws' := (tW E a (t.1, t.2.1, t.2.2.1, t.2.2.2.1, v0, t.2.2.2.2.2.1, t.2.2.2.2.2.2.1, t.2.2.2.2.2.2.2.1, t.2.2.2.2.2.2.2.2.1, t.2.2.2.2.2.2.2.2.2.1, t.2.2.2.2.2.2.2.2.2.2))) cx iwX3_putRang_X3 tyX3 tyX3_ok nmX3 0 4 rfl rfl (by decide) lkX3_putRang_24 rfl rfl rfl (Nat.le_of_ble_eq_true rfl) dX3_putRang_7 rfl ?_
  refine g_iload_n cx dX3_putRang_10 0 rfl ?_
  exact g_iret cx gr (Nat.zero_le _) (Nat.zero_le _) dX3_putRang_11 ⟨rfl, rfl⟩

abbrev rmX3_putCrack : Room := { frames := 0, cells := 0, slots := 0, locals := 0 }
theorem hYX3_putCrack : gY yX3_putCrack wsX3_putCrack cX3_putCrack 3 (some .int) 1 := ⟨⟨_, rfl⟩, by decide +kernel, by decide +kernel, by decide +kernel⟩
theorem iwX3_putCrack_X3 : ∀ w ∈ u_ws RX3 TX3 11, w ∈ wsX3_putCrack := by decide +kernel
theorem lkX3_putCrack_27 : Cond.fieldLink RX3 27 "MuffinBells$Terrace" "crack" "I" ∈ wsX3_putCrack := by decide +kernel
set_option maxRecDepth 100000 in
set_option maxHeartbeats 4000000 in
theorem c_X3_putCrack (l : Launch) (E : gE) (a : Nat → Nat) (t : Ter) (v0 : Int32) : cti l yX3_putCrack wsX3_putCrack rmX3_putCrack E [.ref (a 0), .int v0] (tW E a t) (fun r w => r = t.2.2.2.2.2.1 ∧ w = tW E a (t.1, t.2.1, t.2.2.1, t.2.2.2.1, t.2.2.2.2.1, v0, t.2.2.2.2.2.2.1, t.2.2.2.2.2.2.2.1, t.2.2.2.2.2.2.2.2.1, t.2.2.2.2.2.2.2.2.2.1, t.2.2.2.2.2.2.2.2.2.2)) := by
  refine mt_i (cc := cX3_putCrack) (maxL := 3) (ret := some .int) (lv0 := [(0, .ref (a 0)), (1, .int v0)]) (by decide) rfl rfl (Nat.le_of_ble_eq_true rfl) (fun X cx gr hI => ?_)
  refine g_aload_n cx dX3_putCrack_0 0 rfl ?_
  refine g_get (C := RX3) (T := TX3) (N := 11) (v := .int t.2.2.2.2.2.1) cx iwX3_putCrack_X3 0 5 rfl rfl (by decide) lkX3_putCrack_27 rfl dX3_putCrack_1 ?_
  refine g_istore_n (lv' := [(2, .int t.2.2.2.2.2.1), (0, .ref (a 0)), (1, .int v0)]) cx dX3_putCrack_4 (by decide) rfl ?_
  refine g_aload_n cx dX3_putCrack_5 1 rfl ?_
  refine g_iload_n cx dX3_putCrack_6 2 rfl ?_
  refine g_put (C := RX3) (T := TX3) (N := 11) (ws' := (tW E a (t.1, t.2.1, t.2.2.1, t.2.2.2.1, t.2.2.2.2.1, v0, t.2.2.2.2.2.2.1, t.2.2.2.2.2.2.2.1, t.2.2.2.2.2.2.2.2.1, t.2.2.2.2.2.2.2.2.2.1, t.2.2.2.2.2.2.2.2.2.2))) cx iwX3_putCrack_X3 tyX3 tyX3_ok nmX3 0 5 rfl rfl (by decide) lkX3_putCrack_27 rfl rfl rfl (Nat.le_of_ble_eq_true rfl) dX3_putCrack_7 rfl ?_
  refine g_iload_n cx dX3_putCrack_10 0 rfl ?_
  exact g_iret cx gr (Nat.zero_le _) (Nat.zero_le _) dX3_putCrack_11 ⟨rfl, rfl⟩

abbrev rmX3_isResting : Room := { frames := 0, cells := 0, slots := 0, locals := 0 }
theorem hYX3_isResting : gY yX3_isResting wsX3_isResting cX3_isResting 1 (some .boolean) 0 := ⟨⟨_, rfl⟩, by decide +kernel, by decide +kernel, by decide +kernel⟩
theorem iwX3_isResting_X3 : ∀ w ∈ u_ws RX3 TX3 11, w ∈ wsX3_isResting := by decide +kernel
theorem lkX3_isResting_9 : Cond.fieldLink RX3 9 "MuffinBells$Terrace" "hour" "I" ∈ wsX3_isResting := by decide +kernel
set_option maxRecDepth 100000 in
set_option maxHeartbeats 4000000 in
theorem c_X3_isResting (l : Launch) (E : gE) (a : Nat → Nat) (t : Ter) : cti l yX3_isResting wsX3_isResting rmX3_isResting E [.ref (a 0)] (tW E a t) (fun r w => r = sRest t.1 ∧ w = tW E a t) := by
  refine mt_i (cc := cX3_isResting) (maxL := 1) (ret := some .boolean) (lv0 := [(0, .ref (a 0))]) (by decide) rfl rfl (Nat.le_of_ble_eq_true rfl) (fun X cx gr hI => ?_)
  refine g_aload_n cx dX3_isResting_0 0 rfl ?_
  refine g_get (C := RX3) (T := TX3) (N := 11) (v := .int t.1) cx iwX3_isResting_X3 0 0 rfl rfl (by decide) lkX3_isResting_9 rfl dX3_isResting_1 ?_
  refine g_iconst (v := 5) cx dX3_isResting_4 (by decide) ?_
  refine g_irem cx dX3_isResting_5 (by decide) ?_
  refine g_iconst (v := 4) cx dX3_isResting_6 (by decide) ?_
  refine g_icmp_ne (tgt := 14) cx dX3_isResting_7 (by decide) (fun c_1 => ?_) (fun c_1 => ?_)
  · refine g_iconst (v := 0) cx dX3_isResting_14 (by decide) ?_
    exact g_zret cx gr rfl (Nat.zero_le _) (Nat.zero_le _) dX3_isResting_15 ⟨by first | rfl | simp [sRest, c_1], rfl⟩
  · refine g_iconst (v := 1) cx dX3_isResting_10 (by decide) ?_
    refine g_goto (tgt := 15) cx dX3_isResting_11 (by decide) ?_
    exact g_zret cx gr rfl (Nat.zero_le _) (Nat.zero_le _) dX3_isResting_15 ⟨by first | rfl | simp [sRest, c_1], rfl⟩

abbrev rmX3_toneAt : Room := { frames := 1, cells := 0, slots := 0, locals := 25 }
theorem hYX3_toneAt : gY yX3_toneAt wsX3_toneAt cX3_toneAt 2 (some .int) 1 := ⟨⟨_, rfl⟩, by decide +kernel, by decide +kernel, by decide +kernel⟩
theorem iwX3_toneAt_X3 : ∀ w ∈ u_ws RX3 TX3 11, w ∈ wsX3_toneAt := by decide +kernel
theorem lkX3_toneAt_33 : Cond.fieldLink RX3 33 "MuffinBells$Terrace" "kinds" "[I" ∈ wsX3_toneAt := by decide +kernel
theorem lkX3_toneAt_37 : Cond.fieldLink RX3 37 "MuffinBells$Terrace" "moods" "[I" ∈ wsX3_toneAt := by decide +kernel
theorem lkX3_toneAt_9 : Cond.fieldLink RX3 9 "MuffinBells$Terrace" "hour" "I" ∈ wsX3_toneAt := by decide +kernel
set_option maxRecDepth 100000 in
set_option maxHeartbeats 4000000 in
theorem c_X3_toneAt (l : Launch) (E : gE) (a : Nat → Nat) (t : Ter) (h0 : Int32) (hh : vp_in h0 8) : cti l yX3_toneAt wsX3_toneAt rmX3_toneAt E [.ref (a 0), .int h0] (tW E a t) (fun r w => r = toneAt t h0 ∧ w = tW E a t) := by
  refine mt_i (cc := cX3_toneAt) (maxL := 2) (ret := some .int) (lv0 := [(0, .ref (a 0)), (1, .int h0)]) (by decide) rfl rfl (Nat.le_of_ble_eq_true rfl) (fun X cx gr hI => ?_)
  refine g_aload_n cx dX3_toneAt_0 0 rfl ?_
  refine g_get (C := RX3) (T := TX3) (N := 11) (v := .ref (a 1)) cx iwX3_toneAt_X3 0 7 rfl rfl (by decide) lkX3_toneAt_33 rfl dX3_toneAt_1 ?_
  refine g_iload_n cx dX3_toneAt_4 1 rfl ?_
  refine g_iald cx 1 rfl rfl (by assumption) dX3_toneAt_5 ?_
  refine g_aload_n cx dX3_toneAt_6 0 rfl ?_
  refine g_get (C := RX3) (T := TX3) (N := 11) (v := .ref (a 2)) cx iwX3_toneAt_X3 0 8 rfl rfl (by decide) lkX3_toneAt_37 rfl dX3_toneAt_7 ?_
  refine g_iload_n cx dX3_toneAt_10 1 rfl ?_
  refine g_iald cx 2 rfl rfl (by assumption) dX3_toneAt_11 ?_
  refine g_aload_n cx dX3_toneAt_12 0 rfl ?_
  refine g_get (C := RX3) (T := TX3) (N := 11) (v := .int t.1) cx iwX3_toneAt_X3 0 0 rfl rfl (by decide) lkX3_toneAt_9 rfl dX3_toneAt_13 ?_
  refine g_SPi (rest := []) (As := [.int (t.2.2.2.2.2.2.2.1 (h0.toNatClampNeg)), .int (t.2.2.2.2.2.2.2.2.1 (h0.toNatClampNeg)), .int t.1]) cx hYX0_tone gX3_toneAt_X0_tone (c_X0_tone l E (t.2.2.2.2.2.2.2.1 (h0.toNatClampNeg)) (t.2.2.2.2.2.2.2.2.1 (h0.toNatClampNeg)) t.1 ) ⟨Nat.le_of_ble_eq_true rfl, Nat.le_of_ble_eq_true rfl⟩ rfl rfl (Nat.le_of_ble_eq_true rfl) ⟨Nat.le_of_ble_eq_true rfl, Nat.le_of_ble_eq_true rfl⟩ dX3_toneAt_16 ?_
  exact g_iret cx gr (Nat.zero_le _) (Nat.zero_le _) dX3_toneAt_19 ⟨rfl, rfl⟩

abbrev rmX3_mindingAt : Room := { frames := 1, cells := 0, slots := 0, locals := 25 }
theorem hYX3_mindingAt : gY yX3_mindingAt wsX3_mindingAt cX3_mindingAt 4 (some .int) 2 := ⟨⟨_, rfl⟩, by decide +kernel, by decide +kernel, by decide +kernel⟩
theorem iwX3_mindingAt_X3 : ∀ w ∈ u_ws RX3 TX3 11, w ∈ wsX3_mindingAt := by decide +kernel
theorem lkX3_mindingAt_33 : Cond.fieldLink RX3 33 "MuffinBells$Terrace" "kinds" "[I" ∈ wsX3_mindingAt := by decide +kernel
theorem lkX3_mindingAt_37 : Cond.fieldLink RX3 37 "MuffinBells$Terrace" "moods" "[I" ∈ wsX3_mindingAt := by decide +kernel
theorem lkX3_mindingAt_9 : Cond.fieldLink RX3 9 "MuffinBells$Terrace" "hour" "I" ∈ wsX3_mindingAt := by decide +kernel
set_option maxRecDepth 100000 in
set_option maxHeartbeats 4000000 in
theorem c_X3_mindingAt (l : Launch) (E : gE) (a : Nat → Nat) (t : Ter) (h0 : Int32) (r0 : Int32) (hh : vp_in h0 8) : cti l yX3_mindingAt wsX3_mindingAt rmX3_mindingAt E [.ref (a 0), .int h0, .int r0] (tW E a t) (fun r w => r = mindAt t h0 r0 ∧ w = tW E a t) := by
  refine mt_i (cc := cX3_mindingAt) (maxL := 4) (ret := some .int) (lv0 := [(0, .ref (a 0)), (1, .int h0), (2, .int r0)]) (by decide) rfl rfl (Nat.le_of_ble_eq_true rfl) (fun X cx gr hI => ?_)
  refine g_aload_n cx dX3_mindingAt_0 0 rfl ?_
  refine g_get (C := RX3) (T := TX3) (N := 11) (v := .ref (a 1)) cx iwX3_mindingAt_X3 0 7 rfl rfl (by decide) lkX3_mindingAt_33 rfl dX3_mindingAt_1 ?_
  refine g_iload_n cx dX3_mindingAt_4 1 rfl ?_
  refine g_iald cx 1 rfl rfl (by assumption) dX3_mindingAt_5 ?_
  refine g_aload_n cx dX3_mindingAt_6 0 rfl ?_
  refine g_get (C := RX3) (T := TX3) (N := 11) (v := .ref (a 2)) cx iwX3_mindingAt_X3 0 8 rfl rfl (by decide) lkX3_mindingAt_37 rfl dX3_mindingAt_7 ?_
  refine g_iload_n cx dX3_mindingAt_10 1 rfl ?_
  refine g_iald cx 2 rfl rfl (by assumption) dX3_mindingAt_11 ?_
  refine g_aload_n cx dX3_mindingAt_12 0 rfl ?_
  refine g_get (C := RX3) (T := TX3) (N := 11) (v := .int t.1) cx iwX3_mindingAt_X3 0 0 rfl rfl (by decide) lkX3_mindingAt_9 rfl dX3_mindingAt_13 ?_
  refine g_SPi (rest := []) (As := [.int (t.2.2.2.2.2.2.2.1 (h0.toNatClampNeg)), .int (t.2.2.2.2.2.2.2.2.1 (h0.toNatClampNeg)), .int t.1]) cx hYX0_tone gX3_mindingAt_X0_tone (c_X0_tone l E (t.2.2.2.2.2.2.2.1 (h0.toNatClampNeg)) (t.2.2.2.2.2.2.2.2.1 (h0.toNatClampNeg)) t.1 ) ⟨Nat.le_of_ble_eq_true rfl, Nat.le_of_ble_eq_true rfl⟩ rfl rfl (Nat.le_of_ble_eq_true rfl) ⟨Nat.le_of_ble_eq_true rfl, Nat.le_of_ble_eq_true rfl⟩ dX3_mindingAt_16 ?_
  refine g_istore_n (lv' := [(3, .int (sTone (t.2.2.2.2.2.2.2.1 (h0.toNatClampNeg)) (t.2.2.2.2.2.2.2.2.1 (h0.toNatClampNeg)) t.1)), (0, .ref (a 0)), (1, .int h0), (2, .int r0)]) cx dX3_mindingAt_19 (by decide) rfl ?_
  refine g_aload_n cx dX3_mindingAt_20 1 rfl ?_
  refine g_get (C := RX3) (T := TX3) (N := 11) (v := .ref (a 1)) cx iwX3_mindingAt_X3 0 7 rfl rfl (by decide) lkX3_mindingAt_33 rfl dX3_mindingAt_21 ?_
  refine g_iload_n cx dX3_mindingAt_24 2 rfl ?_
  refine g_iald cx 1 rfl rfl (by assumption) dX3_mindingAt_25 ?_
  refine g_iload_n cx dX3_mindingAt_26 3 rfl ?_
  refine g_iload_n cx dX3_mindingAt_27 0 rfl ?_
  refine g_SPi (rest := []) (As := [.int (t.2.2.2.2.2.2.2.1 (h0.toNatClampNeg)), .int r0, .int (sTone (t.2.2.2.2.2.2.2.1 (h0.toNatClampNeg)) (t.2.2.2.2.2.2.2.2.1 (h0.toNatClampNeg)) t.1)]) cx hYX0_minding gX3_mindingAt_X0_minding (c_X0_minding l E (t.2.2.2.2.2.2.2.1 (h0.toNatClampNeg)) r0 (sTone (t.2.2.2.2.2.2.2.1 (h0.toNatClampNeg)) (t.2.2.2.2.2.2.2.2.1 (h0.toNatClampNeg)) t.1) ) ⟨Nat.le_of_ble_eq_true rfl, Nat.le_of_ble_eq_true rfl⟩ rfl rfl (Nat.le_of_ble_eq_true rfl) ⟨Nat.le_of_ble_eq_true rfl, Nat.le_of_ble_eq_true rfl⟩ dX3_mindingAt_28 ?_
  exact g_iret cx gr (Nat.zero_le _) (Nat.zero_le _) dX3_mindingAt_31 ⟨rfl, rfl⟩

abbrev rmX3_buyingAt : Room := { frames := 1, cells := 0, slots := 0, locals := 24 }
theorem hYX3_buyingAt : gY yX3_buyingAt wsX3_buyingAt cX3_buyingAt 4 (some .int) 2 := ⟨⟨_, rfl⟩, by decide +kernel, by decide +kernel, by decide +kernel⟩
theorem iwX3_buyingAt_X3 : ∀ w ∈ u_ws RX3 TX3 11, w ∈ wsX3_buyingAt := by decide +kernel
theorem lkX3_buyingAt_33 : Cond.fieldLink RX3 33 "MuffinBells$Terrace" "kinds" "[I" ∈ wsX3_buyingAt := by decide +kernel
theorem lkX3_buyingAt_40 : Cond.fieldLink RX3 40 "MuffinBells$Terrace" "pence" "[I" ∈ wsX3_buyingAt := by decide +kernel
theorem lkX3_buyingAt_21 : Cond.fieldLink RX3 21 "MuffinBells$Terrace" "tray" "I" ∈ wsX3_buyingAt := by decide +kernel
theorem mwX3_buyingAt_mmin : ∀ w ∈ ([Cond.methodLink RX3 71 Lib.Math.min.name, Cond.static Lib.Math.min.name, Cond.initialized "java/lang/Math", Cond.code Lib.Math.min.name Lib.Math.min.code 2 (some .int)] : List Cond), w ∈ wsX3_buyingAt := by decide +kernel
set_option maxRecDepth 100000 in
set_option maxHeartbeats 4000000 in
theorem c_X3_buyingAt (l : Launch) (E : gE) (a : Nat → Nat) (t : Ter) (h0 : Int32) (r0 : Int32) (hh : vp_in h0 8) : cti l yX3_buyingAt wsX3_buyingAt rmX3_buyingAt E [.ref (a 0), .int h0, .int r0] (tW E a t) (fun r w => r = buyAt t h0 r0 ∧ w = tW E a t) := by
  refine mt_i (cc := cX3_buyingAt) (maxL := 4) (ret := some .int) (lv0 := [(0, .ref (a 0)), (1, .int h0), (2, .int r0)]) (by decide) rfl rfl (Nat.le_of_ble_eq_true rfl) (fun X cx gr hI => ?_)
  refine g_aload_n cx dX3_buyingAt_0 0 rfl ?_
  refine g_get (C := RX3) (T := TX3) (N := 11) (v := .ref (a 1)) cx iwX3_buyingAt_X3 0 7 rfl rfl (by decide) lkX3_buyingAt_33 rfl dX3_buyingAt_1 ?_
  refine g_iload_n cx dX3_buyingAt_4 1 rfl ?_
  refine g_iald cx 1 rfl rfl (by assumption) dX3_buyingAt_5 ?_
  refine g_iload_n cx dX3_buyingAt_6 2 rfl ?_
  refine g_SPi (rest := []) (As := [.int (t.2.2.2.2.2.2.2.1 (h0.toNatClampNeg)), .int r0]) cx hYX0_wanting gX3_buyingAt_X0_wanting (c_X0_wanting l E (t.2.2.2.2.2.2.2.1 (h0.toNatClampNeg)) r0 ) ⟨Nat.le_of_ble_eq_true rfl, Nat.le_of_ble_eq_true rfl⟩ rfl rfl (Nat.le_of_ble_eq_true rfl) ⟨Nat.le_of_ble_eq_true rfl, Nat.le_of_ble_eq_true rfl⟩ dX3_buyingAt_7 ?_
  refine g_istore_n (lv' := [(3, .int (sWant (t.2.2.2.2.2.2.2.1 (h0.toNatClampNeg)) r0)), (0, .ref (a 0)), (1, .int h0), (2, .int r0)]) cx dX3_buyingAt_10 (by decide) rfl ?_
  refine g_iload_n cx dX3_buyingAt_11 0 rfl ?_
  refine g_aload_n cx dX3_buyingAt_12 1 rfl ?_
  refine g_get (C := RX3) (T := TX3) (N := 11) (v := .ref (a 3)) cx iwX3_buyingAt_X3 0 9 rfl rfl (by decide) lkX3_buyingAt_40 rfl dX3_buyingAt_13 ?_
  refine g_iload_n cx dX3_buyingAt_16 2 rfl ?_
  refine g_iald cx 3 rfl rfl (by assumption) dX3_buyingAt_17 ?_
  refine g_iconst (v := 2) cx dX3_buyingAt_18 (by decide) ?_
  refine g_idiv cx dX3_buyingAt_19 (by decide) ?_
  refine g_aload_n cx dX3_buyingAt_20 1 rfl ?_
  refine g_get (C := RX3) (T := TX3) (N := 11) (v := .int t.2.2.2.1) cx iwX3_buyingAt_X3 0 3 rfl rfl (by decide) lkX3_buyingAt_21 rfl dX3_buyingAt_21 ?_
  refine g_min cx mwX3_buyingAt_mmin (by decide) (Nat.le_of_ble_eq_true rfl) (Nat.zero_le _) (Nat.zero_le _) dX3_buyingAt_24 ?_
  refine g_min cx mwX3_buyingAt_mmin (by decide) (Nat.le_of_ble_eq_true rfl) (Nat.zero_le _) (Nat.zero_le _) dX3_buyingAt_27 ?_
  exact g_iret cx gr (Nat.zero_le _) (Nat.zero_le _) dX3_buyingAt_30 ⟨rfl, rfl⟩

abbrev rmX3_hearAndBuy : Room := { frames := 2, cells := 0, slots := 0, locals := 48 }
theorem hYX3_hearAndBuy : gY yX3_hearAndBuy wsX3_hearAndBuy cX3_hearAndBuy 3 (none) 0 := ⟨⟨_, rfl⟩, by decide +kernel, by decide +kernel, by decide +kernel⟩
theorem iwX3_hearAndBuy_X3 : ∀ w ∈ u_ws RX3 TX3 11, w ∈ wsX3_hearAndBuy := by decide +kernel
theorem lkX3_hearAndBuy_37 : Cond.fieldLink RX3 37 "MuffinBells$Terrace" "moods" "[I" ∈ wsX3_hearAndBuy := by decide +kernel
theorem lkX3_hearAndBuy_15 : Cond.fieldLink RX3 15 "MuffinBells$Terrace" "at" "I" ∈ wsX3_hearAndBuy := by decide +kernel
theorem lkX3_hearAndBuy_24 : Cond.fieldLink RX3 24 "MuffinBells$Terrace" "rang" "I" ∈ wsX3_hearAndBuy := by decide +kernel
theorem mwX3_hearAndBuy_n99 : ∀ w ∈ ([Cond.static yX5_held, Cond.initialized yX5_held.cls] : List Cond), w ∈ wsX3_hearAndBuy := by decide +kernel
theorem lkX3_hearAndBuy_21 : Cond.fieldLink RX3 21 "MuffinBells$Terrace" "tray" "I" ∈ wsX3_hearAndBuy := by decide +kernel
theorem lkX3_hearAndBuy_40 : Cond.fieldLink RX3 40 "MuffinBells$Terrace" "pence" "[I" ∈ wsX3_hearAndBuy := by decide +kernel
theorem lkX3_hearAndBuy_43 : Cond.fieldLink RX3 43 "MuffinBells$Terrace" "ate" "[I" ∈ wsX3_hearAndBuy := by decide +kernel
theorem mwX3_hearAndBuy_mmin : ∀ w ∈ ([Cond.methodLink RX3 71 Lib.Math.min.name, Cond.static Lib.Math.min.name, Cond.initialized "java/lang/Math", Cond.code Lib.Math.min.name Lib.Math.min.code 2 (some .int)] : List Cond), w ∈ wsX3_hearAndBuy := by decide +kernel
theorem m1X3_hearAndBuy_c105 : Cond.constant RX3 105 (99999) ∈ wsX3_hearAndBuy := by decide +kernel
theorem lkX3_hearAndBuy_30 : Cond.fieldLink RX3 30 "MuffinBells$Terrace" "takings" "I" ∈ wsX3_hearAndBuy := by decide +kernel
set_option maxRecDepth 100000 in
set_option maxHeartbeats 4000000 in
theorem c_X3_hearAndBuy (l : Launch) (E : gE) (a : Nat → Nat) (t : Ter) (hat : vp_in (tAt t) 8) : ctv l yX3_hearAndBuy wsX3_hearAndBuy rmX3_hearAndBuy E [.ref (a 0)] (tW E a t) (fun w => w = tW E a (hearBuy t)) := by
  refine mt_v (cc := cX3_hearAndBuy) (maxL := 3) (ret := none) (lv0 := [(0, .ref (a 0))]) (by decide) rfl rfl (Nat.le_of_ble_eq_true rfl) (fun X cx gr hI => ?_)
  refine g_aload_n cx dX3_hearAndBuy_0 0 rfl ?_
  refine g_get (C := RX3) (T := TX3) (N := 11) (v := .ref (a 2)) cx iwX3_hearAndBuy_X3 0 8 rfl rfl (by decide) lkX3_hearAndBuy_37 rfl dX3_hearAndBuy_1 ?_
  refine g_aload_n cx dX3_hearAndBuy_4 0 rfl ?_
  refine g_get (C := RX3) (T := TX3) (N := 11) (v := .int t.2.1) cx iwX3_hearAndBuy_X3 0 1 rfl rfl (by decide) lkX3_hearAndBuy_15 rfl dX3_hearAndBuy_5 ?_
  refine g_aload_n cx dX3_hearAndBuy_8 0 rfl ?_
  refine g_get (C := RX3) (T := TX3) (N := 11) (v := .ref (a 2)) cx iwX3_hearAndBuy_X3 0 8 rfl rfl (by decide) lkX3_hearAndBuy_37 rfl dX3_hearAndBuy_9 ?_
  refine g_aload_n cx dX3_hearAndBuy_12 0 rfl ?_
  refine g_get (C := RX3) (T := TX3) (N := 11) (v := .int t.2.1) cx iwX3_hearAndBuy_X3 0 1 rfl rfl (by decide) lkX3_hearAndBuy_15 rfl dX3_hearAndBuy_13 ?_
  refine g_iald cx 2 rfl rfl (by assumption) dX3_hearAndBuy_16 ?_
  refine g_aload_n cx dX3_hearAndBuy_17 0 rfl ?_
  refine g_aload_n cx dX3_hearAndBuy_18 0 rfl ?_
  refine g_get (C := RX3) (T := TX3) (N := 11) (v := .int t.2.1) cx iwX3_hearAndBuy_X3 0 1 rfl rfl (by decide) lkX3_hearAndBuy_15 rfl dX3_hearAndBuy_19 ?_
  refine g_aload_n cx dX3_hearAndBuy_22 0 rfl ?_
  refine g_get (C := RX3) (T := TX3) (N := 11) (v := .int t.2.2.2.2.1) cx iwX3_hearAndBuy_X3 0 4 rfl rfl (by decide) lkX3_hearAndBuy_24 rfl dX3_hearAndBuy_23 ?_
  refine g_VSi (rest := [.int (t.2.2.2.2.2.2.2.2.1 (t.2.1.toNatClampNeg)), .int t.2.1, .ref (a 2)]) (As := [.int t.2.1, .int t.2.2.2.2.1]) cx hYX3_mindingAt gX3_hearAndBuy_X3_mindingAt (c_X3_mindingAt l E a t t.2.1 t.2.2.2.2.1 hat) rfl rfl rfl ⟨Nat.le_of_ble_eq_true rfl, Nat.le_of_ble_eq_true rfl⟩ rfl rfl (Nat.le_of_ble_eq_true rfl) ⟨Nat.le_of_ble_eq_true rfl, Nat.le_of_ble_eq_true rfl⟩ dX3_hearAndBuy_26 (fun r w1 hp => ?_)
  obtain ⟨rfl, rfl⟩ := hp
  refine g_iadd cx dX3_hearAndBuy_29 ?_
  refine g_iconst (v := 0) cx dX3_hearAndBuy_30 (by decide) ?_
  refine g_bipush (v := 20) cx dX3_hearAndBuy_31 (by decide) ?_
  refine g_NPi (rest := [.int t.2.1, .ref (a 2)]) (As := [.int ((t.2.2.2.2.2.2.2.2.1 (t.2.1.toNatClampNeg)) + (mindAt t t.2.1 t.2.2.2.2.1)), .int 0, .int 20]) (host := "MuffinBells") cx hYX5_held ggX3_hearAndBuy_X5_held mwX3_hearAndBuy_n99 (fun _ _ _ h => h.2.1.2.2) (c_X5_held l E ((t.2.2.2.2.2.2.2.2.1 (t.2.1.toNatClampNeg)) + (mindAt t t.2.1 t.2.2.2.2.1)) 0 20 ) ⟨Nat.le_of_ble_eq_true rfl, Nat.le_of_ble_eq_true rfl⟩ rfl rfl (Nat.le_of_ble_eq_true rfl) ⟨Nat.le_of_ble_eq_true rfl, Nat.le_of_ble_eq_true rfl⟩ dX3_hearAndBuy_33 ?_
  refine g_iast (ws' := (tW E a (t.1, t.2.1, t.2.2.1, t.2.2.2.1, t.2.2.2.2.1, t.2.2.2.2.2.1, t.2.2.2.2.2.2.1, t.2.2.2.2.2.2.2.1, upd t.2.2.2.2.2.2.2.2.1 t.2.1.toNatClampNeg (sHeld ((t.2.2.2.2.2.2.2.2.1 (t.2.1.toNatClampNeg)) + (mindAt t t.2.1 t.2.2.2.2.1)) 0 20), t.2.2.2.2.2.2.2.2.2.1, t.2.2.2.2.2.2.2.2.2.2))) cx 2 rfl rfl (by assumption) dX3_hearAndBuy_36 rfl ?_
  refine g_aload_n cx dX3_hearAndBuy_37 0 rfl ?_
  refine g_aload_n cx dX3_hearAndBuy_38 0 rfl ?_
  refine g_get (C := RX3) (T := TX3) (N := 11) (v := .int t.2.1) cx iwX3_hearAndBuy_X3 0 1 rfl rfl (by decide) lkX3_hearAndBuy_15 rfl dX3_hearAndBuy_39 ?_
  refine g_aload_n cx dX3_hearAndBuy_42 0 rfl ?_
  refine g_get (C := RX3) (T := TX3) (N := 11) (v := .int t.2.2.2.2.1) cx iwX3_hearAndBuy_X3 0 4 rfl rfl (by decide) lkX3_hearAndBuy_24 rfl dX3_hearAndBuy_43 ?_
  refine g_VSi (rest := []) (As := [.int t.2.1, .int t.2.2.2.2.1]) cx hYX3_buyingAt gX3_hearAndBuy_X3_buyingAt (c_X3_buyingAt l E a (t.1, t.2.1, t.2.2.1, t.2.2.2.1, t.2.2.2.2.1, t.2.2.2.2.2.1, t.2.2.2.2.2.2.1, t.2.2.2.2.2.2.2.1, upd t.2.2.2.2.2.2.2.2.1 t.2.1.toNatClampNeg (sHeld ((t.2.2.2.2.2.2.2.2.1 (t.2.1.toNatClampNeg)) + (mindAt t t.2.1 t.2.2.2.2.1)) 0 20), t.2.2.2.2.2.2.2.2.2.1, t.2.2.2.2.2.2.2.2.2.2) t.2.1 t.2.2.2.2.1 hat) rfl rfl rfl ⟨Nat.le_of_ble_eq_true rfl, Nat.le_of_ble_eq_true rfl⟩ rfl rfl (Nat.le_of_ble_eq_true rfl) ⟨Nat.le_of_ble_eq_true rfl, Nat.le_of_ble_eq_true rfl⟩ dX3_hearAndBuy_46 (fun r w1 hp => ?_)
  obtain ⟨rfl, rfl⟩ := hp
  refine g_istore_n (lv' := [(1, .int (buyAt (t.1, t.2.1, t.2.2.1, t.2.2.2.1, t.2.2.2.2.1, t.2.2.2.2.2.1, t.2.2.2.2.2.2.1, t.2.2.2.2.2.2.2.1, upd t.2.2.2.2.2.2.2.2.1 t.2.1.toNatClampNeg (sHeld ((t.2.2.2.2.2.2.2.2.1 (t.2.1.toNatClampNeg)) + (mindAt t t.2.1 t.2.2.2.2.1)) 0 20), t.2.2.2.2.2.2.2.2.2.1, t.2.2.2.2.2.2.2.2.2.2) t.2.1 t.2.2.2.2.1)), (0, .ref (a 0))]) cx dX3_hearAndBuy_49 (by decide) rfl ?_
  refine g_iconst (v := 2) cx dX3_hearAndBuy_50 (by decide) ?_
  refine g_iload_n cx dX3_hearAndBuy_51 0 rfl ?_
  refine g_imul cx dX3_hearAndBuy_52 ?_
  refine g_istore_n (lv' := [(2, .int (2 * (buyAt (t.1, t.2.1, t.2.2.1, t.2.2.2.1, t.2.2.2.2.1, t.2.2.2.2.2.1, t.2.2.2.2.2.2.1, t.2.2.2.2.2.2.2.1, upd t.2.2.2.2.2.2.2.2.1 t.2.1.toNatClampNeg (sHeld ((t.2.2.2.2.2.2.2.2.1 (t.2.1.toNatClampNeg)) + (mindAt t t.2.1 t.2.2.2.2.1)) 0 20), t.2.2.2.2.2.2.2.2.2.1, t.2.2.2.2.2.2.2.2.2.2) t.2.1 t.2.2.2.2.1))), (1, .int (buyAt (t.1, t.2.1, t.2.2.1, t.2.2.2.1, t.2.2.2.2.1, t.2.2.2.2.2.1, t.2.2.2.2.2.2.1, t.2.2.2.2.2.2.2.1, upd t.2.2.2.2.2.2.2.2.1 t.2.1.toNatClampNeg (sHeld ((t.2.2.2.2.2.2.2.2.1 (t.2.1.toNatClampNeg)) + (mindAt t t.2.1 t.2.2.2.2.1)) 0 20), t.2.2.2.2.2.2.2.2.2.1, t.2.2.2.2.2.2.2.2.2.2) t.2.1 t.2.2.2.2.1)), (0, .ref (a 0))]) cx dX3_hearAndBuy_53 (by decide) rfl ?_
  refine g_aload_n cx dX3_hearAndBuy_54 2 rfl ?_
  refine g_dup cx dX3_hearAndBuy_55 rfl ?_
  refine g_get (C := RX3) (T := TX3) (N := 11) (v := .int t.2.2.2.1) cx iwX3_hearAndBuy_X3 0 3 rfl rfl (by decide) lkX3_hearAndBuy_21 rfl dX3_hearAndBuy_56 ?_
  refine g_iload_n cx dX3_hearAndBuy_59 1 rfl ?_
  refine g_isub cx dX3_hearAndBuy_60 ?_
  refine g_put (C := RX3) (T := TX3) (N := 11) (ws' := (tW E a (t.1, t.2.1, t.2.2.1, t.2.2.2.1 - (buyAt (t.1, t.2.1, t.2.2.1, t.2.2.2.1, t.2.2.2.2.1, t.2.2.2.2.2.1, t.2.2.2.2.2.2.1, t.2.2.2.2.2.2.2.1, upd t.2.2.2.2.2.2.2.2.1 t.2.1.toNatClampNeg (sHeld ((t.2.2.2.2.2.2.2.2.1 (t.2.1.toNatClampNeg)) + (mindAt t t.2.1 t.2.2.2.2.1)) 0 20), t.2.2.2.2.2.2.2.2.2.1, t.2.2.2.2.2.2.2.2.2.2) t.2.1 t.2.2.2.2.1), t.2.2.2.2.1, t.2.2.2.2.2.1, t.2.2.2.2.2.2.1, t.2.2.2.2.2.2.2.1, upd t.2.2.2.2.2.2.2.2.1 t.2.1.toNatClampNeg (sHeld ((t.2.2.2.2.2.2.2.2.1 (t.2.1.toNatClampNeg)) + (mindAt t t.2.1 t.2.2.2.2.1)) 0 20), t.2.2.2.2.2.2.2.2.2.1, t.2.2.2.2.2.2.2.2.2.2))) cx iwX3_hearAndBuy_X3 tyX3 tyX3_ok nmX3 0 3 rfl rfl (by decide) lkX3_hearAndBuy_21 rfl rfl rfl (Nat.le_of_ble_eq_true rfl) dX3_hearAndBuy_61 rfl ?_
  refine g_aload_n cx dX3_hearAndBuy_64 2 rfl ?_
  refine g_get (C := RX3) (T := TX3) (N := 11) (v := .ref (a 3)) cx iwX3_hearAndBuy_X3 0 9 rfl rfl (by decide) lkX3_hearAndBuy_40 rfl dX3_hearAndBuy_65 ?_
  refine g_aload_n cx dX3_hearAndBuy_68 2 rfl ?_
  refine g_get (C := RX3) (T := TX3) (N := 11) (v := .int t.2.1) cx iwX3_hearAndBuy_X3 0 1 rfl rfl (by decide) lkX3_hearAndBuy_15 rfl dX3_hearAndBuy_69 ?_
  refine g_dup2 cx dX3_hearAndBuy_72 rfl rfl ?_
  refine g_iald cx 3 rfl rfl (by assumption) dX3_hearAndBuy_73 ?_
  refine g_iload_n cx dX3_hearAndBuy_74 0 rfl ?_
  refine g_isub cx dX3_hearAndBuy_75 ?_
  refine g_iast (ws' := (tW E a (t.1, t.2.1, t.2.2.1, t.2.2.2.1 - (buyAt (t.1, t.2.1, t.2.2.1, t.2.2.2.1, t.2.2.2.2.1, t.2.2.2.2.2.1, t.2.2.2.2.2.2.1, t.2.2.2.2.2.2.2.1, upd t.2.2.2.2.2.2.2.2.1 t.2.1.toNatClampNeg (sHeld ((t.2.2.2.2.2.2.2.2.1 (t.2.1.toNatClampNeg)) + (mindAt t t.2.1 t.2.2.2.2.1)) 0 20), t.2.2.2.2.2.2.2.2.2.1, t.2.2.2.2.2.2.2.2.2.2) t.2.1 t.2.2.2.2.1), t.2.2.2.2.1, t.2.2.2.2.2.1, t.2.2.2.2.2.2.1, t.2.2.2.2.2.2.2.1, upd t.2.2.2.2.2.2.2.2.1 t.2.1.toNatClampNeg (sHeld ((t.2.2.2.2.2.2.2.2.1 (t.2.1.toNatClampNeg)) + (mindAt t t.2.1 t.2.2.2.2.1)) 0 20), upd t.2.2.2.2.2.2.2.2.2.1 t.2.1.toNatClampNeg ((t.2.2.2.2.2.2.2.2.2.1 (t.2.1.toNatClampNeg)) - (2 * (buyAt (t.1, t.2.1, t.2.2.1, t.2.2.2.1, t.2.2.2.2.1, t.2.2.2.2.2.1, t.2.2.2.2.2.2.1, t.2.2.2.2.2.2.2.1, upd t.2.2.2.2.2.2.2.2.1 t.2.1.toNatClampNeg (sHeld ((t.2.2.2.2.2.2.2.2.1 (t.2.1.toNatClampNeg)) + (mindAt t t.2.1 t.2.2.2.2.1)) 0 20), t.2.2.2.2.2.2.2.2.2.1, t.2.2.2.2.2.2.2.2.2.2) t.2.1 t.2.2.2.2.1))), t.2.2.2.2.2.2.2.2.2.2))) cx 3 rfl rfl (by assumption) dX3_hearAndBuy_76 rfl ?_
  refine g_aload_n cx dX3_hearAndBuy_77 2 rfl ?_
  refine g_get (C := RX3) (T := TX3) (N := 11) (v := .ref (a 4)) cx iwX3_hearAndBuy_X3 0 10 rfl rfl (by decide) lkX3_hearAndBuy_43 rfl dX3_hearAndBuy_78 ?_
  refine g_aload_n cx dX3_hearAndBuy_81 2 rfl ?_
  refine g_get (C := RX3) (T := TX3) (N := 11) (v := .int t.2.1) cx iwX3_hearAndBuy_X3 0 1 rfl rfl (by decide) lkX3_hearAndBuy_15 rfl dX3_hearAndBuy_82 ?_
  refine g_sipush (v := 9999) cx dX3_hearAndBuy_85 (by decide) ?_
  refine g_aload_n cx dX3_hearAndBuy_88 2 rfl ?_
  refine g_get (C := RX3) (T := TX3) (N := 11) (v := .ref (a 4)) cx iwX3_hearAndBuy_X3 0 10 rfl rfl (by decide) lkX3_hearAndBuy_43 rfl dX3_hearAndBuy_89 ?_
  refine g_aload_n cx dX3_hearAndBuy_92 2 rfl ?_
  refine g_get (C := RX3) (T := TX3) (N := 11) (v := .int t.2.1) cx iwX3_hearAndBuy_X3 0 1 rfl rfl (by decide) lkX3_hearAndBuy_15 rfl dX3_hearAndBuy_93 ?_
  refine g_iald cx 4 rfl rfl (by assumption) dX3_hearAndBuy_96 ?_
  refine g_iload_n cx dX3_hearAndBuy_97 1 rfl ?_
  refine g_iadd cx dX3_hearAndBuy_98 ?_
  refine g_min cx mwX3_hearAndBuy_mmin (by decide) (Nat.le_of_ble_eq_true rfl) (Nat.zero_le _) (Nat.zero_le _) dX3_hearAndBuy_99 ?_
  refine g_iast (ws' := (tW E a (t.1, t.2.1, t.2.2.1, t.2.2.2.1 - (buyAt (t.1, t.2.1, t.2.2.1, t.2.2.2.1, t.2.2.2.2.1, t.2.2.2.2.2.1, t.2.2.2.2.2.2.1, t.2.2.2.2.2.2.2.1, upd t.2.2.2.2.2.2.2.2.1 t.2.1.toNatClampNeg (sHeld ((t.2.2.2.2.2.2.2.2.1 (t.2.1.toNatClampNeg)) + (mindAt t t.2.1 t.2.2.2.2.1)) 0 20), t.2.2.2.2.2.2.2.2.2.1, t.2.2.2.2.2.2.2.2.2.2) t.2.1 t.2.2.2.2.1), t.2.2.2.2.1, t.2.2.2.2.2.1, t.2.2.2.2.2.2.1, t.2.2.2.2.2.2.2.1, upd t.2.2.2.2.2.2.2.2.1 t.2.1.toNatClampNeg (sHeld ((t.2.2.2.2.2.2.2.2.1 (t.2.1.toNatClampNeg)) + (mindAt t t.2.1 t.2.2.2.2.1)) 0 20), upd t.2.2.2.2.2.2.2.2.2.1 t.2.1.toNatClampNeg ((t.2.2.2.2.2.2.2.2.2.1 (t.2.1.toNatClampNeg)) - (2 * (buyAt (t.1, t.2.1, t.2.2.1, t.2.2.2.1, t.2.2.2.2.1, t.2.2.2.2.2.1, t.2.2.2.2.2.2.1, t.2.2.2.2.2.2.2.1, upd t.2.2.2.2.2.2.2.2.1 t.2.1.toNatClampNeg (sHeld ((t.2.2.2.2.2.2.2.2.1 (t.2.1.toNatClampNeg)) + (mindAt t t.2.1 t.2.2.2.2.1)) 0 20), t.2.2.2.2.2.2.2.2.2.1, t.2.2.2.2.2.2.2.2.2.2) t.2.1 t.2.2.2.2.1))), upd t.2.2.2.2.2.2.2.2.2.2 t.2.1.toNatClampNeg (minI 9999 ((t.2.2.2.2.2.2.2.2.2.2 (t.2.1.toNatClampNeg)) + (buyAt (t.1, t.2.1, t.2.2.1, t.2.2.2.1, t.2.2.2.2.1, t.2.2.2.2.2.1, t.2.2.2.2.2.2.1, t.2.2.2.2.2.2.2.1, upd t.2.2.2.2.2.2.2.2.1 t.2.1.toNatClampNeg (sHeld ((t.2.2.2.2.2.2.2.2.1 (t.2.1.toNatClampNeg)) + (mindAt t t.2.1 t.2.2.2.2.1)) 0 20), t.2.2.2.2.2.2.2.2.2.1, t.2.2.2.2.2.2.2.2.2.2) t.2.1 t.2.2.2.2.1)))))) cx 4 rfl rfl (by assumption) dX3_hearAndBuy_102 rfl ?_
  refine g_aload_n cx dX3_hearAndBuy_103 2 rfl ?_
  refine g_ldc cx m1X3_hearAndBuy_c105 dX3_hearAndBuy_104 ?_
  refine g_aload_n cx dX3_hearAndBuy_106 2 rfl ?_
  refine g_get (C := RX3) (T := TX3) (N := 11) (v := .int t.2.2.2.2.2.2.1) cx iwX3_hearAndBuy_X3 0 6 rfl rfl (by decide) lkX3_hearAndBuy_30 rfl dX3_hearAndBuy_107 ?_
  refine g_iload_n cx dX3_hearAndBuy_110 0 rfl ?_
  refine g_iadd cx dX3_hearAndBuy_111 ?_
  refine g_min cx mwX3_hearAndBuy_mmin (by decide) (Nat.le_of_ble_eq_true rfl) (Nat.zero_le _) (Nat.zero_le _) dX3_hearAndBuy_112 ?_
  refine g_put (C := RX3) (T := TX3) (N := 11) (ws' := (tW E a (t.1, t.2.1, t.2.2.1, t.2.2.2.1 - (buyAt (t.1, t.2.1, t.2.2.1, t.2.2.2.1, t.2.2.2.2.1, t.2.2.2.2.2.1, t.2.2.2.2.2.2.1, t.2.2.2.2.2.2.2.1, upd t.2.2.2.2.2.2.2.2.1 t.2.1.toNatClampNeg (sHeld ((t.2.2.2.2.2.2.2.2.1 (t.2.1.toNatClampNeg)) + (mindAt t t.2.1 t.2.2.2.2.1)) 0 20), t.2.2.2.2.2.2.2.2.2.1, t.2.2.2.2.2.2.2.2.2.2) t.2.1 t.2.2.2.2.1), t.2.2.2.2.1, t.2.2.2.2.2.1, minI 99999 (t.2.2.2.2.2.2.1 + (2 * (buyAt (t.1, t.2.1, t.2.2.1, t.2.2.2.1, t.2.2.2.2.1, t.2.2.2.2.2.1, t.2.2.2.2.2.2.1, t.2.2.2.2.2.2.2.1, upd t.2.2.2.2.2.2.2.2.1 t.2.1.toNatClampNeg (sHeld ((t.2.2.2.2.2.2.2.2.1 (t.2.1.toNatClampNeg)) + (mindAt t t.2.1 t.2.2.2.2.1)) 0 20), t.2.2.2.2.2.2.2.2.2.1, t.2.2.2.2.2.2.2.2.2.2) t.2.1 t.2.2.2.2.1))), t.2.2.2.2.2.2.2.1, upd t.2.2.2.2.2.2.2.2.1 t.2.1.toNatClampNeg (sHeld ((t.2.2.2.2.2.2.2.2.1 (t.2.1.toNatClampNeg)) + (mindAt t t.2.1 t.2.2.2.2.1)) 0 20), upd t.2.2.2.2.2.2.2.2.2.1 t.2.1.toNatClampNeg ((t.2.2.2.2.2.2.2.2.2.1 (t.2.1.toNatClampNeg)) - (2 * (buyAt (t.1, t.2.1, t.2.2.1, t.2.2.2.1, t.2.2.2.2.1, t.2.2.2.2.2.1, t.2.2.2.2.2.2.1, t.2.2.2.2.2.2.2.1, upd t.2.2.2.2.2.2.2.2.1 t.2.1.toNatClampNeg (sHeld ((t.2.2.2.2.2.2.2.2.1 (t.2.1.toNatClampNeg)) + (mindAt t t.2.1 t.2.2.2.2.1)) 0 20), t.2.2.2.2.2.2.2.2.2.1, t.2.2.2.2.2.2.2.2.2.2) t.2.1 t.2.2.2.2.1))), upd t.2.2.2.2.2.2.2.2.2.2 t.2.1.toNatClampNeg (minI 9999 ((t.2.2.2.2.2.2.2.2.2.2 (t.2.1.toNatClampNeg)) + (buyAt (t.1, t.2.1, t.2.2.1, t.2.2.2.1, t.2.2.2.2.1, t.2.2.2.2.2.1, t.2.2.2.2.2.2.1, t.2.2.2.2.2.2.2.1, upd t.2.2.2.2.2.2.2.2.1 t.2.1.toNatClampNeg (sHeld ((t.2.2.2.2.2.2.2.2.1 (t.2.1.toNatClampNeg)) + (mindAt t t.2.1 t.2.2.2.2.1)) 0 20), t.2.2.2.2.2.2.2.2.2.1, t.2.2.2.2.2.2.2.2.2.2) t.2.1 t.2.2.2.2.1)))))) cx iwX3_hearAndBuy_X3 tyX3 tyX3_ok nmX3 0 6 rfl rfl (by decide) lkX3_hearAndBuy_30 rfl rfl rfl (Nat.le_of_ble_eq_true rfl) dX3_hearAndBuy_115 rfl ?_
  exact g_vret cx gr (Nat.zero_le _) (Nat.zero_le _) dX3_hearAndBuy_118 (rfl)

abbrev rmX3_listen : Room := { frames := 2, cells := 0, slots := 0, locals := 46 }
theorem hYX3_listen : gY yX3_listen wsX3_listen cX3_listen 1 (none) 0 := ⟨⟨_, rfl⟩, by decide +kernel, by decide +kernel, by decide +kernel⟩
theorem iwX3_listen_X3 : ∀ w ∈ u_ws RX3 TX3 11, w ∈ wsX3_listen := by decide +kernel
theorem lkX3_listen_27 : Cond.fieldLink RX3 27 "MuffinBells$Terrace" "crack" "I" ∈ wsX3_listen := by decide +kernel
theorem lkX3_listen_24 : Cond.fieldLink RX3 24 "MuffinBells$Terrace" "rang" "I" ∈ wsX3_listen := by decide +kernel
theorem mwX3_listen_mmin : ∀ w ∈ ([Cond.methodLink RX3 71 Lib.Math.min.name, Cond.static Lib.Math.min.name, Cond.initialized "java/lang/Math", Cond.code Lib.Math.min.name Lib.Math.min.code 2 (some .int)] : List Cond), w ∈ wsX3_listen := by decide +kernel
theorem lkX3_listen_15 : Cond.fieldLink RX3 15 "MuffinBells$Terrace" "at" "I" ∈ wsX3_listen := by decide +kernel
set_option maxRecDepth 100000 in
set_option maxHeartbeats 4000000 in
theorem c_X3_listen (l : Launch) (E : gE) (a : Nat → Nat) (t : Ter) (hat : vp_in (tAt t) 8) : ctv l yX3_listen wsX3_listen rmX3_listen E [.ref (a 0)] (tW E a t) (fun w => w = tW E a (sListen t)) := by
  refine mt_v (cc := cX3_listen) (maxL := 1) (ret := none) (lv0 := [(0, .ref (a 0))]) (by decide) rfl rfl (Nat.le_of_ble_eq_true rfl) (fun X cx gr hI => ?_)
  refine g_aload_n cx dX3_listen_0 0 rfl ?_
  refine g_aload_n cx dX3_listen_1 0 rfl ?_
  refine g_get (C := RX3) (T := TX3) (N := 11) (v := .int t.2.2.2.2.2.1) cx iwX3_listen_X3 0 5 rfl rfl (by decide) lkX3_listen_27 rfl dX3_listen_2 ?_
  refine g_bipush (v := 50) cx dX3_listen_5 (by decide) ?_
  have J22_0 : gG X 0 0 (tW E a t) 22 [(0, .ref (a 0))] (.int (if tCrack t < 50 then toneAt t (tAt t) else 3) :: .ref (a 0) :: []) := by
    refine g_put (C := RX3) (T := TX3) (N := 11) (ws' := (tW E a (t.1, t.2.1, t.2.2.1, t.2.2.2.1, if tCrack t < 50 then toneAt t (tAt t) else 3, t.2.2.2.2.2.1, t.2.2.2.2.2.2.1, t.2.2.2.2.2.2.2.1, t.2.2.2.2.2.2.2.2.1, t.2.2.2.2.2.2.2.2.2.1, t.2.2.2.2.2.2.2.2.2.2))) cx iwX3_listen_X3 tyX3 tyX3_ok nmX3 0 4 rfl rfl (by decide) lkX3_listen_24 rfl rfl rfl (Nat.le_of_ble_eq_true rfl) dX3_listen_22 rfl ?_
    refine g_aload_n cx dX3_listen_25 0 rfl ?_
    refine g_bipush (v := 99) cx dX3_listen_26 (by decide) ?_
    refine g_aload_n cx dX3_listen_28 0 rfl ?_
    refine g_get (C := RX3) (T := TX3) (N := 11) (v := .int t.2.2.2.2.2.1) cx iwX3_listen_X3 0 5 rfl rfl (by decide) lkX3_listen_27 rfl dX3_listen_29 ?_
    refine g_iconst (v := 1) cx dX3_listen_32 (by decide) ?_
    refine g_iadd cx dX3_listen_33 ?_
    refine g_min cx mwX3_listen_mmin (by decide) (Nat.le_of_ble_eq_true rfl) (Nat.zero_le _) (Nat.zero_le _) dX3_listen_34 ?_
    refine g_put (C := RX3) (T := TX3) (N := 11) (ws' := (tW E a (t.1, t.2.1, t.2.2.1, t.2.2.2.1, if tCrack t < 50 then toneAt t (tAt t) else 3, minI 99 (t.2.2.2.2.2.1 + 1), t.2.2.2.2.2.2.1, t.2.2.2.2.2.2.2.1, t.2.2.2.2.2.2.2.2.1, t.2.2.2.2.2.2.2.2.2.1, t.2.2.2.2.2.2.2.2.2.2))) cx iwX3_listen_X3 tyX3 tyX3_ok nmX3 0 5 rfl rfl (by decide) lkX3_listen_27 rfl rfl rfl (Nat.le_of_ble_eq_true rfl) dX3_listen_37 rfl ?_
    exact g_vret cx gr (Nat.zero_le _) (Nat.zero_le _) dX3_listen_40 (rfl)
  refine g_icmp_lt (tgt := 14) cx dX3_listen_7 (by decide) (fun c_2 => ?_) (fun c_2 => ?_)
  · refine g_aload_n cx dX3_listen_14 0 rfl ?_
    refine g_aload_n cx dX3_listen_15 0 rfl ?_
    refine g_get (C := RX3) (T := TX3) (N := 11) (v := .int t.2.1) cx iwX3_listen_X3 0 1 rfl rfl (by decide) lkX3_listen_15 rfl dX3_listen_16 ?_
    refine g_VSi (rest := [.ref (a 0)]) (As := [.int t.2.1]) cx hYX3_toneAt gX3_listen_X3_toneAt (c_X3_toneAt l E a t t.2.1 hat) rfl rfl rfl ⟨Nat.le_of_ble_eq_true rfl, Nat.le_of_ble_eq_true rfl⟩ rfl rfl (Nat.le_of_ble_eq_true rfl) ⟨Nat.le_of_ble_eq_true rfl, Nat.le_of_ble_eq_true rfl⟩ dX3_listen_19 (fun r w1 hp => ?_)
    obtain ⟨rfl, rfl⟩ := hp
    exact g_top (show (toneAt t t.2.1 : Int32) = if tCrack t < 50 then toneAt t (tAt t) else 3 from by simp only [c_2, if_true, if_false, ite_true, ite_false, not_true_eq_false, not_false_eq_true] <;> rfl) J22_0
  · refine g_iconst (v := 3) cx dX3_listen_10 (by decide) ?_
    refine g_goto (tgt := 22) cx dX3_listen_11 (by decide) ?_
    exact g_top (show (3 : Int32) = if tCrack t < 50 then toneAt t (tAt t) else 3 from by simp only [c_2, if_true, if_false, ite_true, ite_false, not_true_eq_false, not_false_eq_true] <;> rfl) J22_0

abbrev rmX3_walk : Room := { frames := 0, cells := 0, slots := 0, locals := 0 }
theorem hYX3_walk : gY yX3_walk wsX3_walk cX3_walk 2 (none) 0 := ⟨⟨_, rfl⟩, by decide +kernel, by decide +kernel, by decide +kernel⟩
theorem iwX3_walk_X3 : ∀ w ∈ u_ws RX3 TX3 11, w ∈ wsX3_walk := by decide +kernel
theorem lkX3_walk_18 : Cond.fieldLink RX3 18 "MuffinBells$Terrace" "way" "I" ∈ wsX3_walk := by decide +kernel
theorem lkX3_walk_15 : Cond.fieldLink RX3 15 "MuffinBells$Terrace" "at" "I" ∈ wsX3_walk := by decide +kernel
set_option maxRecDepth 100000 in
set_option maxHeartbeats 4000000 in
theorem c_X3_walk (l : Launch) (E : gE) (a : Nat → Nat) (t : Ter) : ctv l yX3_walk wsX3_walk rmX3_walk E [.ref (a 0)] (tW E a t) (fun w => w = tW E a (sWalk t)) := by
  refine mt_v (cc := cX3_walk) (maxL := 2) (ret := none) (lv0 := [(0, .ref (a 0))]) (by decide) rfl rfl (Nat.le_of_ble_eq_true rfl) (fun X cx gr hI => ?_)
  refine g_aload_n cx dX3_walk_0 0 rfl ?_
  refine g_get (C := RX3) (T := TX3) (N := 11) (v := .int t.2.2.1) cx iwX3_walk_X3 0 2 rfl rfl (by decide) lkX3_walk_18 rfl dX3_walk_1 ?_
  refine g_iconst (v := 1) cx dX3_walk_4 (by decide) ?_
  have J14_0 : gG X 0 0 (tW E a t) 14 [(0, .ref (a 0))] (.int (stepW (tWay t)) :: []) := by
    refine g_istore_n (lv' := [(1, .int (stepW (tWay t))), (0, .ref (a 0))]) cx dX3_walk_14 (by decide) rfl ?_
    refine g_aload_n cx dX3_walk_15 1 rfl ?_
    refine g_aload_n cx dX3_walk_16 1 rfl ?_
    refine g_get (C := RX3) (T := TX3) (N := 11) (v := .int t.2.1) cx iwX3_walk_X3 0 1 rfl rfl (by decide) lkX3_walk_15 rfl dX3_walk_17 ?_
    refine g_iload_n cx dX3_walk_20 0 rfl ?_
    refine g_iadd cx dX3_walk_21 ?_
    refine g_bipush (v := 8) cx dX3_walk_22 (by decide) ?_
    refine g_irem cx dX3_walk_24 (by decide) ?_
    refine g_put (C := RX3) (T := TX3) (N := 11) (ws' := (tW E a (t.1, (t.2.1 + (stepW (tWay t))) - (t.2.1 + (stepW (tWay t))) / 8 * 8, t.2.2.1, t.2.2.2.1, t.2.2.2.2.1, t.2.2.2.2.2.1, t.2.2.2.2.2.2.1, t.2.2.2.2.2.2.2.1, t.2.2.2.2.2.2.2.2.1, t.2.2.2.2.2.2.2.2.2.1, t.2.2.2.2.2.2.2.2.2.2))) cx iwX3_walk_X3 tyX3 tyX3_ok nmX3 0 1 rfl rfl (by decide) lkX3_walk_15 rfl rfl rfl (Nat.le_of_ble_eq_true rfl) dX3_walk_25 rfl ?_
    exact g_vret cx gr (Nat.zero_le _) (Nat.zero_le _) dX3_walk_28 (rfl)
  refine g_icmp_ne (tgt := 12) cx dX3_walk_5 (by decide) (fun c_2 => ?_) (fun c_2 => ?_)
  · refine g_bipush (v := 7) cx dX3_walk_12 (by decide) ?_
    exact g_top (show (7 : Int32) = stepW (tWay t) from by simp only [stepW, c_2, if_true, if_false, ite_true, ite_false, not_true_eq_false, not_false_eq_true] <;> rfl) J14_0
  · refine g_iconst (v := 1) cx dX3_walk_8 (by decide) ?_
    refine g_goto (tgt := 14) cx dX3_walk_9 (by decide) ?_
    exact g_top (show (1 : Int32) = stepW (tWay t) from by simp only [stepW, c_2, if_true, if_false, ite_true, ite_false, not_true_eq_false, not_false_eq_true] <;> rfl) J14_0

abbrev rmX3_goHour : Room := { frames := 3, cells := 0, slots := 0, locals := 70 }
theorem hYX3_goHour : gY yX3_goHour wsX3_goHour cX3_goHour 1 (none) 0 := ⟨⟨_, rfl⟩, by decide +kernel, by decide +kernel, by decide +kernel⟩
theorem iwX3_goHour_X3 : ∀ w ∈ u_ws RX3 TX3 11, w ∈ wsX3_goHour := by decide +kernel
theorem lkX3_goHour_9 : Cond.fieldLink RX3 9 "MuffinBells$Terrace" "hour" "I" ∈ wsX3_goHour := by decide +kernel
theorem lkX3_goHour_24 : Cond.fieldLink RX3 24 "MuffinBells$Terrace" "rang" "I" ∈ wsX3_goHour := by decide +kernel
set_option maxRecDepth 100000 in
set_option maxHeartbeats 4000000 in
theorem c_X3_goHour (l : Launch) (E : gE) (a : Nat → Nat) (t : Ter) (hat : vp_in (tAt t) 8) : ctv l yX3_goHour wsX3_goHour rmX3_goHour E [.ref (a 0)] (tW E a t) (fun w => w = tW E a (goHour t)) := by
  refine mt_v (cc := cX3_goHour) (maxL := 1) (ret := none) (lv0 := [(0, .ref (a 0))]) (by decide) rfl rfl (Nat.le_of_ble_eq_true rfl) (fun X cx gr hI => ?_)
  refine g_aload_n cx dX3_goHour_0 0 rfl ?_
  refine g_VSi (rest := []) (As := []) cx hYX3_isResting gX3_goHour_X3_isResting (c_X3_isResting l E a t  ) rfl rfl rfl ⟨Nat.le_of_ble_eq_true rfl, Nat.le_of_ble_eq_true rfl⟩ rfl rfl (Nat.le_of_ble_eq_true rfl) ⟨Nat.le_of_ble_eq_true rfl, Nat.le_of_ble_eq_true rfl⟩ dX3_goHour_1 (fun r w1 hp => ?_)
  obtain ⟨rfl, rfl⟩ := hp
  refine g_if_ne (tgt := 27) cx dX3_goHour_4 (by decide) (fun c_1 => ?_) (fun c_1 => ?_)
  · refine g_aload_n cx dX3_goHour_27 0 rfl ?_
    refine g_dup cx dX3_goHour_28 rfl ?_
    refine g_get (C := RX3) (T := TX3) (N := 11) (v := .int t.1) cx iwX3_goHour_X3 0 0 rfl rfl (by decide) lkX3_goHour_9 rfl dX3_goHour_29 ?_
    refine g_iconst (v := 1) cx dX3_goHour_32 (by decide) ?_
    refine g_iadd cx dX3_goHour_33 ?_
    refine g_put (C := RX3) (T := TX3) (N := 11) (ws' := (tW E a (t.1 + 1, t.2.1, t.2.2.1, t.2.2.2.1, t.2.2.2.2.1, t.2.2.2.2.2.1, t.2.2.2.2.2.2.1, t.2.2.2.2.2.2.2.1, t.2.2.2.2.2.2.2.2.1, t.2.2.2.2.2.2.2.2.2.1, t.2.2.2.2.2.2.2.2.2.2))) cx iwX3_goHour_X3 tyX3 tyX3_ok nmX3 0 0 rfl rfl (by decide) lkX3_goHour_9 rfl rfl rfl (Nat.le_of_ble_eq_true rfl) dX3_goHour_34 rfl ?_
    exact g_vret cx gr (Nat.zero_le _) (Nat.zero_le _) dX3_goHour_37 (by rw [goHour, if_neg c_1]; rfl)
  · refine g_aload_n cx dX3_goHour_7 0 rfl ?_
    refine g_get (C := RX3) (T := TX3) (N := 11) (v := .int t.2.2.2.2.1) cx iwX3_goHour_X3 0 4 rfl rfl (by decide) lkX3_goHour_24 rfl dX3_goHour_8 ?_
    refine g_iconst (v := (-1)) cx dX3_goHour_11 (by decide) ?_
    refine g_icmp_eq (tgt := 19) cx dX3_goHour_12 (by decide) (fun c_2 => ?_) (fun c_2 => ?_)
    · refine g_aload_n cx dX3_goHour_19 0 rfl ?_
      refine g_VSv (rest := []) (As := []) cx hYX3_listen gX3_goHour_X3_listen (c_X3_listen l E a t  hat) rfl rfl rfl ⟨Nat.le_of_ble_eq_true rfl, Nat.le_of_ble_eq_true rfl⟩ rfl rfl (Nat.le_of_ble_eq_true rfl) ⟨Nat.le_of_ble_eq_true rfl, Nat.le_of_ble_eq_true rfl⟩ dX3_goHour_20 (fun w1 hp => ?_)
      obtain rfl := hp
      refine g_aload_n cx dX3_goHour_23 0 rfl ?_
      refine g_VSv (rest := []) (As := []) cx hYX3_walk gX3_goHour_X3_walk (c_X3_walk l E a (sListen t)  ) rfl rfl rfl ⟨Nat.le_of_ble_eq_true rfl, Nat.le_of_ble_eq_true rfl⟩ rfl rfl (Nat.le_of_ble_eq_true rfl) ⟨Nat.le_of_ble_eq_true rfl, Nat.le_of_ble_eq_true rfl⟩ dX3_goHour_24 (fun w1 hp => ?_)
      obtain rfl := hp
      refine g_aload_n cx dX3_goHour_27 0 rfl ?_
      refine g_dup cx dX3_goHour_28 rfl ?_
      refine g_get (C := RX3) (T := TX3) (N := 11) (v := .int ((sWalk (sListen t)).1)) cx iwX3_goHour_X3 0 0 rfl rfl (by decide) lkX3_goHour_9 rfl dX3_goHour_29 ?_
      refine g_iconst (v := 1) cx dX3_goHour_32 (by decide) ?_
      refine g_iadd cx dX3_goHour_33 ?_
      refine g_put (C := RX3) (T := TX3) (N := 11) (ws' := (tW E a (((sWalk (sListen t)).1) + 1, (sWalk (sListen t)).2.1, (sWalk (sListen t)).2.2.1, (sWalk (sListen t)).2.2.2.1, (sWalk (sListen t)).2.2.2.2.1, (sWalk (sListen t)).2.2.2.2.2.1, (sWalk (sListen t)).2.2.2.2.2.2.1, (sWalk (sListen t)).2.2.2.2.2.2.2.1, (sWalk (sListen t)).2.2.2.2.2.2.2.2.1, (sWalk (sListen t)).2.2.2.2.2.2.2.2.2.1, (sWalk (sListen t)).2.2.2.2.2.2.2.2.2.2))) cx iwX3_goHour_X3 tyX3 tyX3_ok nmX3 0 0 rfl rfl (by decide) lkX3_goHour_9 rfl rfl rfl (Nat.le_of_ble_eq_true rfl) dX3_goHour_34 rfl ?_
      exact g_vret cx gr (Nat.zero_le _) (Nat.zero_le _) dX3_goHour_37 (by rw [goHour, if_pos c_1, if_pos c_2]; rfl)
    · refine g_aload_n cx dX3_goHour_15 0 rfl ?_
      refine g_VSv (rest := []) (As := []) cx hYX3_hearAndBuy gX3_goHour_X3_hearAndBuy (c_X3_hearAndBuy l E a t  hat) rfl rfl rfl ⟨Nat.le_of_ble_eq_true rfl, Nat.le_of_ble_eq_true rfl⟩ rfl rfl (Nat.le_of_ble_eq_true rfl) ⟨Nat.le_of_ble_eq_true rfl, Nat.le_of_ble_eq_true rfl⟩ dX3_goHour_16 (fun w1 hp => ?_)
      obtain rfl := hp
      refine g_aload_n cx dX3_goHour_19 0 rfl ?_
      refine g_VSv (rest := []) (As := []) cx hYX3_listen gX3_goHour_X3_listen (c_X3_listen l E a (hearBuy t)  hat) rfl rfl rfl ⟨Nat.le_of_ble_eq_true rfl, Nat.le_of_ble_eq_true rfl⟩ rfl rfl (Nat.le_of_ble_eq_true rfl) ⟨Nat.le_of_ble_eq_true rfl, Nat.le_of_ble_eq_true rfl⟩ dX3_goHour_20 (fun w1 hp => ?_)
      obtain rfl := hp
      refine g_aload_n cx dX3_goHour_23 0 rfl ?_
      refine g_VSv (rest := []) (As := []) cx hYX3_walk gX3_goHour_X3_walk (c_X3_walk l E a (sListen (hearBuy t))  ) rfl rfl rfl ⟨Nat.le_of_ble_eq_true rfl, Nat.le_of_ble_eq_true rfl⟩ rfl rfl (Nat.le_of_ble_eq_true rfl) ⟨Nat.le_of_ble_eq_true rfl, Nat.le_of_ble_eq_true rfl⟩ dX3_goHour_24 (fun w1 hp => ?_)
      obtain rfl := hp
      refine g_aload_n cx dX3_goHour_27 0 rfl ?_
      refine g_dup cx dX3_goHour_28 rfl ?_
      refine g_get (C := RX3) (T := TX3) (N := 11) (v := .int ((sWalk (sListen (hearBuy t))).1)) cx iwX3_goHour_X3 0 0 rfl rfl (by decide) lkX3_goHour_9 rfl dX3_goHour_29 ?_
      refine g_iconst (v := 1) cx dX3_goHour_32 (by decide) ?_
      refine g_iadd cx dX3_goHour_33 ?_
      refine g_put (C := RX3) (T := TX3) (N := 11) (ws' := (tW E a (((sWalk (sListen (hearBuy t))).1) + 1, (sWalk (sListen (hearBuy t))).2.1, (sWalk (sListen (hearBuy t))).2.2.1, (sWalk (sListen (hearBuy t))).2.2.2.1, (sWalk (sListen (hearBuy t))).2.2.2.2.1, (sWalk (sListen (hearBuy t))).2.2.2.2.2.1, (sWalk (sListen (hearBuy t))).2.2.2.2.2.2.1, (sWalk (sListen (hearBuy t))).2.2.2.2.2.2.2.1, (sWalk (sListen (hearBuy t))).2.2.2.2.2.2.2.2.1, (sWalk (sListen (hearBuy t))).2.2.2.2.2.2.2.2.2.1, (sWalk (sListen (hearBuy t))).2.2.2.2.2.2.2.2.2.2))) cx iwX3_goHour_X3 tyX3 tyX3_ok nmX3 0 0 rfl rfl (by decide) lkX3_goHour_9 rfl rfl rfl (Nat.le_of_ble_eq_true rfl) dX3_goHour_34 rfl ?_
      exact g_vret cx gr (Nat.zero_le _) (Nat.zero_le _) dX3_goHour_37 (by rw [goHour, if_pos c_1, if_neg c_2]; rfl)

abbrev rmX3_goHours : Room := { frames := 4, cells := 0, slots := 0, locals := 90 }
theorem hYX3_goHours : gY yX3_goHours wsX3_goHours cX3_goHours 3 (none) 1 := ⟨⟨_, rfl⟩, by decide +kernel, by decide +kernel, by decide +kernel⟩
set_option maxRecDepth 100000 in
set_option maxHeartbeats 4000000 in
theorem c_X3_goHours (l : Launch) (E : gE) (a : Nat → Nat) (t : Ter) (N : Nat) (hat : vp_in (tAt t) 8) (hN : N < 2 ^ 31) : ctv l yX3_goHours wsX3_goHours rmX3_goHours E [.ref (a 0), .int (nI N)] (tW E a t) (fun w => w = tW E a (goHs N t)) := by
  refine mt_v (cc := cX3_goHours) (maxL := 3) (ret := none) (lv0 := [(0, .ref (a 0)), (1, .int (nI N))]) (by decide) rfl rfl (Nat.le_of_ble_eq_true rfl) (fun X cx gr hI => ?_)
  refine g_iconst (v := 0) cx dX3_goHours_0 (by decide) ?_
  refine g_istore_n (lv' := [(2, .int 0), (0, .ref (a 0)), (1, .int (nI N))]) cx dX3_goHours_1 (by decide) rfl ?_
  have LP2 : ∀ (d : Nat) (i : Nat) (x : Int32) (u : Ter), i + d = N + 1 → i ≤ N → x = nI i → goHs N t = goHs (N - i) u → vp_in (tAt u) 8 → gG X 0 0 (tW E a u) 2 [(0, .ref (a 0)), (1, .int (nI N)), (2, .int x)] [] := by
    intro d
    induction d with
    | zero =>
      intro i x u hi hiN hx hu hat
      omega
    | succ d ih =>
      intro i x u hi hiN hx hu hat
      refine g_iload_n cx dX3_goHours_2 2 rfl ?_
      refine g_iload_n cx dX3_goHours_3 1 rfl ?_
      refine g_icmp_ge (tgt := 17) cx dX3_goHours_4 (by decide) (fun c_1 => ?_) (fun c_1 => ?_)
      · exact g_vret cx gr (Nat.zero_le _) (Nat.zero_le _) dX3_goHours_17 (by rw [hu, show N - i = 0 by have := ge_of N hx c_1 (by omega) hN; omega]; rfl)
      · refine g_aload_n cx dX3_goHours_7 0 rfl ?_
        refine g_VSv (rest := []) (As := []) cx hYX3_goHour gX3_goHours_X3_goHour (c_X3_goHour l E a u  hat) rfl rfl rfl ⟨Nat.le_of_ble_eq_true rfl, Nat.le_of_ble_eq_true rfl⟩ rfl rfl (Nat.le_of_ble_eq_true rfl) ⟨Nat.le_of_ble_eq_true rfl, Nat.le_of_ble_eq_true rfl⟩ dX3_goHours_8 (fun w1 hp => ?_)
        obtain rfl := hp
        refine g_iinc (v := x + 1) (lv' := [(2, .int (x + 1)), (0, .ref (a 0)), (1, .int (nI N))]) cx dX3_goHours_11 2 rfl rfl (by decide) rfl ?_
        refine g_goto (tgt := 2) cx dX3_goHours_14 (by decide) ?_
        exact g_lv [1, 2, 0] rfl (ih (i + 1) (x + 1) (goHour u) (by omega) (by have := lt_of N hx c_1 (by omega) hN; omega) (by rw [hx]; exact nI_1 i) (by rw [hu, show N - i = (N - (i + 1)) + 1 by have := lt_of N hx c_1 (by omega) hN; omega, goHs]) (goHour_at hat))
  exact g_lv [1, 2, 0] rfl (LP2 (N + 1) 0 0 t (by omega) (by omega) rfl rfl hat)

abbrev rmX5_exchange : Room := { frames := 0, cells := 0, slots := 0, locals := 0 }
theorem hYX5_exchange : gY yX5_exchange wsX5_exchange cX5_exchange 4 (some .int) 3 := ⟨⟨_, rfl⟩, by decide +kernel, by decide +kernel, by decide +kernel⟩
set_option maxRecDepth 100000 in
set_option maxHeartbeats 4000000 in
theorem c_X5_exchange (l : Launch) (E : gE) (b : Nat) (N : Nat) (f : Nat → Int32) (i0 : Int32) (v0 : Int32) (hh : vp_in i0 N) : cti l yX5_exchange wsX5_exchange rmX5_exchange E [.ref b, .int i0, .int v0] [(b, .inl (gI E, N, .inl f))] (fun r w => r = f i0.toNatClampNeg ∧ w = [(b, .inl (gI E, N, .inl (upd f i0.toNatClampNeg v0)))]) := by
  refine mt_i (cc := cX5_exchange) (maxL := 4) (ret := some .int) (lv0 := [(0, .ref b), (1, .int i0), (2, .int v0)]) (by decide) rfl rfl (Nat.le_of_ble_eq_true rfl) (fun X cx gr hI => ?_)
  refine g_aload_n cx dX5_exchange_0 0 rfl ?_
  refine g_iload_n cx dX5_exchange_1 1 rfl ?_
  refine g_iald cx 0 rfl rfl hh dX5_exchange_2 ?_
  refine g_istore_n (lv' := [(3, .int (f (i0.toNatClampNeg))), (0, .ref b), (1, .int i0), (2, .int v0)]) cx dX5_exchange_3 (by decide) rfl ?_
  refine g_aload_n cx dX5_exchange_4 1 rfl ?_
  refine g_iload_n cx dX5_exchange_5 2 rfl ?_
  refine g_iload_n cx dX5_exchange_6 3 rfl ?_
  refine g_iast (ws' := [(b, .inl (gI E, N, .inl (upd f i0.toNatClampNeg v0)))]) cx 0 rfl rfl hh dX5_exchange_7 rfl ?_
  refine g_iload_n cx dX5_exchange_8 0 rfl ?_
  exact g_iret cx gr (Nat.zero_le _) (Nat.zero_le _) dX5_exchange_9 ⟨rfl, rfl⟩

abbrev rmX3_changeFamilies : Room := { frames := 1, cells := 0, slots := 0, locals := 23 }
theorem hYX3_changeFamilies : gY yX3_changeFamilies wsX3_changeFamilies cX3_changeFamilies 3 (none) 2 := ⟨⟨_, rfl⟩, by decide +kernel, by decide +kernel, by decide +kernel⟩
theorem iwX3_changeFamilies_X3 : ∀ w ∈ u_ws RX3 TX3 11, w ∈ wsX3_changeFamilies := by decide +kernel
theorem lkX3_changeFamilies_33 : Cond.fieldLink RX3 33 "MuffinBells$Terrace" "kinds" "[I" ∈ wsX3_changeFamilies := by decide +kernel
theorem mwX3_changeFamilies_n76 : ∀ w ∈ ([Cond.static yX5_exchange, Cond.initialized yX5_exchange.cls] : List Cond), w ∈ wsX3_changeFamilies := by decide +kernel
theorem lkX3_changeFamilies_37 : Cond.fieldLink RX3 37 "MuffinBells$Terrace" "moods" "[I" ∈ wsX3_changeFamilies := by decide +kernel
theorem lkX3_changeFamilies_40 : Cond.fieldLink RX3 40 "MuffinBells$Terrace" "pence" "[I" ∈ wsX3_changeFamilies := by decide +kernel
theorem lkX3_changeFamilies_43 : Cond.fieldLink RX3 43 "MuffinBells$Terrace" "ate" "[I" ∈ wsX3_changeFamilies := by decide +kernel
set_option maxRecDepth 100000 in
set_option maxHeartbeats 4000000 in
theorem c_X3_changeFamilies (l : Launch) (E : gE) (a : Nat → Nat) (t : Ter) (h0 : Int32) (o0 : Int32) (hh : vp_in h0 8) (ho : vp_in o0 8) : ctv l yX3_changeFamilies wsX3_changeFamilies rmX3_changeFamilies E [.ref (a 0), .int h0, .int o0] (tW E a t) (fun w => w = tW E a (chFam t h0 o0)) := by
  refine mt_v (cc := cX3_changeFamilies) (maxL := 3) (ret := none) (lv0 := [(0, .ref (a 0)), (1, .int h0), (2, .int o0)]) (by decide) rfl rfl (Nat.le_of_ble_eq_true rfl) (fun X cx gr hI => ?_)
  refine g_aload_n cx dX3_changeFamilies_0 0 rfl ?_
  refine g_get (C := RX3) (T := TX3) (N := 11) (v := .ref (a 1)) cx iwX3_changeFamilies_X3 0 7 rfl rfl (by decide) lkX3_changeFamilies_33 rfl dX3_changeFamilies_1 ?_
  refine g_iload_n cx dX3_changeFamilies_4 1 rfl ?_
  refine g_aload_n cx dX3_changeFamilies_5 0 rfl ?_
  refine g_get (C := RX3) (T := TX3) (N := 11) (v := .ref (a 1)) cx iwX3_changeFamilies_X3 0 7 rfl rfl (by decide) lkX3_changeFamilies_33 rfl dX3_changeFamilies_6 ?_
  refine g_iload_n cx dX3_changeFamilies_9 2 rfl ?_
  refine g_aload_n cx dX3_changeFamilies_10 0 rfl ?_
  refine g_get (C := RX3) (T := TX3) (N := 11) (v := .ref (a 1)) cx iwX3_changeFamilies_X3 0 7 rfl rfl (by decide) lkX3_changeFamilies_33 rfl dX3_changeFamilies_11 ?_
  refine g_iload_n cx dX3_changeFamilies_14 1 rfl ?_
  refine g_iald cx 1 rfl rfl (by assumption) dX3_changeFamilies_15 ?_
  refine g_Ni (rest := [.int h0, .ref (a 1)]) (As := [.ref (a 1), .int o0, .int (t.2.2.2.2.2.2.2.1 (h0.toNatClampNeg))]) (wr := (tW E a t).eraseIdx 1) (host := "MuffinBells") cx hYX5_exchange ggX3_changeFamilies_X5_exchange mwX3_changeFamilies_n76 (fun _ _ _ h => h.2.1.2.1) (c_X5_exchange l E (a 1) 8 t.2.2.2.2.2.2.2.1 o0 (t.2.2.2.2.2.2.2.1 (h0.toNatClampNeg)) ho) [1] [0, 2, 3, 4] rfl rfl rfl rfl (by decide) ⟨Nat.le_of_ble_eq_true rfl, Nat.le_of_ble_eq_true rfl⟩ rfl rfl (Nat.le_of_ble_eq_true rfl) ⟨Nat.le_of_ble_eq_true rfl, Nat.le_of_ble_eq_true rfl⟩ dX3_changeFamilies_16 (fun r w1 hp => ?_)
  obtain ⟨rfl, rfl⟩ := hp
  refine g_ws (ws' := (tW E a (t.1, t.2.1, t.2.2.1, t.2.2.2.1, t.2.2.2.2.1, t.2.2.2.2.2.1, t.2.2.2.2.2.2.1, upd t.2.2.2.2.2.2.2.1 o0.toNatClampNeg (t.2.2.2.2.2.2.2.1 (h0.toNatClampNeg)), t.2.2.2.2.2.2.2.2.1, t.2.2.2.2.2.2.2.2.2.1, t.2.2.2.2.2.2.2.2.2.2))) [0, 4, 1, 2, 3] rfl rfl ?_
  refine g_iast (ws' := (tW E a (t.1, t.2.1, t.2.2.1, t.2.2.2.1, t.2.2.2.2.1, t.2.2.2.2.2.1, t.2.2.2.2.2.2.1, upd (upd t.2.2.2.2.2.2.2.1 o0.toNatClampNeg (t.2.2.2.2.2.2.2.1 (h0.toNatClampNeg))) h0.toNatClampNeg (t.2.2.2.2.2.2.2.1 o0.toNatClampNeg), t.2.2.2.2.2.2.2.2.1, t.2.2.2.2.2.2.2.2.2.1, t.2.2.2.2.2.2.2.2.2.2))) cx 1 rfl rfl (by assumption) dX3_changeFamilies_19 rfl ?_
  refine g_aload_n cx dX3_changeFamilies_20 0 rfl ?_
  refine g_get (C := RX3) (T := TX3) (N := 11) (v := .ref (a 2)) cx iwX3_changeFamilies_X3 0 8 rfl rfl (by decide) lkX3_changeFamilies_37 rfl dX3_changeFamilies_21 ?_
  refine g_iload_n cx dX3_changeFamilies_24 1 rfl ?_
  refine g_aload_n cx dX3_changeFamilies_25 0 rfl ?_
  refine g_get (C := RX3) (T := TX3) (N := 11) (v := .ref (a 2)) cx iwX3_changeFamilies_X3 0 8 rfl rfl (by decide) lkX3_changeFamilies_37 rfl dX3_changeFamilies_26 ?_
  refine g_iload_n cx dX3_changeFamilies_29 2 rfl ?_
  refine g_aload_n cx dX3_changeFamilies_30 0 rfl ?_
  refine g_get (C := RX3) (T := TX3) (N := 11) (v := .ref (a 2)) cx iwX3_changeFamilies_X3 0 8 rfl rfl (by decide) lkX3_changeFamilies_37 rfl dX3_changeFamilies_31 ?_
  refine g_iload_n cx dX3_changeFamilies_34 1 rfl ?_
  refine g_iald cx 2 rfl rfl (by assumption) dX3_changeFamilies_35 ?_
  refine g_Ni (rest := [.int h0, .ref (a 2)]) (As := [.ref (a 2), .int o0, .int (t.2.2.2.2.2.2.2.2.1 (h0.toNatClampNeg))]) (wr := (tW E a (t.1, t.2.1, t.2.2.1, t.2.2.2.1, t.2.2.2.2.1, t.2.2.2.2.2.1, t.2.2.2.2.2.2.1, upd (upd t.2.2.2.2.2.2.2.1 o0.toNatClampNeg (t.2.2.2.2.2.2.2.1 (h0.toNatClampNeg))) h0.toNatClampNeg (t.2.2.2.2.2.2.2.1 o0.toNatClampNeg), t.2.2.2.2.2.2.2.2.1, t.2.2.2.2.2.2.2.2.2.1, t.2.2.2.2.2.2.2.2.2.2)).eraseIdx 2) (host := "MuffinBells") cx hYX5_exchange ggX3_changeFamilies_X5_exchange mwX3_changeFamilies_n76 (fun _ _ _ h => h.2.1.2.1) (c_X5_exchange l E (a 2) 8 t.2.2.2.2.2.2.2.2.1 o0 (t.2.2.2.2.2.2.2.2.1 (h0.toNatClampNeg)) ho) [2] [0, 1, 3, 4] rfl rfl rfl rfl (by decide) ⟨Nat.le_of_ble_eq_true rfl, Nat.le_of_ble_eq_true rfl⟩ rfl rfl (Nat.le_of_ble_eq_true rfl) ⟨Nat.le_of_ble_eq_true rfl, Nat.le_of_ble_eq_true rfl⟩ dX3_changeFamilies_36 (fun r w1 hp => ?_)
  obtain ⟨rfl, rfl⟩ := hp
  refine g_ws (ws' := (tW E a (t.1, t.2.1, t.2.2.1, t.2.2.2.1, t.2.2.2.2.1, t.2.2.2.2.2.1, t.2.2.2.2.2.2.1, upd (upd t.2.2.2.2.2.2.2.1 o0.toNatClampNeg (t.2.2.2.2.2.2.2.1 (h0.toNatClampNeg))) h0.toNatClampNeg (t.2.2.2.2.2.2.2.1 o0.toNatClampNeg), upd t.2.2.2.2.2.2.2.2.1 o0.toNatClampNeg (t.2.2.2.2.2.2.2.2.1 (h0.toNatClampNeg)), t.2.2.2.2.2.2.2.2.2.1, t.2.2.2.2.2.2.2.2.2.2))) [0, 1, 4, 2, 3] rfl rfl ?_
  refine g_iast (ws' := (tW E a (t.1, t.2.1, t.2.2.1, t.2.2.2.1, t.2.2.2.2.1, t.2.2.2.2.2.1, t.2.2.2.2.2.2.1, upd (upd t.2.2.2.2.2.2.2.1 o0.toNatClampNeg (t.2.2.2.2.2.2.2.1 (h0.toNatClampNeg))) h0.toNatClampNeg (t.2.2.2.2.2.2.2.1 o0.toNatClampNeg), upd (upd t.2.2.2.2.2.2.2.2.1 o0.toNatClampNeg (t.2.2.2.2.2.2.2.2.1 (h0.toNatClampNeg))) h0.toNatClampNeg (t.2.2.2.2.2.2.2.2.1 o0.toNatClampNeg), t.2.2.2.2.2.2.2.2.2.1, t.2.2.2.2.2.2.2.2.2.2))) cx 2 rfl rfl (by assumption) dX3_changeFamilies_39 rfl ?_
  refine g_aload_n cx dX3_changeFamilies_40 0 rfl ?_
  refine g_get (C := RX3) (T := TX3) (N := 11) (v := .ref (a 3)) cx iwX3_changeFamilies_X3 0 9 rfl rfl (by decide) lkX3_changeFamilies_40 rfl dX3_changeFamilies_41 ?_
  refine g_iload_n cx dX3_changeFamilies_44 1 rfl ?_
  refine g_aload_n cx dX3_changeFamilies_45 0 rfl ?_
  refine g_get (C := RX3) (T := TX3) (N := 11) (v := .ref (a 3)) cx iwX3_changeFamilies_X3 0 9 rfl rfl (by decide) lkX3_changeFamilies_40 rfl dX3_changeFamilies_46 ?_
  refine g_iload_n cx dX3_changeFamilies_49 2 rfl ?_
  refine g_aload_n cx dX3_changeFamilies_50 0 rfl ?_
  refine g_get (C := RX3) (T := TX3) (N := 11) (v := .ref (a 3)) cx iwX3_changeFamilies_X3 0 9 rfl rfl (by decide) lkX3_changeFamilies_40 rfl dX3_changeFamilies_51 ?_
  refine g_iload_n cx dX3_changeFamilies_54 1 rfl ?_
  refine g_iald cx 3 rfl rfl (by assumption) dX3_changeFamilies_55 ?_
  refine g_Ni (rest := [.int h0, .ref (a 3)]) (As := [.ref (a 3), .int o0, .int (t.2.2.2.2.2.2.2.2.2.1 (h0.toNatClampNeg))]) (wr := (tW E a (t.1, t.2.1, t.2.2.1, t.2.2.2.1, t.2.2.2.2.1, t.2.2.2.2.2.1, t.2.2.2.2.2.2.1, upd (upd t.2.2.2.2.2.2.2.1 o0.toNatClampNeg (t.2.2.2.2.2.2.2.1 (h0.toNatClampNeg))) h0.toNatClampNeg (t.2.2.2.2.2.2.2.1 o0.toNatClampNeg), upd (upd t.2.2.2.2.2.2.2.2.1 o0.toNatClampNeg (t.2.2.2.2.2.2.2.2.1 (h0.toNatClampNeg))) h0.toNatClampNeg (t.2.2.2.2.2.2.2.2.1 o0.toNatClampNeg), t.2.2.2.2.2.2.2.2.2.1, t.2.2.2.2.2.2.2.2.2.2)).eraseIdx 3) (host := "MuffinBells") cx hYX5_exchange ggX3_changeFamilies_X5_exchange mwX3_changeFamilies_n76 (fun _ _ _ h => h.2.1.2.1) (c_X5_exchange l E (a 3) 8 t.2.2.2.2.2.2.2.2.2.1 o0 (t.2.2.2.2.2.2.2.2.2.1 (h0.toNatClampNeg)) ho) [3] [0, 1, 2, 4] rfl rfl rfl rfl (by decide) ⟨Nat.le_of_ble_eq_true rfl, Nat.le_of_ble_eq_true rfl⟩ rfl rfl (Nat.le_of_ble_eq_true rfl) ⟨Nat.le_of_ble_eq_true rfl, Nat.le_of_ble_eq_true rfl⟩ dX3_changeFamilies_56 (fun r w1 hp => ?_)
  obtain ⟨rfl, rfl⟩ := hp
  refine g_ws (ws' := (tW E a (t.1, t.2.1, t.2.2.1, t.2.2.2.1, t.2.2.2.2.1, t.2.2.2.2.2.1, t.2.2.2.2.2.2.1, upd (upd t.2.2.2.2.2.2.2.1 o0.toNatClampNeg (t.2.2.2.2.2.2.2.1 (h0.toNatClampNeg))) h0.toNatClampNeg (t.2.2.2.2.2.2.2.1 o0.toNatClampNeg), upd (upd t.2.2.2.2.2.2.2.2.1 o0.toNatClampNeg (t.2.2.2.2.2.2.2.2.1 (h0.toNatClampNeg))) h0.toNatClampNeg (t.2.2.2.2.2.2.2.2.1 o0.toNatClampNeg), upd t.2.2.2.2.2.2.2.2.2.1 o0.toNatClampNeg (t.2.2.2.2.2.2.2.2.2.1 (h0.toNatClampNeg)), t.2.2.2.2.2.2.2.2.2.2))) [0, 1, 2, 4, 3] rfl rfl ?_
  refine g_iast (ws' := (tW E a (t.1, t.2.1, t.2.2.1, t.2.2.2.1, t.2.2.2.2.1, t.2.2.2.2.2.1, t.2.2.2.2.2.2.1, upd (upd t.2.2.2.2.2.2.2.1 o0.toNatClampNeg (t.2.2.2.2.2.2.2.1 (h0.toNatClampNeg))) h0.toNatClampNeg (t.2.2.2.2.2.2.2.1 o0.toNatClampNeg), upd (upd t.2.2.2.2.2.2.2.2.1 o0.toNatClampNeg (t.2.2.2.2.2.2.2.2.1 (h0.toNatClampNeg))) h0.toNatClampNeg (t.2.2.2.2.2.2.2.2.1 o0.toNatClampNeg), upd (upd t.2.2.2.2.2.2.2.2.2.1 o0.toNatClampNeg (t.2.2.2.2.2.2.2.2.2.1 (h0.toNatClampNeg))) h0.toNatClampNeg (t.2.2.2.2.2.2.2.2.2.1 o0.toNatClampNeg), t.2.2.2.2.2.2.2.2.2.2))) cx 3 rfl rfl (by assumption) dX3_changeFamilies_59 rfl ?_
  refine g_aload_n cx dX3_changeFamilies_60 0 rfl ?_
  refine g_get (C := RX3) (T := TX3) (N := 11) (v := .ref (a 4)) cx iwX3_changeFamilies_X3 0 10 rfl rfl (by decide) lkX3_changeFamilies_43 rfl dX3_changeFamilies_61 ?_
  refine g_iload_n cx dX3_changeFamilies_64 1 rfl ?_
  refine g_aload_n cx dX3_changeFamilies_65 0 rfl ?_
  refine g_get (C := RX3) (T := TX3) (N := 11) (v := .ref (a 4)) cx iwX3_changeFamilies_X3 0 10 rfl rfl (by decide) lkX3_changeFamilies_43 rfl dX3_changeFamilies_66 ?_
  refine g_iload_n cx dX3_changeFamilies_69 2 rfl ?_
  refine g_aload_n cx dX3_changeFamilies_70 0 rfl ?_
  refine g_get (C := RX3) (T := TX3) (N := 11) (v := .ref (a 4)) cx iwX3_changeFamilies_X3 0 10 rfl rfl (by decide) lkX3_changeFamilies_43 rfl dX3_changeFamilies_71 ?_
  refine g_iload_n cx dX3_changeFamilies_74 1 rfl ?_
  refine g_iald cx 4 rfl rfl (by assumption) dX3_changeFamilies_75 ?_
  refine g_Ni (rest := [.int h0, .ref (a 4)]) (As := [.ref (a 4), .int o0, .int (t.2.2.2.2.2.2.2.2.2.2 (h0.toNatClampNeg))]) (wr := (tW E a (t.1, t.2.1, t.2.2.1, t.2.2.2.1, t.2.2.2.2.1, t.2.2.2.2.2.1, t.2.2.2.2.2.2.1, upd (upd t.2.2.2.2.2.2.2.1 o0.toNatClampNeg (t.2.2.2.2.2.2.2.1 (h0.toNatClampNeg))) h0.toNatClampNeg (t.2.2.2.2.2.2.2.1 o0.toNatClampNeg), upd (upd t.2.2.2.2.2.2.2.2.1 o0.toNatClampNeg (t.2.2.2.2.2.2.2.2.1 (h0.toNatClampNeg))) h0.toNatClampNeg (t.2.2.2.2.2.2.2.2.1 o0.toNatClampNeg), upd (upd t.2.2.2.2.2.2.2.2.2.1 o0.toNatClampNeg (t.2.2.2.2.2.2.2.2.2.1 (h0.toNatClampNeg))) h0.toNatClampNeg (t.2.2.2.2.2.2.2.2.2.1 o0.toNatClampNeg), t.2.2.2.2.2.2.2.2.2.2)).eraseIdx 4) (host := "MuffinBells") cx hYX5_exchange ggX3_changeFamilies_X5_exchange mwX3_changeFamilies_n76 (fun _ _ _ h => h.2.1.2.1) (c_X5_exchange l E (a 4) 8 t.2.2.2.2.2.2.2.2.2.2 o0 (t.2.2.2.2.2.2.2.2.2.2 (h0.toNatClampNeg)) ho) [4] [0, 1, 2, 3] rfl rfl rfl rfl (by decide) ⟨Nat.le_of_ble_eq_true rfl, Nat.le_of_ble_eq_true rfl⟩ rfl rfl (Nat.le_of_ble_eq_true rfl) ⟨Nat.le_of_ble_eq_true rfl, Nat.le_of_ble_eq_true rfl⟩ dX3_changeFamilies_76 (fun r w1 hp => ?_)
  obtain ⟨rfl, rfl⟩ := hp
  refine g_ws (ws' := (tW E a (t.1, t.2.1, t.2.2.1, t.2.2.2.1, t.2.2.2.2.1, t.2.2.2.2.2.1, t.2.2.2.2.2.2.1, upd (upd t.2.2.2.2.2.2.2.1 o0.toNatClampNeg (t.2.2.2.2.2.2.2.1 (h0.toNatClampNeg))) h0.toNatClampNeg (t.2.2.2.2.2.2.2.1 o0.toNatClampNeg), upd (upd t.2.2.2.2.2.2.2.2.1 o0.toNatClampNeg (t.2.2.2.2.2.2.2.2.1 (h0.toNatClampNeg))) h0.toNatClampNeg (t.2.2.2.2.2.2.2.2.1 o0.toNatClampNeg), upd (upd t.2.2.2.2.2.2.2.2.2.1 o0.toNatClampNeg (t.2.2.2.2.2.2.2.2.2.1 (h0.toNatClampNeg))) h0.toNatClampNeg (t.2.2.2.2.2.2.2.2.2.1 o0.toNatClampNeg), upd t.2.2.2.2.2.2.2.2.2.2 o0.toNatClampNeg (t.2.2.2.2.2.2.2.2.2.2 (h0.toNatClampNeg))))) [0, 1, 2, 3, 4] rfl rfl ?_
  refine g_iast (ws' := (tW E a (t.1, t.2.1, t.2.2.1, t.2.2.2.1, t.2.2.2.2.1, t.2.2.2.2.2.1, t.2.2.2.2.2.2.1, upd (upd t.2.2.2.2.2.2.2.1 o0.toNatClampNeg (t.2.2.2.2.2.2.2.1 (h0.toNatClampNeg))) h0.toNatClampNeg (t.2.2.2.2.2.2.2.1 o0.toNatClampNeg), upd (upd t.2.2.2.2.2.2.2.2.1 o0.toNatClampNeg (t.2.2.2.2.2.2.2.2.1 (h0.toNatClampNeg))) h0.toNatClampNeg (t.2.2.2.2.2.2.2.2.1 o0.toNatClampNeg), upd (upd t.2.2.2.2.2.2.2.2.2.1 o0.toNatClampNeg (t.2.2.2.2.2.2.2.2.2.1 (h0.toNatClampNeg))) h0.toNatClampNeg (t.2.2.2.2.2.2.2.2.2.1 o0.toNatClampNeg), upd (upd t.2.2.2.2.2.2.2.2.2.2 o0.toNatClampNeg (t.2.2.2.2.2.2.2.2.2.2 (h0.toNatClampNeg))) h0.toNatClampNeg (t.2.2.2.2.2.2.2.2.2.2 o0.toNatClampNeg)))) cx 4 rfl rfl (by assumption) dX3_changeFamilies_79 rfl ?_
  exact g_vret cx gr (Nat.zero_le _) (Nat.zero_le _) dX3_changeFamilies_80 (rfl)

abbrev rmX5_sum : Room := { frames := 0, cells := 0, slots := 0, locals := 0 }
theorem hYX5_sum : gY yX5_sum wsX5_sum cX5_sum 6 (some .int) 1 := ⟨⟨_, rfl⟩, by decide +kernel, by decide +kernel, by decide +kernel⟩
set_option maxRecDepth 100000 in
set_option maxHeartbeats 4000000 in
theorem c_X5_sum (l : Launch) (E : gE) (b : Nat) (N : Nat) (f : Nat → Int32) (hN : N < 2 ^ 31) : cti l yX5_sum wsX5_sum rmX5_sum E [.ref b] [(b, .inl (gI E, N, .inl f))] (fun r w => r = sumN f N ∧ w = [(b, .inl (gI E, N, .inl f))]) := by
  refine mt_i (cc := cX5_sum) (maxL := 6) (ret := some .int) (lv0 := [(0, .ref b)]) (by decide) rfl rfl (Nat.le_of_ble_eq_true rfl) (fun X cx gr hI => ?_)
  refine g_iconst (v := 0) cx dX5_sum_0 (by decide) ?_
  refine g_istore_n (lv' := [(1, .int 0), (0, .ref b)]) cx dX5_sum_1 (by decide) rfl ?_
  refine g_aload_n cx dX5_sum_2 1 rfl ?_
  refine g_astore_n (lv' := [(2, .ref b), (1, .int 0), (0, .ref b)]) cx dX5_sum_3 (by decide) rfl ?_
  refine g_aload_n cx dX5_sum_4 0 rfl ?_
  refine g_alen (v := nI N) cx 0 0 rfl rfl rfl dX5_sum_5 ?_
  refine g_istore_n (lv' := [(3, .int (nI N)), (2, .ref b), (1, .int 0), (0, .ref b)]) cx dX5_sum_6 (by decide) rfl ?_
  refine g_iconst (v := 0) cx dX5_sum_7 (by decide) ?_
  refine g_istore (lv' := [(4, .int 0), (3, .int (nI N)), (2, .ref b), (1, .int 0), (0, .ref b)]) cx dX5_sum_8 (by decide) rfl ?_
  have LP10 : ∀ (d : Nat) (i : Nat) (x : Int32) (y : Int32), i + d = N + 1 → i ≤ N → x = nI i → y = sumN f i → gG X 0 0 [(b, .inl (gI E, N, .inl f))] 10 [(1, .int y), (2, .ref b), (3, .int (nI N)), (4, .int x)] [] := by
    intro d
    induction d with
    | zero =>
      intro i x y hi hiN hx hy
      omega
    | succ d ih =>
      intro i x y hi hiN hx hy
      refine g_iload cx dX5_sum_10 3 rfl ?_
      refine g_iload_n cx dX5_sum_12 2 rfl ?_
      refine g_icmp_ge (tgt := 33) cx dX5_sum_13 (by decide) (fun c_1 => ?_) (fun c_1 => ?_)
      · refine g_iload_n cx dX5_sum_33 0 rfl ?_
        exact g_iret cx gr (Nat.zero_le _) (Nat.zero_le _) dX5_sum_34 ⟨by rw [hy, show i = N by have := ge_of N hx c_1 (by omega) hN; omega], rfl⟩
      · refine g_aload_n cx dX5_sum_16 1 rfl ?_
        refine g_iload cx dX5_sum_17 3 rfl ?_
        refine g_iald cx 0 rfl rfl (vp_of_nI hx (by have := lt_of N hx c_1 (by omega) hN; omega) hN) dX5_sum_19 ?_
        refine g_istore (lv' := [(5, .int (f (x.toNatClampNeg))), (1, .int y), (2, .ref b), (3, .int (nI N)), (4, .int x)]) cx dX5_sum_20 (by decide) rfl ?_
        refine g_iload_n cx dX5_sum_22 1 rfl ?_
        refine g_iload cx dX5_sum_23 0 rfl ?_
        refine g_iadd cx dX5_sum_25 ?_
        refine g_istore_n (lv' := [(1, .int (y + (f (x.toNatClampNeg)))), (5, .int (f (x.toNatClampNeg))), (2, .ref b), (3, .int (nI N)), (4, .int x)]) cx dX5_sum_26 (by decide) rfl ?_
        refine g_iinc (v := x + 1) (lv' := [(4, .int (x + 1)), (1, .int (y + (f (x.toNatClampNeg)))), (5, .int (f (x.toNatClampNeg))), (2, .ref b), (3, .int (nI N))]) cx dX5_sum_27 4 rfl rfl (by decide) rfl ?_
        refine g_goto (tgt := 10) cx dX5_sum_30 (by decide) ?_
        exact g_lv [1, 3, 4, 0] rfl (ih (i + 1) (x + 1) (y + (f (x.toNatClampNeg))) (by omega) (by have := lt_of N hx c_1 (by omega) hN; omega) (by rw [hx]; exact nI_1 i) (by rw [hy, hx, nI_clamp (by omega)]; rfl))
  exact g_lv [3, 2, 1, 0] rfl (LP10 (N + 1) 0 0 0 (by omega) (by omega) rfl rfl)

abbrev rmX3_housesOfOtherKinds : Room := { frames := 0, cells := 0, slots := 0, locals := 0 }
theorem hYX3_housesOfOtherKinds : gY yX3_housesOfOtherKinds wsX3_housesOfOtherKinds cX3_housesOfOtherKinds 6 (some .int) 0 := ⟨⟨_, rfl⟩, by decide +kernel, by decide +kernel, by decide +kernel⟩
theorem iwX3_housesOfOtherKinds_X3 : ∀ w ∈ u_ws RX3 TX3 11, w ∈ wsX3_housesOfOtherKinds := by decide +kernel
theorem lkX3_housesOfOtherKinds_33 : Cond.fieldLink RX3 33 "MuffinBells$Terrace" "kinds" "[I" ∈ wsX3_housesOfOtherKinds := by decide +kernel
set_option maxRecDepth 100000 in
set_option maxHeartbeats 4000000 in
theorem c_X3_housesOfOtherKinds (l : Launch) (E : gE) (a : Nat → Nat) (t : Ter) : cti l yX3_housesOfOtherKinds wsX3_housesOfOtherKinds rmX3_housesOfOtherKinds E [.ref (a 0)] (tW E a t) (fun r w => r = cntN (tKind t) 8 ∧ w = tW E a t) := by
  refine mt_i (cc := cX3_housesOfOtherKinds) (maxL := 6) (ret := some .int) (lv0 := [(0, .ref (a 0))]) (by decide) rfl rfl (Nat.le_of_ble_eq_true rfl) (fun X cx gr hI => ?_)
  refine g_iconst (v := 0) cx dX3_housesOfOtherKinds_0 (by decide) ?_
  refine g_istore_n (lv' := [(1, .int 0), (0, .ref (a 0))]) cx dX3_housesOfOtherKinds_1 (by decide) rfl ?_
  refine g_aload_n cx dX3_housesOfOtherKinds_2 1 rfl ?_
  refine g_get (C := RX3) (T := TX3) (N := 11) (v := .ref (a 1)) cx iwX3_housesOfOtherKinds_X3 0 7 rfl rfl (by decide) lkX3_housesOfOtherKinds_33 rfl dX3_housesOfOtherKinds_3 ?_
  refine g_astore_n (lv' := [(2, .ref (a 1)), (1, .int 0), (0, .ref (a 0))]) cx dX3_housesOfOtherKinds_6 (by decide) rfl ?_
  refine g_aload_n cx dX3_housesOfOtherKinds_7 0 rfl ?_
  refine g_alen (v := 8) cx 1 0 rfl rfl rfl dX3_housesOfOtherKinds_8 ?_
  refine g_istore_n (lv' := [(3, .int 8), (2, .ref (a 1)), (1, .int 0), (0, .ref (a 0))]) cx dX3_housesOfOtherKinds_9 (by decide) rfl ?_
  refine g_iconst (v := 0) cx dX3_housesOfOtherKinds_10 (by decide) ?_
  refine g_istore (lv' := [(4, .int 0), (3, .int 8), (2, .ref (a 1)), (1, .int 0), (0, .ref (a 0))]) cx dX3_housesOfOtherKinds_11 (by decide) rfl ?_
  have LP13 : ∀ (d : Nat) (i : Nat) (x : Int32) (y : Int32), i + d = 9 → i ≤ 8 → x = nI i → y = cntN (tKind t) i → gG X 0 0 (tW E a t) 13 [(0, .ref (a 0)), (1, .int y), (2, .ref (a 1)), (3, .int 8), (4, .int x)] [] := by
    intro d
    induction d with
    | zero =>
      intro i x y hi hiN hx hy
      omega
    | succ d ih =>
      intro i x y hi hiN hx hy
      refine g_iload cx dX3_housesOfOtherKinds_13 4 rfl ?_
      refine g_iload_n cx dX3_housesOfOtherKinds_15 3 rfl ?_
      refine g_icmp_ge (tgt := 39) cx dX3_housesOfOtherKinds_16 (by decide) (fun c_1 => ?_) (fun c_1 => ?_)
      · refine g_iload_n cx dX3_housesOfOtherKinds_39 1 rfl ?_
        exact g_iret cx gr (Nat.zero_le _) (Nat.zero_le _) dX3_housesOfOtherKinds_40 ⟨by rw [hy, show i = 8 by have := ge_of 8 hx c_1 (by omega) (by decide); omega], rfl⟩
      · refine g_aload_n cx dX3_housesOfOtherKinds_19 2 rfl ?_
        refine g_iload cx dX3_housesOfOtherKinds_20 4 rfl ?_
        refine g_iald cx 1 rfl rfl (vp_of_nI hx (by have := lt_of 8 hx c_1 (by omega) (by decide); omega) (by decide)) dX3_housesOfOtherKinds_22 ?_
        refine g_istore (lv' := [(5, .int (t.2.2.2.2.2.2.2.1 (x.toNatClampNeg))), (0, .ref (a 0)), (1, .int y), (2, .ref (a 1)), (3, .int 8), (4, .int x)]) cx dX3_housesOfOtherKinds_23 (by decide) rfl ?_
        refine g_iload cx dX3_housesOfOtherKinds_25 0 rfl ?_
        refine g_if_eq (tgt := 33) cx dX3_housesOfOtherKinds_27 (by decide) (fun c_2 => ?_) (fun c_2 => ?_)
        · refine g_iinc (v := x + 1) (lv' := [(4, .int (x + 1)), (5, .int (t.2.2.2.2.2.2.2.1 (x.toNatClampNeg))), (0, .ref (a 0)), (1, .int y), (2, .ref (a 1)), (3, .int 8)]) cx dX3_housesOfOtherKinds_33 5 rfl rfl (by decide) rfl ?_
          refine g_goto (tgt := 13) cx dX3_housesOfOtherKinds_36 (by decide) ?_
          exact g_lv [2, 3, 4, 5, 0] rfl (ih (i + 1) (x + 1) y (by omega) (by have := lt_of 8 hx c_1 (by omega) (by decide); omega) (by rw [hx]; exact nI_1 i) (by rw [hx, nI_clamp (by omega)] at c_2; rw [hy, cntN, if_pos c_2]))
        · refine g_iinc (v := y + 1) (lv' := [(1, .int (y + 1)), (5, .int (t.2.2.2.2.2.2.2.1 (x.toNatClampNeg))), (0, .ref (a 0)), (2, .ref (a 1)), (3, .int 8), (4, .int x)]) cx dX3_housesOfOtherKinds_30 2 rfl rfl (by decide) rfl ?_
          refine g_iinc (v := x + 1) (lv' := [(4, .int (x + 1)), (1, .int (y + 1)), (5, .int (t.2.2.2.2.2.2.2.1 (x.toNatClampNeg))), (0, .ref (a 0)), (2, .ref (a 1)), (3, .int 8)]) cx dX3_housesOfOtherKinds_33 5 rfl rfl (by decide) rfl ?_
          refine g_goto (tgt := 13) cx dX3_housesOfOtherKinds_36 (by decide) ?_
          exact g_lv [3, 1, 4, 5, 0] rfl (ih (i + 1) (x + 1) (y + 1) (by omega) (by have := lt_of 8 hx c_1 (by omega) (by decide); omega) (by rw [hx]; exact nI_1 i) (by rw [hx, nI_clamp (by omega)] at c_2; rw [hy, cntN, if_neg c_2]))
  exact g_lv [4, 3, 2, 1, 0] rfl (LP13 9 0 0 0 (by omega) (by omega) rfl rfl)

abbrev rmX3_become : Room := { frames := 1, cells := 0, slots := 0, locals := 60 }
theorem hYX3_become : gY yX3_become wsX3_become cX3_become 2 (none) 1 := ⟨⟨_, rfl⟩, by decide +kernel, by decide +kernel, by decide +kernel⟩
theorem iwX3_become_X3 : ∀ w ∈ u_ws RX3 TX3 11, w ∈ wsX3_become := by decide +kernel
theorem lkX3_become_9 : Cond.fieldLink RX3 9 "MuffinBells$Terrace" "hour" "I" ∈ wsX3_become := by decide +kernel
theorem lkX3_become_15 : Cond.fieldLink RX3 15 "MuffinBells$Terrace" "at" "I" ∈ wsX3_become := by decide +kernel
theorem lkX3_become_18 : Cond.fieldLink RX3 18 "MuffinBells$Terrace" "way" "I" ∈ wsX3_become := by decide +kernel
theorem lkX3_become_21 : Cond.fieldLink RX3 21 "MuffinBells$Terrace" "tray" "I" ∈ wsX3_become := by decide +kernel
theorem lkX3_become_24 : Cond.fieldLink RX3 24 "MuffinBells$Terrace" "rang" "I" ∈ wsX3_become := by decide +kernel
theorem lkX3_become_27 : Cond.fieldLink RX3 27 "MuffinBells$Terrace" "crack" "I" ∈ wsX3_become := by decide +kernel
theorem lkX3_become_30 : Cond.fieldLink RX3 30 "MuffinBells$Terrace" "takings" "I" ∈ wsX3_become := by decide +kernel
theorem lkX3_become_33 : Cond.fieldLink RX3 33 "MuffinBells$Terrace" "kinds" "[I" ∈ wsX3_become := by decide +kernel
theorem mwX3_become_ac : ∀ w ∈ ([Cond.methodLink RX3 52 arraycopyName, Cond.native arraycopyName, Cond.static arraycopyName, Cond.initialized "java/lang/System"] : List Cond), w ∈ wsX3_become := by decide +kernel
theorem lkX3_become_37 : Cond.fieldLink RX3 37 "MuffinBells$Terrace" "moods" "[I" ∈ wsX3_become := by decide +kernel
theorem lkX3_become_40 : Cond.fieldLink RX3 40 "MuffinBells$Terrace" "pence" "[I" ∈ wsX3_become := by decide +kernel
theorem lkX3_become_43 : Cond.fieldLink RX3 43 "MuffinBells$Terrace" "ate" "[I" ∈ wsX3_become := by decide +kernel
set_option maxRecDepth 100000 in
set_option maxHeartbeats 4000000 in
theorem c_X3_become (l : Launch) (E : gE) (a : Nat → Nat) (t : Ter) (u : Ter) : ctv l yX3_become wsX3_become rmX3_become E [.ref (a 0), .ref (a 5)] (t2W E a t u) (fun w => w = t2W E a u u) := by
  refine mt_v (cc := cX3_become) (maxL := 2) (ret := none) (lv0 := [(0, .ref (a 0)), (1, .ref (a 5))]) (by decide) rfl rfl (Nat.le_of_ble_eq_true rfl) (fun X cx gr hI => ?_)
  refine g_aload_n cx dX3_become_0 0 rfl ?_
  refine g_aload_n cx dX3_become_1 1 rfl ?_
  refine g_get (C := RX3) (T := TX3) (N := 11) (v := .int u.1) cx iwX3_become_X3 5 0 rfl rfl (by decide) lkX3_become_9 rfl dX3_become_2 ?_
  refine g_put (C := RX3) (T := TX3) (N := 11) (ws' := (t2W E a (u.1, t.2.1, t.2.2.1, t.2.2.2.1, t.2.2.2.2.1, t.2.2.2.2.2.1, t.2.2.2.2.2.2.1, t.2.2.2.2.2.2.2.1, t.2.2.2.2.2.2.2.2.1, t.2.2.2.2.2.2.2.2.2.1, t.2.2.2.2.2.2.2.2.2.2) u)) cx iwX3_become_X3 tyX3 tyX3_ok nmX3 0 0 rfl rfl (by decide) lkX3_become_9 rfl rfl rfl (Nat.le_of_ble_eq_true rfl) dX3_become_5 rfl ?_
  refine g_aload_n cx dX3_become_8 0 rfl ?_
  refine g_aload_n cx dX3_become_9 1 rfl ?_
  refine g_get (C := RX3) (T := TX3) (N := 11) (v := .int u.2.1) cx iwX3_become_X3 5 1 rfl rfl (by decide) lkX3_become_15 rfl dX3_become_10 ?_
  refine g_put (C := RX3) (T := TX3) (N := 11) (ws' := (t2W E a (u.1, u.2.1, t.2.2.1, t.2.2.2.1, t.2.2.2.2.1, t.2.2.2.2.2.1, t.2.2.2.2.2.2.1, t.2.2.2.2.2.2.2.1, t.2.2.2.2.2.2.2.2.1, t.2.2.2.2.2.2.2.2.2.1, t.2.2.2.2.2.2.2.2.2.2) u)) cx iwX3_become_X3 tyX3 tyX3_ok nmX3 0 1 rfl rfl (by decide) lkX3_become_15 rfl rfl rfl (Nat.le_of_ble_eq_true rfl) dX3_become_13 rfl ?_
  refine g_aload_n cx dX3_become_16 0 rfl ?_
  refine g_aload_n cx dX3_become_17 1 rfl ?_
  refine g_get (C := RX3) (T := TX3) (N := 11) (v := .int u.2.2.1) cx iwX3_become_X3 5 2 rfl rfl (by decide) lkX3_become_18 rfl dX3_become_18 ?_
  refine g_put (C := RX3) (T := TX3) (N := 11) (ws' := (t2W E a (u.1, u.2.1, u.2.2.1, t.2.2.2.1, t.2.2.2.2.1, t.2.2.2.2.2.1, t.2.2.2.2.2.2.1, t.2.2.2.2.2.2.2.1, t.2.2.2.2.2.2.2.2.1, t.2.2.2.2.2.2.2.2.2.1, t.2.2.2.2.2.2.2.2.2.2) u)) cx iwX3_become_X3 tyX3 tyX3_ok nmX3 0 2 rfl rfl (by decide) lkX3_become_18 rfl rfl rfl (Nat.le_of_ble_eq_true rfl) dX3_become_21 rfl ?_
  refine g_aload_n cx dX3_become_24 0 rfl ?_
  refine g_aload_n cx dX3_become_25 1 rfl ?_
  refine g_get (C := RX3) (T := TX3) (N := 11) (v := .int u.2.2.2.1) cx iwX3_become_X3 5 3 rfl rfl (by decide) lkX3_become_21 rfl dX3_become_26 ?_
  refine g_put (C := RX3) (T := TX3) (N := 11) (ws' := (t2W E a (u.1, u.2.1, u.2.2.1, u.2.2.2.1, t.2.2.2.2.1, t.2.2.2.2.2.1, t.2.2.2.2.2.2.1, t.2.2.2.2.2.2.2.1, t.2.2.2.2.2.2.2.2.1, t.2.2.2.2.2.2.2.2.2.1, t.2.2.2.2.2.2.2.2.2.2) u)) cx iwX3_become_X3 tyX3 tyX3_ok nmX3 0 3 rfl rfl (by decide) lkX3_become_21 rfl rfl rfl (Nat.le_of_ble_eq_true rfl) dX3_become_29 rfl ?_
  refine g_aload_n cx dX3_become_32 0 rfl ?_
  refine g_aload_n cx dX3_become_33 1 rfl ?_
  refine g_get (C := RX3) (T := TX3) (N := 11) (v := .int u.2.2.2.2.1) cx iwX3_become_X3 5 4 rfl rfl (by decide) lkX3_become_24 rfl dX3_become_34 ?_
  refine g_put (C := RX3) (T := TX3) (N := 11) (ws' := (t2W E a (u.1, u.2.1, u.2.2.1, u.2.2.2.1, u.2.2.2.2.1, t.2.2.2.2.2.1, t.2.2.2.2.2.2.1, t.2.2.2.2.2.2.2.1, t.2.2.2.2.2.2.2.2.1, t.2.2.2.2.2.2.2.2.2.1, t.2.2.2.2.2.2.2.2.2.2) u)) cx iwX3_become_X3 tyX3 tyX3_ok nmX3 0 4 rfl rfl (by decide) lkX3_become_24 rfl rfl rfl (Nat.le_of_ble_eq_true rfl) dX3_become_37 rfl ?_
  refine g_aload_n cx dX3_become_40 0 rfl ?_
  refine g_aload_n cx dX3_become_41 1 rfl ?_
  refine g_get (C := RX3) (T := TX3) (N := 11) (v := .int u.2.2.2.2.2.1) cx iwX3_become_X3 5 5 rfl rfl (by decide) lkX3_become_27 rfl dX3_become_42 ?_
  refine g_put (C := RX3) (T := TX3) (N := 11) (ws' := (t2W E a (u.1, u.2.1, u.2.2.1, u.2.2.2.1, u.2.2.2.2.1, u.2.2.2.2.2.1, t.2.2.2.2.2.2.1, t.2.2.2.2.2.2.2.1, t.2.2.2.2.2.2.2.2.1, t.2.2.2.2.2.2.2.2.2.1, t.2.2.2.2.2.2.2.2.2.2) u)) cx iwX3_become_X3 tyX3 tyX3_ok nmX3 0 5 rfl rfl (by decide) lkX3_become_27 rfl rfl rfl (Nat.le_of_ble_eq_true rfl) dX3_become_45 rfl ?_
  refine g_aload_n cx dX3_become_48 0 rfl ?_
  refine g_aload_n cx dX3_become_49 1 rfl ?_
  refine g_get (C := RX3) (T := TX3) (N := 11) (v := .int u.2.2.2.2.2.2.1) cx iwX3_become_X3 5 6 rfl rfl (by decide) lkX3_become_30 rfl dX3_become_50 ?_
  refine g_put (C := RX3) (T := TX3) (N := 11) (ws' := (t2W E a (u.1, u.2.1, u.2.2.1, u.2.2.2.1, u.2.2.2.2.1, u.2.2.2.2.2.1, u.2.2.2.2.2.2.1, t.2.2.2.2.2.2.2.1, t.2.2.2.2.2.2.2.2.1, t.2.2.2.2.2.2.2.2.2.1, t.2.2.2.2.2.2.2.2.2.2) u)) cx iwX3_become_X3 tyX3 tyX3_ok nmX3 0 6 rfl rfl (by decide) lkX3_become_30 rfl rfl rfl (Nat.le_of_ble_eq_true rfl) dX3_become_53 rfl ?_
  refine g_aload_n cx dX3_become_56 1 rfl ?_
  refine g_get (C := RX3) (T := TX3) (N := 11) (v := .ref (a 6)) cx iwX3_become_X3 5 7 rfl rfl (by decide) lkX3_become_33 rfl dX3_become_57 ?_
  refine g_iconst (v := 0) cx dX3_become_60 (by decide) ?_
  refine g_aload_n cx dX3_become_61 0 rfl ?_
  refine g_get (C := RX3) (T := TX3) (N := 11) (v := .ref (a 1)) cx iwX3_become_X3 0 7 rfl rfl (by decide) lkX3_become_33 rfl dX3_become_62 ?_
  refine g_iconst (v := 0) cx dX3_become_65 (by decide) ?_
  refine g_bipush (v := 8) cx dX3_become_66 (by decide) ?_
  refine g_copyI (ws' := (t2W E a (u.1, u.2.1, u.2.2.1, u.2.2.2.1, u.2.2.2.2.1, u.2.2.2.2.2.1, u.2.2.2.2.2.2.1, va_cpy u.2.2.2.2.2.2.2.1 t.2.2.2.2.2.2.2.1 (0 : Int32).toNatClampNeg (0 : Int32).toNatClampNeg (8 : Int32).toNatClampNeg, t.2.2.2.2.2.2.2.2.1, t.2.2.2.2.2.2.2.2.2.1, t.2.2.2.2.2.2.2.2.2.2) u)) cx mwX3_become_ac 6 1 rfl rfl (by decide) (by decide) (by decide) (by decide) (by decide) (by decide) (Nat.le_of_ble_eq_true rfl) dX3_become_68 rfl ?_
  refine g_cgI (ws' := (t2W E a (u.1, u.2.1, u.2.2.1, u.2.2.2.1, u.2.2.2.2.1, u.2.2.2.2.2.1, u.2.2.2.2.2.2.1, u.2.2.2.2.2.2.2.1, t.2.2.2.2.2.2.2.2.1, t.2.2.2.2.2.2.2.2.2.1, t.2.2.2.2.2.2.2.2.2.2) u)) (g := u.2.2.2.2.2.2.2.1) 1 rfl cpy_8 rfl ?_
  refine g_aload_n cx dX3_become_71 1 rfl ?_
  refine g_get (C := RX3) (T := TX3) (N := 11) (v := .ref (a 7)) cx iwX3_become_X3 5 8 rfl rfl (by decide) lkX3_become_37 rfl dX3_become_72 ?_
  refine g_iconst (v := 0) cx dX3_become_75 (by decide) ?_
  refine g_aload_n cx dX3_become_76 0 rfl ?_
  refine g_get (C := RX3) (T := TX3) (N := 11) (v := .ref (a 2)) cx iwX3_become_X3 0 8 rfl rfl (by decide) lkX3_become_37 rfl dX3_become_77 ?_
  refine g_iconst (v := 0) cx dX3_become_80 (by decide) ?_
  refine g_bipush (v := 8) cx dX3_become_81 (by decide) ?_
  refine g_copyI (ws' := (t2W E a (u.1, u.2.1, u.2.2.1, u.2.2.2.1, u.2.2.2.2.1, u.2.2.2.2.2.1, u.2.2.2.2.2.2.1, u.2.2.2.2.2.2.2.1, va_cpy u.2.2.2.2.2.2.2.2.1 t.2.2.2.2.2.2.2.2.1 (0 : Int32).toNatClampNeg (0 : Int32).toNatClampNeg (8 : Int32).toNatClampNeg, t.2.2.2.2.2.2.2.2.2.1, t.2.2.2.2.2.2.2.2.2.2) u)) cx mwX3_become_ac 7 2 rfl rfl (by decide) (by decide) (by decide) (by decide) (by decide) (by decide) (Nat.le_of_ble_eq_true rfl) dX3_become_83 rfl ?_
  refine g_cgI (ws' := (t2W E a (u.1, u.2.1, u.2.2.1, u.2.2.2.1, u.2.2.2.2.1, u.2.2.2.2.2.1, u.2.2.2.2.2.2.1, u.2.2.2.2.2.2.2.1, u.2.2.2.2.2.2.2.2.1, t.2.2.2.2.2.2.2.2.2.1, t.2.2.2.2.2.2.2.2.2.2) u)) (g := u.2.2.2.2.2.2.2.2.1) 2 rfl cpy_8 rfl ?_
  refine g_aload_n cx dX3_become_86 1 rfl ?_
  refine g_get (C := RX3) (T := TX3) (N := 11) (v := .ref (a 8)) cx iwX3_become_X3 5 9 rfl rfl (by decide) lkX3_become_40 rfl dX3_become_87 ?_
  refine g_iconst (v := 0) cx dX3_become_90 (by decide) ?_
  refine g_aload_n cx dX3_become_91 0 rfl ?_
  refine g_get (C := RX3) (T := TX3) (N := 11) (v := .ref (a 3)) cx iwX3_become_X3 0 9 rfl rfl (by decide) lkX3_become_40 rfl dX3_become_92 ?_
  refine g_iconst (v := 0) cx dX3_become_95 (by decide) ?_
  refine g_bipush (v := 8) cx dX3_become_96 (by decide) ?_
  refine g_copyI (ws' := (t2W E a (u.1, u.2.1, u.2.2.1, u.2.2.2.1, u.2.2.2.2.1, u.2.2.2.2.2.1, u.2.2.2.2.2.2.1, u.2.2.2.2.2.2.2.1, u.2.2.2.2.2.2.2.2.1, va_cpy u.2.2.2.2.2.2.2.2.2.1 t.2.2.2.2.2.2.2.2.2.1 (0 : Int32).toNatClampNeg (0 : Int32).toNatClampNeg (8 : Int32).toNatClampNeg, t.2.2.2.2.2.2.2.2.2.2) u)) cx mwX3_become_ac 8 3 rfl rfl (by decide) (by decide) (by decide) (by decide) (by decide) (by decide) (Nat.le_of_ble_eq_true rfl) dX3_become_98 rfl ?_
  refine g_cgI (ws' := (t2W E a (u.1, u.2.1, u.2.2.1, u.2.2.2.1, u.2.2.2.2.1, u.2.2.2.2.2.1, u.2.2.2.2.2.2.1, u.2.2.2.2.2.2.2.1, u.2.2.2.2.2.2.2.2.1, u.2.2.2.2.2.2.2.2.2.1, t.2.2.2.2.2.2.2.2.2.2) u)) (g := u.2.2.2.2.2.2.2.2.2.1) 3 rfl cpy_8 rfl ?_
  refine g_aload_n cx dX3_become_101 1 rfl ?_
  refine g_get (C := RX3) (T := TX3) (N := 11) (v := .ref (a 9)) cx iwX3_become_X3 5 10 rfl rfl (by decide) lkX3_become_43 rfl dX3_become_102 ?_
  refine g_iconst (v := 0) cx dX3_become_105 (by decide) ?_
  refine g_aload_n cx dX3_become_106 0 rfl ?_
  refine g_get (C := RX3) (T := TX3) (N := 11) (v := .ref (a 4)) cx iwX3_become_X3 0 10 rfl rfl (by decide) lkX3_become_43 rfl dX3_become_107 ?_
  refine g_iconst (v := 0) cx dX3_become_110 (by decide) ?_
  refine g_bipush (v := 8) cx dX3_become_111 (by decide) ?_
  refine g_copyI (ws' := (t2W E a (u.1, u.2.1, u.2.2.1, u.2.2.2.1, u.2.2.2.2.1, u.2.2.2.2.2.1, u.2.2.2.2.2.2.1, u.2.2.2.2.2.2.2.1, u.2.2.2.2.2.2.2.2.1, u.2.2.2.2.2.2.2.2.2.1, va_cpy u.2.2.2.2.2.2.2.2.2.2 t.2.2.2.2.2.2.2.2.2.2 (0 : Int32).toNatClampNeg (0 : Int32).toNatClampNeg (8 : Int32).toNatClampNeg) u)) cx mwX3_become_ac 9 4 rfl rfl (by decide) (by decide) (by decide) (by decide) (by decide) (by decide) (Nat.le_of_ble_eq_true rfl) dX3_become_113 rfl ?_
  refine g_cgI (ws' := (t2W E a u u)) (g := u.2.2.2.2.2.2.2.2.2.2) 4 rfl cpy_8 rfl ?_
  exact g_vret cx gr (Nat.zero_le _) (Nat.zero_le _) dX3_become_116 (rfl)
