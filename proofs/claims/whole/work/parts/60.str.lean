abbrev rmJ0_coder_7d493 : Room := { frames := 0, cells := 0, slots := 0, locals := 0 }
theorem hYJ0_coder_7d493 : gY yJ0_coder_7d493 wsJ0_coder_7d493 cJ0_coder_7d493 1 (some .byte) 0 := ⟨⟨_, rfl⟩, by decide +kernel, by decide +kernel, by decide +kernel⟩
theorem lkJ0_coder_7d493_38 : Cond.fieldLink RJ0 38 "java/lang/String" "COMPACT_STRINGS" "Z" ∈ wsJ0_coder_7d493 := by decide +kernel
theorem lkJ0_coder_7d493_15 : Cond.fieldLink RJ0 15 "java/lang/String" "coder" "B" ∈ wsJ0_coder_7d493 := by decide +kernel
set_option maxRecDepth 100000 in
set_option maxHeartbeats 4000000 in
theorem c_J0_coder_7d493 (l : Launch) (E : gE) (i : Nat) (hi : i < 12) : cti l yJ0_coder_7d493 wsJ0_coder_7d493 rmJ0_coder_7d493 E [.ref (E.2.2.1 i)] [] (fun r w => r = 0 ∧ w = []) := by
  refine mt_i (cc := cJ0_coder_7d493) (maxL := 1) (ret := some .byte) (lv0 := [(0, .ref (E.2.2.1 i))]) (by decide) rfl rfl (Nat.le_of_ble_eq_true rfl) (fun X cx gr hI => ?_)
  refine g_getK cx lkJ0_coder_7d493_38 dJ0_coder_7d493_0 ?_
  refine g_if_eq (tgt := 13) cx dJ0_coder_7d493_3 (by decide) (fun c_1 => absurd c_1 (by decide)) (fun c_1 => ?_)
  refine g_aload_n cx dJ0_coder_7d493_6 0 rfl ?_
  refine g_getCd cx hi lkJ0_coder_7d493_15 dJ0_coder_7d493_7 ?_
  refine g_goto (tgt := 14) cx dJ0_coder_7d493_10 (by decide) ?_
  exact g_zret cx gr rfl (Nat.zero_le _) (Nat.zero_le _) dJ0_coder_7d493_14 ⟨rfl, rfl⟩

abbrev rmJ0_isLatin1_aae02 : Room := { frames := 0, cells := 0, slots := 0, locals := 0 }
theorem hYJ0_isLatin1_aae02 : gY yJ0_isLatin1_aae02 wsJ0_isLatin1_aae02 cJ0_isLatin1_aae02 1 (some .boolean) 0 := ⟨⟨_, rfl⟩, by decide +kernel, by decide +kernel, by decide +kernel⟩
theorem lkJ0_isLatin1_aae02_38 : Cond.fieldLink RJ0 38 "java/lang/String" "COMPACT_STRINGS" "Z" ∈ wsJ0_isLatin1_aae02 := by decide +kernel
theorem lkJ0_isLatin1_aae02_15 : Cond.fieldLink RJ0 15 "java/lang/String" "coder" "B" ∈ wsJ0_isLatin1_aae02 := by decide +kernel
set_option maxRecDepth 100000 in
set_option maxHeartbeats 4000000 in
theorem c_J0_isLatin1_aae02 (l : Launch) (E : gE) (i : Nat) (hi : i < 12) : cti l yJ0_isLatin1_aae02 wsJ0_isLatin1_aae02 rmJ0_isLatin1_aae02 E [.ref (E.2.2.1 i)] [] (fun r w => r = 1 ∧ w = []) := by
  refine mt_i (cc := cJ0_isLatin1_aae02) (maxL := 1) (ret := some .boolean) (lv0 := [(0, .ref (E.2.2.1 i))]) (by decide) rfl rfl (Nat.le_of_ble_eq_true rfl) (fun X cx gr hI => ?_)
  refine g_getK cx lkJ0_isLatin1_aae02_38 dJ0_isLatin1_aae02_0 ?_
  refine g_if_eq (tgt := 17) cx dJ0_isLatin1_aae02_3 (by decide) (fun c_1 => absurd c_1 (by decide)) (fun c_1 => ?_)
  refine g_aload_n cx dJ0_isLatin1_aae02_6 0 rfl ?_
  refine g_getCd cx hi lkJ0_isLatin1_aae02_15 dJ0_isLatin1_aae02_7 ?_
  refine g_if_ne (tgt := 17) cx dJ0_isLatin1_aae02_10 (by decide) (fun c_2 => absurd (rfl) c_2) (fun c_2 => ?_)
  refine g_iconst (v := 1) cx dJ0_isLatin1_aae02_13 (by decide) ?_
  refine g_goto (tgt := 18) cx dJ0_isLatin1_aae02_14 (by decide) ?_
  exact g_zret cx gr rfl (Nat.zero_le _) (Nat.zero_le _) dJ0_isLatin1_aae02_18 ⟨rfl, rfl⟩

theorem gl_lt : ∀ i, i < 12 → gLen.getD i 0 < 2 ^ 31 := by decide +kernel

abbrev rmJ0_length_8abf5 : Room := { frames := 1, cells := 0, slots := 0, locals := 20 }
theorem hYJ0_length_8abf5 : gY yJ0_length_8abf5 wsJ0_length_8abf5 cJ0_length_8abf5 1 (some .int) 0 := ⟨⟨_, rfl⟩, by decide +kernel, by decide +kernel, by decide +kernel⟩
theorem lkJ0_length_8abf5_9 : Cond.fieldLink RJ0 9 "java/lang/String" "value" "[B" ∈ wsJ0_length_8abf5 := by decide +kernel
set_option maxRecDepth 100000 in
set_option maxHeartbeats 4000000 in
theorem c_J0_length_8abf5 (l : Launch) (E : gE) (i : Nat) (hi : i < 12) : cti l yJ0_length_8abf5 wsJ0_length_8abf5 rmJ0_length_8abf5 E [.ref (E.2.2.1 i)] [] (fun r w => r = nI (gLen.getD i 0) ∧ w = []) := by
  refine mt_i (cc := cJ0_length_8abf5) (maxL := 1) (ret := some .int) (lv0 := [(0, .ref (E.2.2.1 i))]) (by decide) rfl rfl (Nat.le_of_ble_eq_true rfl) (fun X cx gr hI => ?_)
  refine g_aload_n cx dJ0_length_8abf5_0 0 rfl ?_
  refine g_getT cx hi lkJ0_length_8abf5_9 dJ0_length_8abf5_1 ?_
  refine g_tlT cx hi dJ0_length_8abf5_4 ?_
  refine g_aload_n cx dJ0_length_8abf5_5 0 rfl ?_
  refine g_VT (i := i) (rest := [.int (nI (gLen.getD i 0))]) (As := []) cx hi hYJ0_coder_7d493 gJ0_length_8abf5_J0_coder_7d493 (c_J0_coder_7d493 l E i  hi) rfl ⟨Nat.le_of_ble_eq_true rfl, Nat.le_of_ble_eq_true rfl⟩ rfl rfl (Nat.le_of_ble_eq_true rfl) ⟨Nat.le_of_ble_eq_true rfl, Nat.le_of_ble_eq_true rfl⟩ dJ0_length_8abf5_6 ?_
  refine g_ishr cx dJ0_length_8abf5_9 ?_
  exact g_iret cx gr (Nat.zero_le _) (Nat.zero_le _) dJ0_length_8abf5_10 ⟨sc_shr0 (gl_lt i hi), rfl⟩

