abbrev rmJ3_checkIndex_8e157 : Room := { frames := 0, cells := 0, slots := 0, locals := 0 }
theorem hYJ3_checkIndex_8e157 : gY yJ3_checkIndex_8e157 wsJ3_checkIndex_8e157 cJ3_checkIndex_8e157 3 (some .int) 3 := ⟨⟨_, rfl⟩, by decide +kernel, by decide +kernel, by decide +kernel⟩
set_option maxRecDepth 100000 in
set_option maxHeartbeats 4000000 in
theorem c_J3a (l : Launch) (E : gE) (x0 : Int32) (n0 : Int32) (h1 : ¬ x0 < 0) (h2 : x0 < n0) : cti l yJ3_checkIndex_8e157 wsJ3_checkIndex_8e157 rmJ3_checkIndex_8e157 E [.int x0, .int n0, .null] [] (fun r w => r = x0 ∧ w = []) := by
  refine mt_i (cc := cJ3_checkIndex_8e157) (maxL := 3) (ret := some .int) (lv0 := [(0, .int x0), (1, .int n0), (2, .null)]) (by decide) rfl rfl (Nat.le_of_ble_eq_true rfl) (fun X cx gr hI => ?_)
  refine g_iload_n cx dJ3_checkIndex_8e157_0 0 rfl ?_
  refine g_if_lt (tgt := 9) cx dJ3_checkIndex_8e157_1 (by decide) (fun c_1 => absurd c_1 (h1)) (fun c_1 => ?_)
  refine g_iload_n cx dJ3_checkIndex_8e157_4 0 rfl ?_
  refine g_iload_n cx dJ3_checkIndex_8e157_5 1 rfl ?_
  refine g_icmp_lt (tgt := 16) cx dJ3_checkIndex_8e157_6 (by decide) (fun c_2 => ?_) (fun c_2 => absurd (h2) c_2)
  refine g_iload_n cx dJ3_checkIndex_8e157_16 0 rfl ?_
  exact g_iret cx gr (Nat.zero_le _) (Nat.zero_le _) dJ3_checkIndex_8e157_17 ⟨rfl, rfl⟩

set_option maxRecDepth 100000 in
set_option maxHeartbeats 4000000 in
theorem c_J3b (l : Launch) (E : gE) (x0 : Int32) (n0 : Int32) (t9 : Nat) (h1 : ¬ x0 < 0) (h2 : x0 < n0) : cti l yJ3_checkIndex_8e157 wsJ3_checkIndex_8e157 rmJ3_checkIndex_8e157 E [.int x0, .int n0, .ref t9] [] (fun r w => r = x0 ∧ w = []) := by
  refine mt_i (cc := cJ3_checkIndex_8e157) (maxL := 3) (ret := some .int) (lv0 := [(0, .int x0), (1, .int n0), (2, .ref t9)]) (by decide) rfl rfl (Nat.le_of_ble_eq_true rfl) (fun X cx gr hI => ?_)
  refine g_iload_n cx dJ3_checkIndex_8e157_0 0 rfl ?_
  refine g_if_lt (tgt := 9) cx dJ3_checkIndex_8e157_1 (by decide) (fun c_1 => absurd c_1 (h1)) (fun c_1 => ?_)
  refine g_iload_n cx dJ3_checkIndex_8e157_4 0 rfl ?_
  refine g_iload_n cx dJ3_checkIndex_8e157_5 1 rfl ?_
  refine g_icmp_lt (tgt := 16) cx dJ3_checkIndex_8e157_6 (by decide) (fun c_2 => ?_) (fun c_2 => absurd (h2) c_2)
  refine g_iload_n cx dJ3_checkIndex_8e157_16 0 rfl ?_
  exact g_iret cx gr (Nat.zero_le _) (Nat.zero_le _) dJ3_checkIndex_8e157_17 ⟨rfl, rfl⟩

abbrev rmJ0_checkIndex_df160 : Room := { frames := 1, cells := 0, slots := 0, locals := 22 }
theorem hYJ0_checkIndex_df160 : gY yJ0_checkIndex_df160 wsJ0_checkIndex_df160 cJ0_checkIndex_df160 2 (none) 2 := ⟨⟨_, rfl⟩, by decide +kernel, by decide +kernel, by decide +kernel⟩
theorem lkJ0_checkIndex_df160_1053 : Cond.fieldLink RJ0 1053 "jdk/internal/util/Preconditions" "SIOOBE_FORMATTER" "Ljava/util/function/BiFunction;" ∈ wsJ0_checkIndex_df160 := by decide +kernel
set_option maxRecDepth 100000 in
set_option maxHeartbeats 4000000 in
theorem c_J0_checkIndex_df160 (l : Launch) (E : gE) (x0 : Int32) (n0 : Int32) (h1 : ¬ x0 < 0) (h2 : x0 < n0) : ctv l yJ0_checkIndex_df160 wsJ0_checkIndex_df160 rmJ0_checkIndex_df160 E [.int x0, .int n0] [] (fun w => w = []) := by
  refine mt_v (cc := cJ0_checkIndex_df160) (maxL := 2) (ret := none) (lv0 := [(0, .int x0), (1, .int n0)]) (by decide) rfl rfl (Nat.le_of_ble_eq_true rfl) (fun X cx gr hI => ?_)
  refine g_iload_n cx dJ0_checkIndex_df160_0 0 rfl ?_
  refine g_iload_n cx dJ0_checkIndex_df160_1 1 rfl ?_
  refine g_getQ cx lkJ0_checkIndex_df160_1053 dJ0_checkIndex_df160_2 (fun v9 hv => ?_)
  rcases hv with rfl | ⟨t9, rfl⟩
  · refine g_SPi (rest := []) (As := [.int x0, .int n0, .null]) cx hYJ3_checkIndex_8e157 gJ0_checkIndex_df160_J3_checkIndex_8e157 (c_J3a l E x0 n0 h1 h2) ⟨Nat.le_of_ble_eq_true rfl, Nat.le_of_ble_eq_true rfl⟩ rfl rfl (Nat.le_of_ble_eq_true rfl) ⟨Nat.le_of_ble_eq_true rfl, Nat.le_of_ble_eq_true rfl⟩ dJ0_checkIndex_df160_5 ?_
    refine g_pop cx dJ0_checkIndex_df160_8 rfl ?_
    exact g_vret cx gr (Nat.zero_le _) (Nat.zero_le _) dJ0_checkIndex_df160_9 (rfl)
  · refine g_SPi (rest := []) (As := [.int x0, .int n0, .ref t9]) cx hYJ3_checkIndex_8e157 gJ0_checkIndex_df160_J3_checkIndex_8e157 (c_J3b l E x0 n0 t9 h1 h2) ⟨Nat.le_of_ble_eq_true rfl, Nat.le_of_ble_eq_true rfl⟩ rfl rfl (Nat.le_of_ble_eq_true rfl) ⟨Nat.le_of_ble_eq_true rfl, Nat.le_of_ble_eq_true rfl⟩ dJ0_checkIndex_df160_5 ?_
    refine g_pop cx dJ0_checkIndex_df160_8 rfl ?_
    exact g_vret cx gr (Nat.zero_le _) (Nat.zero_le _) dJ0_checkIndex_df160_9 (rfl)

theorem gb_c : ∀ i, i < 12 → ∀ k, k < gLen.getD i 0 → ((((gByt.getD i []).getD k 0) &&& 255).toUInt32 % 65536).toInt32 = (gByt.getD i []).getD k 0 ∧ narrow .char (.int ((gByt.getD i []).getD k 0)) = .int ((gByt.getD i []).getD k 0) := by decide +kernel

abbrev rmJ1_charAt_3b067 : Room := { frames := 2, cells := 0, slots := 0, locals := 43 }
theorem hYJ1_charAt_3b067 : gY yJ1_charAt_3b067 wsJ1_charAt_3b067 cJ1_charAt_3b067 2 (some .char) 2 := ⟨⟨_, rfl⟩, by decide +kernel, by decide +kernel, by decide +kernel⟩
set_option maxRecDepth 100000 in
set_option maxHeartbeats 4000000 in
theorem c_J1_charAt_3b067 (l : Launch) (E : gE) (i : Nat) (K : Nat) (hi : i < 12) (hK : K < gLen.getD i 0) : cti l yJ1_charAt_3b067 wsJ1_charAt_3b067 rmJ1_charAt_3b067 E [.ref (E.2.2.2 i), .int (nI K)] [] (fun r w => r = (gByt.getD i []).getD K 0 ∧ w = []) := by
  refine mt_i (cc := cJ1_charAt_3b067) (maxL := 2) (ret := some .char) (lv0 := [(0, .ref (E.2.2.2 i)), (1, .int (nI K))]) (by decide) rfl rfl (Nat.le_of_ble_eq_true rfl) (fun X cx gr hI => ?_)
  refine g_iload_n cx dJ1_charAt_3b067_0 1 rfl ?_
  refine g_aload_n cx dJ1_charAt_3b067_1 0 rfl ?_
  refine g_tlT cx hi dJ1_charAt_3b067_2 ?_
  refine g_SPv (rest := []) (As := [.int (nI K), .int (nI (gLen.getD i 0))]) cx hYJ0_checkIndex_df160 gJ1_charAt_3b067_J0_checkIndex_df160 (c_J0_checkIndex_df160 l E (nI K) (nI (gLen.getD i 0)) (nI_pos (Nat.lt_trans hK (gl_lt i hi))) (nI_lt hK (gl_lt i hi))) ⟨Nat.le_of_ble_eq_true rfl, Nat.le_of_ble_eq_true rfl⟩ rfl rfl (Nat.le_of_ble_eq_true rfl) ⟨Nat.le_of_ble_eq_true rfl, Nat.le_of_ble_eq_true rfl⟩ dJ1_charAt_3b067_3 ?_
  refine g_aload_n cx dJ1_charAt_3b067_6 0 rfl ?_
  refine g_iload_n cx dJ1_charAt_3b067_7 1 rfl ?_
  refine g_tbT cx hi (vp_in_nI hK (gl_lt i hi)) dJ1_charAt_3b067_8 ?_
  refine g_sipush (v := 255) cx dJ1_charAt_3b067_9 (by decide) ?_
  refine g_iand cx dJ1_charAt_3b067_12 ?_
  refine g_i2c cx dJ1_charAt_3b067_13 ?_
  refine g_top (y := (gByt.getD i []).getD K 0) (by rw [nI_clamp (Nat.lt_trans hK (gl_lt i hi))]; exact (gb_c i hi K hK).1) ?_
  exact g_zret cx gr (gb_c i hi K hK).2 (Nat.zero_le _) (Nat.zero_le _) dJ1_charAt_3b067_14 ⟨rfl, rfl⟩

abbrev rmJ0_charAt_5068e : Room := { frames := 3, cells := 0, slots := 0, locals := 64 }
theorem hYJ0_charAt_5068e : gY yJ0_charAt_5068e wsJ0_charAt_5068e cJ0_charAt_5068e 2 (some .char) 1 := ⟨⟨_, rfl⟩, by decide +kernel, by decide +kernel, by decide +kernel⟩
theorem lkJ0_charAt_5068e_9 : Cond.fieldLink RJ0 9 "java/lang/String" "value" "[B" ∈ wsJ0_charAt_5068e := by decide +kernel
set_option maxRecDepth 100000 in
set_option maxHeartbeats 4000000 in
theorem c_J0_charAt_5068e (l : Launch) (E : gE) (i : Nat) (K : Nat) (hi : i < 12) (hK : K < gLen.getD i 0) : cti l yJ0_charAt_5068e wsJ0_charAt_5068e rmJ0_charAt_5068e E [.ref (E.2.2.1 i), .int (nI K)] [] (fun r w => r = (gByt.getD i []).getD K 0 ∧ w = []) := by
  refine mt_i (cc := cJ0_charAt_5068e) (maxL := 2) (ret := some .char) (lv0 := [(0, .ref (E.2.2.1 i)), (1, .int (nI K))]) (by decide) rfl rfl (Nat.le_of_ble_eq_true rfl) (fun X cx gr hI => ?_)
  refine g_aload_n cx dJ0_charAt_5068e_0 0 rfl ?_
  refine g_VT (i := i) (rest := []) (As := []) cx hi hYJ0_isLatin1_aae02 gJ0_charAt_5068e_J0_isLatin1_aae02 (c_J0_isLatin1_aae02 l E i  hi) rfl ⟨Nat.le_of_ble_eq_true rfl, Nat.le_of_ble_eq_true rfl⟩ rfl rfl (Nat.le_of_ble_eq_true rfl) ⟨Nat.le_of_ble_eq_true rfl, Nat.le_of_ble_eq_true rfl⟩ dJ0_charAt_5068e_1 ?_
  refine g_if_eq (tgt := 16) cx dJ0_charAt_5068e_4 (by decide) (fun c_1 => absurd c_1 (by decide)) (fun c_1 => ?_)
  refine g_aload_n cx dJ0_charAt_5068e_7 0 rfl ?_
  refine g_getT cx hi lkJ0_charAt_5068e_9 dJ0_charAt_5068e_8 ?_
  refine g_iload_n cx dJ0_charAt_5068e_11 1 rfl ?_
  refine g_SPi (rest := []) (As := [.ref (E.2.2.2 i), .int (nI K)]) cx hYJ1_charAt_3b067 gJ0_charAt_5068e_J1_charAt_3b067 (c_J1_charAt_3b067 l E i K hi hK) ⟨Nat.le_of_ble_eq_true rfl, Nat.le_of_ble_eq_true rfl⟩ rfl rfl (Nat.le_of_ble_eq_true rfl) ⟨Nat.le_of_ble_eq_true rfl, Nat.le_of_ble_eq_true rfl⟩ dJ0_charAt_5068e_12 ?_
  exact g_zret cx gr (gb_c i hi K hK).2 (Nat.zero_le _) (Nat.zero_le _) dJ0_charAt_5068e_15 ⟨rfl, rfl⟩
