abbrev Mar : Type := Ter × Ter × Int32 × Int32 × Int32 × Int32 × (Nat → Int64)
abbrev mW (E : gE) (a : Nat → Nat) (c : Cor) (h : Mar) : va_W := [(a 0, .inr (5, [.ref (a 1), .ref (a 2), .ref (a 3), .ref (a 4), .ref (a 5), .int c.2.2.1, .ref (a 6), .int c.2.2.2.2.1, .int h.2.2.1, .int h.2.2.2.1, .int h.2.2.2.2.1, .int h.2.2.2.2.2.1, .ref (a 7), .ref (a 8), .ref (a 9), .ref (a 10)])), (a 1, .inl (gI E, 39, .inl (enc c.1))), (a 2, .inl (gI E, 39, .inl (enc c.2.1))), (a 3, .inl (gI E, 39, .inl (enc h.1))), (a 4, .inl (gI E, 39, .inl (enc h.2.1))), (a 5, .inl (gI E, 7, .inl c.2.2.2.2.2.2.2.2)), (a 6, .inl (gI E, 120, .inl c.2.2.2.1)), (a 7, .inl (gI E, 4, .inl c.2.2.2.2.2.1)), (a 8, .inl (gI E, 4, .inl c.2.2.2.2.2.2.1)), (a 9, .inl (gJ E, 160, .inr (.inl (flatN c.2.2.2.2.2.2.2.1)))), (a 10, .inl (gJ E, 40, .inr (.inl h.2.2.2.2.2.2)))]

abbrev rmX6_in : Room := { frames := 0, cells := 0, slots := 0, locals := 0 }
theorem hYX6_in : gY yX6_in wsX6_in cX6_in 6 (some .boolean) 3 := ⟨⟨_, rfl⟩, by decide +kernel, by decide +kernel, by decide +kernel⟩
set_option maxRecDepth 100000 in
set_option maxHeartbeats 4000000 in
theorem c_X6_in (l : Launch) (E : gE) (v0 : Int64) (a0 : Int64) (b0 : Int64) : cti l yX6_in wsX6_in rmX6_in E [.long v0, .long a0, .long b0] [] (fun r w => r = inL v0 a0 b0 ∧ w = []) := by
  refine mt_i (cc := cX6_in) (maxL := 6) (ret := some .boolean) (lv0 := [(0, .long v0), (2, .long a0), (4, .long b0)]) (by decide) rfl rfl (Nat.le_of_ble_eq_true rfl) (fun X cx gr hI => ?_)
  refine g_lload_n cx dX6_in_0 0 rfl ?_
  refine g_lload_n cx dX6_in_1 1 rfl ?_
  refine g_lc_lt (tgt := 17) cx dX6_in_2 dX6_in_3 (by decide) (fun c_1 => ?_) (fun c_1 => ?_)
  · refine g_iconst (v := 0) cx dX6_in_17 (by decide) ?_
    exact g_zret cx gr rfl (Nat.zero_le _) (Nat.zero_le _) dX6_in_18 ⟨by simp only [inL, c_1, if_true, if_false], rfl⟩
  · refine g_lload_n cx dX6_in_6 0 rfl ?_
    refine g_lload cx dX6_in_7 2 rfl ?_
    refine g_lc_gt (tgt := 17) cx dX6_in_9 dX6_in_10 (by decide) (fun c_2 => ?_) (fun c_2 => ?_)
    · refine g_iconst (v := 0) cx dX6_in_17 (by decide) ?_
      exact g_zret cx gr rfl (Nat.zero_le _) (Nat.zero_le _) dX6_in_18 ⟨by simp only [inL, c_1, c_2, if_true, if_false], rfl⟩
    · refine g_iconst (v := 1) cx dX6_in_13 (by decide) ?_
      refine g_goto (tgt := 18) cx dX6_in_14 (by decide) ?_
      exact g_zret cx gr rfl (Nat.zero_le _) (Nat.zero_le _) dX6_in_18 ⟨by simp only [inL, c_1, c_2, if_true, if_false], rfl⟩

theorem c_X6_inW (l : Launch) (E : gE) (x a b : Int32) (a' b' : Int64) (ha : a' = a.toInt64) (hb : b' = b.toInt64) : ctp l yX6_in wsX6_in rmX6_in E [.long x.toInt64, .long a', .long b'] (isW x a b) := by
  rw [← inL_isW, ← ha, ← hb]
  exact c_X6_in l E _ _ _

abbrev rmX6_isHouse : Room := { frames := 1, cells := 0, slots := 0, locals := 25 }
theorem hYX6_isHouse : gY yX6_isHouse wsX6_isHouse cX6_isHouse 1 (some .boolean) 1 := ⟨⟨_, rfl⟩, by decide +kernel, by decide +kernel, by decide +kernel⟩
theorem m1X6_isHouse_c46 : Cond.constantLong RX6 46 (7) ∈ wsX6_isHouse := by decide +kernel
set_option maxRecDepth 100000 in
set_option maxHeartbeats 4000000 in
theorem c_X6_isHouse (l : Launch) (E : gE) (k0 : Int32) : cti l yX6_isHouse wsX6_isHouse rmX6_isHouse E [.int k0] [] (fun r w => r = isW k0 0 7 ∧ w = []) := by
  refine mt_i (cc := cX6_isHouse) (maxL := 1) (ret := some .boolean) (lv0 := [(0, .int k0)]) (by decide) rfl rfl (Nat.le_of_ble_eq_true rfl) (fun X cx gr hI => ?_)
  refine g_iload_n cx dX6_isHouse_0 0 rfl ?_
  refine g_i2l cx dX6_isHouse_1 ?_
  refine g_lconst (v := 0) cx dX6_isHouse_2 (by decide) ?_
  refine g_ldc2 cx m1X6_isHouse_c46 dX6_isHouse_3 ?_
  refine g_SPi (rest := []) (As := [.long k0.toInt64, .long 0, .long 7]) cx hYX6_in gX6_isHouse_X6_in (c_X6_inW l E k0 0 7 0 7 (by decide) (by decide)) ⟨Nat.le_of_ble_eq_true rfl, Nat.le_of_ble_eq_true rfl⟩ rfl rfl (Nat.le_of_ble_eq_true rfl) ⟨Nat.le_of_ble_eq_true rfl, Nat.le_of_ble_eq_true rfl⟩ dX6_isHouse_6 ?_
  exact g_zret cx gr (by first | rfl | exact isW_bool _ _ _) (Nat.zero_le _) (Nat.zero_le _) dX6_isHouse_9 ⟨by first | rfl | (simp only [if_true, if_false]; done) | simp [], rfl⟩

abbrev rmX6_isTone : Room := { frames := 1, cells := 0, slots := 0, locals := 25 }
theorem hYX6_isTone : gY yX6_isTone wsX6_isTone cX6_isTone 1 (some .boolean) 1 := ⟨⟨_, rfl⟩, by decide +kernel, by decide +kernel, by decide +kernel⟩
theorem m1X6_isTone_c52 : Cond.constantLong RX6 52 (6) ∈ wsX6_isTone := by decide +kernel
set_option maxRecDepth 100000 in
set_option maxHeartbeats 4000000 in
theorem c_X6_isTone (l : Launch) (E : gE) (k0 : Int32) : cti l yX6_isTone wsX6_isTone rmX6_isTone E [.int k0] [] (fun r w => r = isW k0 0 6 ∧ w = []) := by
  refine mt_i (cc := cX6_isTone) (maxL := 1) (ret := some .boolean) (lv0 := [(0, .int k0)]) (by decide) rfl rfl (Nat.le_of_ble_eq_true rfl) (fun X cx gr hI => ?_)
  refine g_iload_n cx dX6_isTone_0 0 rfl ?_
  refine g_i2l cx dX6_isTone_1 ?_
  refine g_lconst (v := 0) cx dX6_isTone_2 (by decide) ?_
  refine g_ldc2 cx m1X6_isTone_c52 dX6_isTone_3 ?_
  refine g_SPi (rest := []) (As := [.long k0.toInt64, .long 0, .long 6]) cx hYX6_in gX6_isTone_X6_in (c_X6_inW l E k0 0 6 0 6 (by decide) (by decide)) ⟨Nat.le_of_ble_eq_true rfl, Nat.le_of_ble_eq_true rfl⟩ rfl rfl (Nat.le_of_ble_eq_true rfl) ⟨Nat.le_of_ble_eq_true rfl, Nat.le_of_ble_eq_true rfl⟩ dX6_isTone_6 ?_
  exact g_zret cx gr (by first | rfl | exact isW_bool _ _ _) (Nat.zero_le _) (Nat.zero_le _) dX6_isTone_9 ⟨by first | rfl | (simp only [if_true, if_false]; done) | simp [], rfl⟩

abbrev rmX6_isKind : Room := { frames := 1, cells := 0, slots := 0, locals := 25 }
theorem hYX6_isKind : gY yX6_isKind wsX6_isKind cX6_isKind 1 (some .boolean) 1 := ⟨⟨_, rfl⟩, by decide +kernel, by decide +kernel, by decide +kernel⟩
theorem m1X6_isKind_c54 : Cond.constantLong RX6 54 (5) ∈ wsX6_isKind := by decide +kernel
set_option maxRecDepth 100000 in
set_option maxHeartbeats 4000000 in
theorem c_X6_isKind (l : Launch) (E : gE) (k0 : Int32) : cti l yX6_isKind wsX6_isKind rmX6_isKind E [.int k0] [] (fun r w => r = isW k0 0 5 ∧ w = []) := by
  refine mt_i (cc := cX6_isKind) (maxL := 1) (ret := some .boolean) (lv0 := [(0, .int k0)]) (by decide) rfl rfl (Nat.le_of_ble_eq_true rfl) (fun X cx gr hI => ?_)
  refine g_iload_n cx dX6_isKind_0 0 rfl ?_
  refine g_i2l cx dX6_isKind_1 ?_
  refine g_lconst (v := 0) cx dX6_isKind_2 (by decide) ?_
  refine g_ldc2 cx m1X6_isKind_c54 dX6_isKind_3 ?_
  refine g_SPi (rest := []) (As := [.long k0.toInt64, .long 0, .long 5]) cx hYX6_in gX6_isKind_X6_in (c_X6_inW l E k0 0 5 0 5 (by decide) (by decide)) ⟨Nat.le_of_ble_eq_true rfl, Nat.le_of_ble_eq_true rfl⟩ rfl rfl (Nat.le_of_ble_eq_true rfl) ⟨Nat.le_of_ble_eq_true rfl, Nat.le_of_ble_eq_true rfl⟩ dX6_isKind_6 ?_
  exact g_zret cx gr (by first | rfl | exact isW_bool _ _ _) (Nat.zero_le _) (Nat.zero_le _) dX6_isKind_9 ⟨by first | rfl | (simp only [if_true, if_false]; done) | simp [], rfl⟩

abbrev rmX6_isAhead : Room := { frames := 1, cells := 0, slots := 0, locals := 25 }
theorem hYX6_isAhead : gY yX6_isAhead wsX6_isAhead cX6_isAhead 1 (some .boolean) 1 := ⟨⟨_, rfl⟩, by decide +kernel, by decide +kernel, by decide +kernel⟩
theorem m1X6_isAhead_c138 : Cond.constantLong RX6 138 (200) ∈ wsX6_isAhead := by decide +kernel
set_option maxRecDepth 100000 in
set_option maxHeartbeats 4000000 in
theorem c_X6_isAhead (l : Launch) (E : gE) (k0 : Int32) : cti l yX6_isAhead wsX6_isAhead rmX6_isAhead E [.int k0] [] (fun r w => r = isW k0 0 200 ∧ w = []) := by
  refine mt_i (cc := cX6_isAhead) (maxL := 1) (ret := some .boolean) (lv0 := [(0, .int k0)]) (by decide) rfl rfl (Nat.le_of_ble_eq_true rfl) (fun X cx gr hI => ?_)
  refine g_iload_n cx dX6_isAhead_0 0 rfl ?_
  refine g_i2l cx dX6_isAhead_1 ?_
  refine g_lconst (v := 0) cx dX6_isAhead_2 (by decide) ?_
  refine g_ldc2 cx m1X6_isAhead_c138 dX6_isAhead_3 ?_
  refine g_SPi (rest := []) (As := [.long k0.toInt64, .long 0, .long 200]) cx hYX6_in gX6_isAhead_X6_in (c_X6_inW l E k0 0 200 0 200 (by decide) (by decide)) ⟨Nat.le_of_ble_eq_true rfl, Nat.le_of_ble_eq_true rfl⟩ rfl rfl (Nat.le_of_ble_eq_true rfl) ⟨Nat.le_of_ble_eq_true rfl, Nat.le_of_ble_eq_true rfl⟩ dX6_isAhead_6 ?_
  exact g_zret cx gr (by first | rfl | exact isW_bool _ _ _) (Nat.zero_le _) (Nat.zero_le _) dX6_isAhead_9 ⟨by first | rfl | (simp only [if_true, if_false]; done) | simp [], rfl⟩

abbrev rmX6_isSoon : Room := { frames := 1, cells := 0, slots := 0, locals := 25 }
theorem hYX6_isSoon : gY yX6_isSoon wsX6_isSoon cX6_isSoon 1 (some .boolean) 1 := ⟨⟨_, rfl⟩, by decide +kernel, by decide +kernel, by decide +kernel⟩
theorem m1X6_isSoon_c162 : Cond.constantLong RX6 162 (60) ∈ wsX6_isSoon := by decide +kernel
set_option maxRecDepth 100000 in
set_option maxHeartbeats 4000000 in
theorem c_X6_isSoon (l : Launch) (E : gE) (k0 : Int32) : cti l yX6_isSoon wsX6_isSoon rmX6_isSoon E [.int k0] [] (fun r w => r = isW k0 1 60 ∧ w = []) := by
  refine mt_i (cc := cX6_isSoon) (maxL := 1) (ret := some .boolean) (lv0 := [(0, .int k0)]) (by decide) rfl rfl (Nat.le_of_ble_eq_true rfl) (fun X cx gr hI => ?_)
  refine g_iload_n cx dX6_isSoon_0 0 rfl ?_
  refine g_i2l cx dX6_isSoon_1 ?_
  refine g_lconst (v := 1) cx dX6_isSoon_2 (by decide) ?_
  refine g_ldc2 cx m1X6_isSoon_c162 dX6_isSoon_3 ?_
  refine g_SPi (rest := []) (As := [.long k0.toInt64, .long 1, .long 60]) cx hYX6_in gX6_isSoon_X6_in (c_X6_inW l E k0 1 60 1 60 (by decide) (by decide)) ⟨Nat.le_of_ble_eq_true rfl, Nat.le_of_ble_eq_true rfl⟩ rfl rfl (Nat.le_of_ble_eq_true rfl) ⟨Nat.le_of_ble_eq_true rfl, Nat.le_of_ble_eq_true rfl⟩ dX6_isSoon_6 ?_
  exact g_zret cx gr (by first | rfl | exact isW_bool _ _ _) (Nat.zero_le _) (Nat.zero_le _) dX6_isSoon_9 ⟨by first | rfl | (simp only [if_true, if_false]; done) | simp [], rfl⟩

abbrev rmX6_isOne : Room := { frames := 1, cells := 0, slots := 0, locals := 25 }
theorem hYX6_isOne : gY yX6_isOne wsX6_isOne cX6_isOne 1 (some .boolean) 1 := ⟨⟨_, rfl⟩, by decide +kernel, by decide +kernel, by decide +kernel⟩
theorem m1X6_isOne_c107 : Cond.constantLong RX6 107 (3) ∈ wsX6_isOne := by decide +kernel
set_option maxRecDepth 100000 in
set_option maxHeartbeats 4000000 in
theorem c_X6_isOne (l : Launch) (E : gE) (k0 : Int32) : cti l yX6_isOne wsX6_isOne rmX6_isOne E [.int k0] [] (fun r w => r = isW k0 0 3 ∧ w = []) := by
  refine mt_i (cc := cX6_isOne) (maxL := 1) (ret := some .boolean) (lv0 := [(0, .int k0)]) (by decide) rfl rfl (Nat.le_of_ble_eq_true rfl) (fun X cx gr hI => ?_)
  refine g_iload_n cx dX6_isOne_0 0 rfl ?_
  refine g_i2l cx dX6_isOne_1 ?_
  refine g_lconst (v := 0) cx dX6_isOne_2 (by decide) ?_
  refine g_ldc2 cx m1X6_isOne_c107 dX6_isOne_3 ?_
  refine g_SPi (rest := []) (As := [.long k0.toInt64, .long 0, .long 3]) cx hYX6_in gX6_isOne_X6_in (c_X6_inW l E k0 0 3 0 3 (by decide) (by decide)) ⟨Nat.le_of_ble_eq_true rfl, Nat.le_of_ble_eq_true rfl⟩ rfl rfl (Nat.le_of_ble_eq_true rfl) ⟨Nat.le_of_ble_eq_true rfl, Nat.le_of_ble_eq_true rfl⟩ dX6_isOne_6 ?_
  exact g_zret cx gr (by first | rfl | exact isW_bool _ _ _) (Nat.zero_le _) (Nat.zero_le _) dX6_isOne_9 ⟨by first | rfl | (simp only [if_true, if_false]; done) | simp [], rfl⟩

abbrev rmX6_isLetter : Room := { frames := 1, cells := 0, slots := 0, locals := 25 }
theorem hYX6_isLetter : gY yX6_isLetter wsX6_isLetter cX6_isLetter 1 (some .boolean) 1 := ⟨⟨_, rfl⟩, by decide +kernel, by decide +kernel, by decide +kernel⟩
theorem m1X6_isLetter_c178 : Cond.constantLong RX6 178 (97) ∈ wsX6_isLetter := by decide +kernel
theorem m1X6_isLetter_c180 : Cond.constantLong RX6 180 (122) ∈ wsX6_isLetter := by decide +kernel
set_option maxRecDepth 100000 in
set_option maxHeartbeats 4000000 in
theorem c_X6_isLetter (l : Launch) (E : gE) (k0 : Int32) : cti l yX6_isLetter wsX6_isLetter rmX6_isLetter E [.int k0] [] (fun r w => r = isW k0 97 122 ∧ w = []) := by
  refine mt_i (cc := cX6_isLetter) (maxL := 1) (ret := some .boolean) (lv0 := [(0, .int k0)]) (by decide) rfl rfl (Nat.le_of_ble_eq_true rfl) (fun X cx gr hI => ?_)
  refine g_iload_n cx dX6_isLetter_0 0 rfl ?_
  refine g_i2l cx dX6_isLetter_1 ?_
  refine g_ldc2 cx m1X6_isLetter_c178 dX6_isLetter_2 ?_
  refine g_ldc2 cx m1X6_isLetter_c180 dX6_isLetter_5 ?_
  refine g_SPi (rest := []) (As := [.long k0.toInt64, .long 97, .long 122]) cx hYX6_in gX6_isLetter_X6_in (c_X6_inW l E k0 97 122 97 122 (by decide) (by decide)) ⟨Nat.le_of_ble_eq_true rfl, Nat.le_of_ble_eq_true rfl⟩ rfl rfl (Nat.le_of_ble_eq_true rfl) ⟨Nat.le_of_ble_eq_true rfl, Nat.le_of_ble_eq_true rfl⟩ dX6_isLetter_8 ?_
  exact g_zret cx gr (by first | rfl | exact isW_bool _ _ _) (Nat.zero_le _) (Nat.zero_le _) dX6_isLetter_11 ⟨by first | rfl | (simp only [if_true, if_false]; done) | simp [], rfl⟩

abbrev rmX6_isDigit : Room := { frames := 1, cells := 0, slots := 0, locals := 25 }
theorem hYX6_isDigit : gY yX6_isDigit wsX6_isDigit cX6_isDigit 1 (some .boolean) 1 := ⟨⟨_, rfl⟩, by decide +kernel, by decide +kernel, by decide +kernel⟩
theorem m1X6_isDigit_c182 : Cond.constantLong RX6 182 (48) ∈ wsX6_isDigit := by decide +kernel
theorem m1X6_isDigit_c184 : Cond.constantLong RX6 184 (57) ∈ wsX6_isDigit := by decide +kernel
set_option maxRecDepth 100000 in
set_option maxHeartbeats 4000000 in
theorem c_X6_isDigit (l : Launch) (E : gE) (k0 : Int32) : cti l yX6_isDigit wsX6_isDigit rmX6_isDigit E [.int k0] [] (fun r w => r = isW k0 48 57 ∧ w = []) := by
  refine mt_i (cc := cX6_isDigit) (maxL := 1) (ret := some .boolean) (lv0 := [(0, .int k0)]) (by decide) rfl rfl (Nat.le_of_ble_eq_true rfl) (fun X cx gr hI => ?_)
  refine g_iload_n cx dX6_isDigit_0 0 rfl ?_
  refine g_i2l cx dX6_isDigit_1 ?_
  refine g_ldc2 cx m1X6_isDigit_c182 dX6_isDigit_2 ?_
  refine g_ldc2 cx m1X6_isDigit_c184 dX6_isDigit_5 ?_
  refine g_SPi (rest := []) (As := [.long k0.toInt64, .long 48, .long 57]) cx hYX6_in gX6_isDigit_X6_in (c_X6_inW l E k0 48 57 48 57 (by decide) (by decide)) ⟨Nat.le_of_ble_eq_true rfl, Nat.le_of_ble_eq_true rfl⟩ rfl rfl (Nat.le_of_ble_eq_true rfl) ⟨Nat.le_of_ble_eq_true rfl, Nat.le_of_ble_eq_true rfl⟩ dX6_isDigit_8 ?_
  exact g_zret cx gr (by first | rfl | exact isW_bool _ _ _) (Nat.zero_le _) (Nat.zero_le _) dX6_isDigit_11 ⟨by first | rfl | (simp only [if_true, if_false]; done) | simp [], rfl⟩

abbrev rmX6_spotOf : Room := { frames := 0, cells := 0, slots := 0, locals := 0 }
theorem hYX6_spotOf : gY yX6_spotOf wsX6_spotOf cX6_spotOf 2 (some .int) 2 := ⟨⟨_, rfl⟩, by decide +kernel, by decide +kernel, by decide +kernel⟩
set_option maxRecDepth 100000 in
set_option maxHeartbeats 4000000 in
theorem c_X6_spotOf (l : Launch) (E : gE) (h0 : Int32) (w0 : Int32) : cti l yX6_spotOf wsX6_spotOf rmX6_spotOf E [.int h0, .int w0] [] (fun r w => r = spot h0 w0 ∧ w = []) := by
  refine mt_i (cc := cX6_spotOf) (maxL := 2) (ret := some .int) (lv0 := [(0, .int h0), (1, .int w0)]) (by decide) rfl rfl (Nat.le_of_ble_eq_true rfl) (fun X cx gr hI => ?_)
  refine g_bipush (v := 7) cx dX6_spotOf_0 (by decide) ?_
  refine g_iconst (v := 4) cx dX6_spotOf_2 (by decide) ?_
  refine g_iload_n cx dX6_spotOf_3 0 rfl ?_
  refine g_imul cx dX6_spotOf_4 ?_
  refine g_iadd cx dX6_spotOf_5 ?_
  refine g_iload_n cx dX6_spotOf_6 1 rfl ?_
  refine g_iadd cx dX6_spotOf_7 ?_
  exact g_iret cx gr (Nat.zero_le _) (Nat.zero_le _) dX6_spotOf_8 ⟨by first | rfl | (simp only [if_true, if_false]; done) | simp [], rfl⟩

abbrev rmX6_heldTo : Room := { frames := 0, cells := 0, slots := 0, locals := 0 }
theorem hYX6_heldTo : gY yX6_heldTo wsX6_heldTo cX6_heldTo 2 (some .int) 2 := ⟨⟨_, rfl⟩, by decide +kernel, by decide +kernel, by decide +kernel⟩
set_option maxRecDepth 100000 in
set_option maxHeartbeats 4000000 in
theorem c_X6_heldTo (l : Launch) (E : gE) (v0 : Int32) (h0 : Int32) : cti l yX6_heldTo wsX6_heldTo rmX6_heldTo E [.int v0, .int h0] [] (fun r w => r = minI h0 v0 ∧ w = []) := by
  refine mt_i (cc := cX6_heldTo) (maxL := 2) (ret := some .int) (lv0 := [(0, .int v0), (1, .int h0)]) (by decide) rfl rfl (Nat.le_of_ble_eq_true rfl) (fun X cx gr hI => ?_)
  refine g_iload_n cx dX6_heldTo_0 0 rfl ?_
  refine g_iload_n cx dX6_heldTo_1 1 rfl ?_
  refine g_icmp_le (tgt := 9) cx dX6_heldTo_2 (by decide) (fun c_1 => ?_) (fun c_1 => ?_)
  · refine g_iload_n cx dX6_heldTo_9 0 rfl ?_
    exact g_iret cx gr (Nat.zero_le _) (Nat.zero_le _) dX6_heldTo_10 ⟨by exact (min_le c_1).symm, rfl⟩
  · refine g_iload_n cx dX6_heldTo_5 1 rfl ?_
    refine g_goto (tgt := 10) cx dX6_heldTo_6 (by decide) ?_
    exact g_iret cx gr (Nat.zero_le _) (Nat.zero_le _) dX6_heldTo_10 ⟨by exact (min_gt c_1).symm, rfl⟩

abbrev rmX6_atLeastNothing : Room := { frames := 0, cells := 0, slots := 0, locals := 0 }
theorem hYX6_atLeastNothing : gY yX6_atLeastNothing wsX6_atLeastNothing cX6_atLeastNothing 1 (some .int) 1 := ⟨⟨_, rfl⟩, by decide +kernel, by decide +kernel, by decide +kernel⟩
set_option maxRecDepth 100000 in
set_option maxHeartbeats 4000000 in
theorem c_X6_atLeastNothing (l : Launch) (E : gE) (v0 : Int32) : cti l yX6_atLeastNothing wsX6_atLeastNothing rmX6_atLeastNothing E [.int v0] [] (fun r w => r = maxI 0 v0 ∧ w = []) := by
  refine mt_i (cc := cX6_atLeastNothing) (maxL := 1) (ret := some .int) (lv0 := [(0, .int v0)]) (by decide) rfl rfl (Nat.le_of_ble_eq_true rfl) (fun X cx gr hI => ?_)
  refine g_iload_n cx dX6_atLeastNothing_0 0 rfl ?_
  refine g_if_ge (tgt := 8) cx dX6_atLeastNothing_1 (by decide) (fun c_1 => ?_) (fun c_1 => ?_)
  · refine g_iload_n cx dX6_atLeastNothing_8 0 rfl ?_
    exact g_iret cx gr (Nat.zero_le _) (Nat.zero_le _) dX6_atLeastNothing_9 ⟨by exact (max_ge c_1).symm, rfl⟩
  · refine g_iconst (v := 0) cx dX6_atLeastNothing_4 (by decide) ?_
    refine g_goto (tgt := 9) cx dX6_atLeastNothing_5 (by decide) ?_
    exact g_iret cx gr (Nat.zero_le _) (Nat.zero_le _) dX6_atLeastNothing_9 ⟨by exact (max_lt c_1).symm, rfl⟩

abbrev rmX6_isHis : Room := { frames := 2, cells := 0, slots := 0, locals := 45 }
theorem hYX6_isHis : gY yX6_isHis wsX6_isHis cX6_isHis 2 (some .boolean) 2 := ⟨⟨_, rfl⟩, by decide +kernel, by decide +kernel, by decide +kernel⟩
theorem m1X6_isHis_c60 : Cond.constantLong RX6 60 (999) ∈ wsX6_isHis := by decide +kernel
theorem m1X6_isHis_c62 : Cond.constantLong RX6 62 (-1) ∈ wsX6_isHis := by decide +kernel
theorem m1X6_isHis_c52 : Cond.constantLong RX6 52 (6) ∈ wsX6_isHis := by decide +kernel
theorem m1X6_isHis_c64 : Cond.constantLong RX6 64 (99) ∈ wsX6_isHis := by decide +kernel
set_option maxRecDepth 100000 in
set_option maxHeartbeats 4000000 in
theorem c_X6_isHis (l : Launch) (E : gE) (w0 : Int32) (v0 : Int32) : cti l yX6_isHis wsX6_isHis rmX6_isHis E [.int w0, .int v0] [] (fun r w => r = isHis w0 v0 ∧ w = []) := by
  refine mt_i (cc := cX6_isHis) (maxL := 2) (ret := some .boolean) (lv0 := [(0, .int w0), (1, .int v0)]) (by decide) rfl rfl (Nat.le_of_ble_eq_true rfl) (fun X cx gr hI => ?_)
  refine g_iload_n cx dX6_isHis_0 0 rfl ?_
  refine g_tsw cx dX6_isHis_1 67 (by decide) (fun j hj cs_1 => ?_) (fun cs_1 => ?_)
  · rcases j with _ | _ | _ | _ | j
    · refine ⟨_, 32, rfl, by decide, ?_⟩
      have cs_1 : w0 = 0 := Int32.toInt_inj.mp (cs_1.trans (by decide))
      refine g_iload_n cx dX6_isHis_32 1 rfl ?_
      refine g_SPi (rest := []) (As := [.int v0]) cx hYX6_isHouse gX6_isHis_X6_isHouse (c_X6_isHouse l E v0 ) ⟨Nat.le_of_ble_eq_true rfl, Nat.le_of_ble_eq_true rfl⟩ rfl rfl (Nat.le_of_ble_eq_true rfl) ⟨Nat.le_of_ble_eq_true rfl, Nat.le_of_ble_eq_true rfl⟩ dX6_isHis_33 ?_
      exact g_zret cx gr (by first | rfl | exact isW_bool _ _ _) (Nat.zero_le _) (Nat.zero_le _) dX6_isHis_36 ⟨by first | rfl | (simp only [isHis, cs_1, if_true, if_false]; done) | simp [isHis, cs_1], rfl⟩
    · refine ⟨_, 37, rfl, by decide, ?_⟩
      have cs_1 : w0 = 1 := Int32.toInt_inj.mp (cs_1.trans (by decide))
      refine g_iload_n cx dX6_isHis_37 1 rfl ?_
      refine g_i2l cx dX6_isHis_38 ?_
      refine g_lconst (v := 0) cx dX6_isHis_39 (by decide) ?_
      refine g_lconst (v := 1) cx dX6_isHis_40 (by decide) ?_
      refine g_SPi (rest := []) (As := [.long v0.toInt64, .long 0, .long 1]) cx hYX6_in gX6_isHis_X6_in (c_X6_inW l E v0 0 1 0 1 (by decide) (by decide)) ⟨Nat.le_of_ble_eq_true rfl, Nat.le_of_ble_eq_true rfl⟩ rfl rfl (Nat.le_of_ble_eq_true rfl) ⟨Nat.le_of_ble_eq_true rfl, Nat.le_of_ble_eq_true rfl⟩ dX6_isHis_41 ?_
      exact g_zret cx gr (by first | rfl | exact isW_bool _ _ _) (Nat.zero_le _) (Nat.zero_le _) dX6_isHis_44 ⟨by first | rfl | (simp only [isHis, cs_1, if_true, if_false]; done) | simp [isHis, cs_1], rfl⟩
    · refine ⟨_, 45, rfl, by decide, ?_⟩
      have cs_1 : w0 = 2 := Int32.toInt_inj.mp (cs_1.trans (by decide))
      refine g_iload_n cx dX6_isHis_45 1 rfl ?_
      refine g_i2l cx dX6_isHis_46 ?_
      refine g_lconst (v := 0) cx dX6_isHis_47 (by decide) ?_
      refine g_ldc2 cx m1X6_isHis_c60 dX6_isHis_48 ?_
      refine g_SPi (rest := []) (As := [.long v0.toInt64, .long 0, .long 999]) cx hYX6_in gX6_isHis_X6_in (c_X6_inW l E v0 0 999 0 999 (by decide) (by decide)) ⟨Nat.le_of_ble_eq_true rfl, Nat.le_of_ble_eq_true rfl⟩ rfl rfl (Nat.le_of_ble_eq_true rfl) ⟨Nat.le_of_ble_eq_true rfl, Nat.le_of_ble_eq_true rfl⟩ dX6_isHis_51 ?_
      exact g_zret cx gr (by first | rfl | exact isW_bool _ _ _) (Nat.zero_le _) (Nat.zero_le _) dX6_isHis_54 ⟨by first | rfl | (simp only [isHis, cs_1, if_true, if_false]; done) | simp [isHis, cs_1], rfl⟩
    · refine ⟨_, 55, rfl, by decide, ?_⟩
      have cs_1 : w0 = 3 := Int32.toInt_inj.mp (cs_1.trans (by decide))
      refine g_iload_n cx dX6_isHis_55 1 rfl ?_
      refine g_i2l cx dX6_isHis_56 ?_
      refine g_ldc2 cx m1X6_isHis_c62 dX6_isHis_57 ?_
      refine g_ldc2 cx m1X6_isHis_c52 dX6_isHis_60 ?_
      refine g_SPi (rest := []) (As := [.long v0.toInt64, .long (-1), .long 6]) cx hYX6_in gX6_isHis_X6_in (c_X6_inW l E v0 (-1) 6 (-1) 6 (by decide) (by decide)) ⟨Nat.le_of_ble_eq_true rfl, Nat.le_of_ble_eq_true rfl⟩ rfl rfl (Nat.le_of_ble_eq_true rfl) ⟨Nat.le_of_ble_eq_true rfl, Nat.le_of_ble_eq_true rfl⟩ dX6_isHis_63 ?_
      exact g_zret cx gr (by first | rfl | exact isW_bool _ _ _) (Nat.zero_le _) (Nat.zero_le _) dX6_isHis_66 ⟨by first | rfl | (simp only [isHis, cs_1, if_true, if_false]; done) | simp [isHis, cs_1], rfl⟩
    · exact absurd hj (by omega)
  · have hsx := cs_1
    have cs_1_0 : ¬ w0 = 0 := sw_ne cs_1 (by decide)
    have cs_1_1 : ¬ w0 = 1 := sw_ne cs_1 (by decide)
    have cs_1_2 : ¬ w0 = 2 := sw_ne cs_1 (by decide)
    have cs_1_3 : ¬ w0 = 3 := sw_ne cs_1 (by decide)
    refine g_iload_n cx dX6_isHis_67 0 rfl ?_
    refine g_iconst (v := 4) cx dX6_isHis_68 (by decide) ?_
    refine g_icmp_ne (tgt := 88) cx dX6_isHis_69 (by decide) (fun c_2 => ?_) (fun c_2 => ?_)
    · refine g_iconst (v := 0) cx dX6_isHis_88 (by decide) ?_
      exact g_zret cx gr (by first | rfl | exact isW_bool _ _ _) (Nat.zero_le _) (Nat.zero_le _) dX6_isHis_89 ⟨by first | rfl | (simp only [isHis, cs_1_0, cs_1_1, cs_1_2, cs_1_3, c_2, if_true, if_false]; done) | simp [isHis, cs_1_0, cs_1_1, cs_1_2, cs_1_3, c_2], rfl⟩
    · refine g_iload_n cx dX6_isHis_72 1 rfl ?_
      refine g_i2l cx dX6_isHis_73 ?_
      refine g_lconst (v := 0) cx dX6_isHis_74 (by decide) ?_
      refine g_ldc2 cx m1X6_isHis_c64 dX6_isHis_75 ?_
      refine g_SPi (rest := []) (As := [.long v0.toInt64, .long 0, .long 99]) cx hYX6_in gX6_isHis_X6_in (c_X6_inW l E v0 0 99 0 99 (by decide) (by decide)) ⟨Nat.le_of_ble_eq_true rfl, Nat.le_of_ble_eq_true rfl⟩ rfl rfl (Nat.le_of_ble_eq_true rfl) ⟨Nat.le_of_ble_eq_true rfl, Nat.le_of_ble_eq_true rfl⟩ dX6_isHis_78 ?_
      refine g_if_eq (tgt := 88) cx dX6_isHis_81 (by decide) (fun c_3 => ?_) (fun c_3 => ?_)
      · refine g_iconst (v := 0) cx dX6_isHis_88 (by decide) ?_
        exact g_zret cx gr (by first | rfl | exact isW_bool _ _ _) (Nat.zero_le _) (Nat.zero_le _) dX6_isHis_89 ⟨by first | rfl | (simp only [isHis, cs_1_0, cs_1_1, cs_1_2, cs_1_3, c_2, c_3, if_true, if_false]; done) | simp [isHis, cs_1_0, cs_1_1, cs_1_2, cs_1_3, c_2, c_3], rfl⟩
      · refine g_iconst (v := 1) cx dX6_isHis_84 (by decide) ?_
        refine g_goto (tgt := 89) cx dX6_isHis_85 (by decide) ?_
        exact g_zret cx gr (by first | rfl | exact isW_bool _ _ _) (Nat.zero_le _) (Nat.zero_le _) dX6_isHis_89 ⟨by first | rfl | (simp only [isHis, cs_1_0, cs_1_1, cs_1_2, cs_1_3, c_2, c_3, if_true, if_false]; done) | simp [isHis, cs_1_0, cs_1_1, cs_1_2, cs_1_3, c_2, c_3], rfl⟩

abbrev rmX6_its : Room := { frames := 1, cells := 0, slots := 0, locals := 21 }
theorem hYX6_its : gY yX6_its wsX6_its cX6_its 3 (some .int) 2 := ⟨⟨_, rfl⟩, by decide +kernel, by decide +kernel, by decide +kernel⟩
theorem iwX6_its_X6 : ∀ w ∈ u_ws RX6 TX6 16, w ∈ wsX6_its := by decide +kernel
theorem lkX6_its_7 : Cond.fieldLink RX6 7 "MuffinBellsModel" "s" "[I" ∈ wsX6_its := by decide +kernel
set_option maxRecDepth 100000 in
set_option maxHeartbeats 4000000 in
theorem c_X6_its (l : Launch) (E : gE) (a : Nat → Nat) (c : Cor) (h : Mar) (h0 : Int32) (w0 : Int32) (hh : vp_in (spot h0 w0) 39) : cti l yX6_its wsX6_its rmX6_its E [.ref (a 0), .int h0, .int w0] (mW E a c h) (fun r w => r = enc c.1 (spot h0 w0).toNatClampNeg ∧ w = (mW E a c h)) := by
  refine mt_i (cc := cX6_its) (maxL := 3) (ret := some .int) (lv0 := [(0, .ref (a 0)), (1, .int h0), (2, .int w0)]) (by decide) rfl rfl (Nat.le_of_ble_eq_true rfl) (fun X cx gr hI => ?_)
  refine g_aload_n cx dX6_its_0 0 rfl ?_
  refine g_get (C := RX6) (T := TX6) (N := 16) (v := .ref (a 1)) cx iwX6_its_X6 0 0 rfl rfl (by decide) lkX6_its_7 rfl dX6_its_1 ?_
  refine g_iload_n cx dX6_its_4 1 rfl ?_
  refine g_iload_n cx dX6_its_5 2 rfl ?_
  refine g_SPi (rest := [.ref (a 1)]) (As := [.int h0, .int w0]) cx hYX6_spotOf gX6_its_X6_spotOf (c_X6_spotOf l E h0 w0 ) ⟨Nat.le_of_ble_eq_true rfl, Nat.le_of_ble_eq_true rfl⟩ rfl rfl (Nat.le_of_ble_eq_true rfl) ⟨Nat.le_of_ble_eq_true rfl, Nat.le_of_ble_eq_true rfl⟩ dX6_its_6 ?_
  refine g_iald cx 1 rfl rfl hh dX6_its_9 ?_
  exact g_iret cx gr (Nat.zero_le _) (Nat.zero_le _) dX6_its_10 ⟨rfl, rfl⟩

theorem c_X6_its0 (l : Launch) (E : gE) (a : Nat → Nat) (c : Cor) (h : Mar) (h0 : Int32) (hh : vp_in h0 8) : cti l yX6_its wsX6_its rmX6_its E [.ref (a 0), .int h0, .int 0] (mW E a c h) (fun r w => r = c.1.2.2.2.2.2.2.2.1 h0.toNatClampNeg ∧ w = mW E a c h) := by
  have q := c_X6_its l E a c h h0 0 (si_K hh)
  rw [sp_K hh] at q
  exact q

theorem c_X6_its1 (l : Launch) (E : gE) (a : Nat → Nat) (c : Cor) (h : Mar) (h0 : Int32) (hh : vp_in h0 8) : cti l yX6_its wsX6_its rmX6_its E [.ref (a 0), .int h0, .int 1] (mW E a c h) (fun r w => r = c.1.2.2.2.2.2.2.2.2.1 h0.toNatClampNeg ∧ w = mW E a c h) := by
  have q := c_X6_its l E a c h h0 1 (si_M hh)
  rw [sp_M hh] at q
  exact q

theorem c_X6_its2 (l : Launch) (E : gE) (a : Nat → Nat) (c : Cor) (h : Mar) (h0 : Int32) (hh : vp_in h0 8) : cti l yX6_its wsX6_its rmX6_its E [.ref (a 0), .int h0, .int 2] (mW E a c h) (fun r w => r = c.1.2.2.2.2.2.2.2.2.2.1 h0.toNatClampNeg ∧ w = mW E a c h) := by
  have q := c_X6_its l E a c h h0 2 (si_P hh)
  rw [sp_P hh] at q
  exact q

theorem c_X6_its3 (l : Launch) (E : gE) (a : Nat → Nat) (c : Cor) (h : Mar) (h0 : Int32) (hh : vp_in h0 8) : cti l yX6_its wsX6_its rmX6_its E [.ref (a 0), .int h0, .int 3] (mW E a c h) (fun r w => r = c.1.2.2.2.2.2.2.2.2.2.2 h0.toNatClampNeg ∧ w = mW E a c h) := by
  have q := c_X6_its l E a c h h0 3 (si_A hh)
  rw [sp_A hh] at q
  exact q

abbrev rmX6_becomes : Room := { frames := 0, cells := 0, slots := 0, locals := 0 }
theorem hYX6_becomes : gY yX6_becomes wsX6_becomes cX6_becomes 4 (some .int) 2 := ⟨⟨_, rfl⟩, by decide +kernel, by decide +kernel, by decide +kernel⟩
theorem iwX6_becomes_X6 : ∀ w ∈ u_ws RX6 TX6 16, w ∈ wsX6_becomes := by decide +kernel
theorem lkX6_becomes_7 : Cond.fieldLink RX6 7 "MuffinBellsModel" "s" "[I" ∈ wsX6_becomes := by decide +kernel
set_option maxRecDepth 100000 in
set_option maxHeartbeats 4000000 in
theorem c_X6_becomes (l : Launch) (E : gE) (a : Nat → Nat) (c : Cor) (h : Mar) (w0 : Int32) (v0 : Int32) (hw : vp_in w0 39) : cti l yX6_becomes wsX6_becomes rmX6_becomes E [.ref (a 0), .int w0, .int v0] (mW E a c h) (fun r w => r = enc c.1 w0.toNatClampNeg ∧ w = (mW E a ((tPut c.1 w0.toNatClampNeg v0), c.2.1, c.2.2.1, c.2.2.2.1, c.2.2.2.2.1, c.2.2.2.2.2.1, c.2.2.2.2.2.2.1, c.2.2.2.2.2.2.2.1, c.2.2.2.2.2.2.2.2) h)) := by
  refine mt_i (cc := cX6_becomes) (maxL := 4) (ret := some .int) (lv0 := [(0, .ref (a 0)), (1, .int w0), (2, .int v0)]) (by decide) rfl rfl (Nat.le_of_ble_eq_true rfl) (fun X cx gr hI => ?_)
  refine g_aload_n cx dX6_becomes_0 0 rfl ?_
  refine g_get (C := RX6) (T := TX6) (N := 16) (v := .ref (a 1)) cx iwX6_becomes_X6 0 0 rfl rfl (by decide) lkX6_becomes_7 rfl dX6_becomes_1 ?_
  refine g_iload_n cx dX6_becomes_4 1 rfl ?_
  refine g_iald cx 1 rfl rfl hw dX6_becomes_5 ?_
  refine g_istore_n (lv' := [(3, .int ((enc c.1) (w0.toNatClampNeg))), (0, .ref (a 0)), (1, .int w0), (2, .int v0)]) cx dX6_becomes_6 (by decide) rfl ?_
  refine g_aload_n cx dX6_becomes_7 1 rfl ?_
  refine g_get (C := RX6) (T := TX6) (N := 16) (v := .ref (a 1)) cx iwX6_becomes_X6 0 0 rfl rfl (by decide) lkX6_becomes_7 rfl dX6_becomes_8 ?_
  refine g_iload_n cx dX6_becomes_11 2 rfl ?_
  refine g_iload_n cx dX6_becomes_12 3 rfl ?_
  refine g_iast (ws' := (mW E a ((tPut c.1 w0.toNatClampNeg v0), c.2.1, c.2.2.1, c.2.2.2.1, c.2.2.2.2.1, c.2.2.2.2.2.1, c.2.2.2.2.2.2.1, c.2.2.2.2.2.2.2.1, c.2.2.2.2.2.2.2.2) h)) cx 1 rfl rfl hw dX6_becomes_13 (congrArg (fun f => List.set (mW E a c h) 1 (a 1, .inl (gI E, 39, .inl f))) (enc_put c.1 w0.toNatClampNeg v0)) ?_
  refine g_iload_n cx dX6_becomes_14 0 rfl ?_
  exact g_iret cx gr (Nat.zero_le _) (Nat.zero_le _) dX6_becomes_15 ⟨rfl, rfl⟩

abbrev rmX6_finds : Room := { frames := 0, cells := 0, slots := 0, locals := 0 }
theorem hYX6_finds : gY yX6_finds wsX6_finds cX6_finds 2 (some .int) 1 := ⟨⟨_, rfl⟩, by decide +kernel, by decide +kernel, by decide +kernel⟩
theorem iwX6_finds_X6 : ∀ w ∈ u_ws RX6 TX6 16, w ∈ wsX6_finds := by decide +kernel
theorem lkX6_finds_22 : Cond.fieldLink RX6 22 "MuffinBellsModel" "statuses" "[I" ∈ wsX6_finds := by decide +kernel
theorem m1X6_finds_c45 : Cond.constant RX6 45 (-1000000001) ∈ wsX6_finds := by decide +kernel
set_option maxRecDepth 100000 in
set_option maxHeartbeats 4000000 in
theorem c_X6_finds (l : Launch) (E : gE) (a : Nat → Nat) (c : Cor) (h : Mar) (f0 : Int32) (hf : vp_in (-1000000001 - f0) 7) : cti l yX6_finds wsX6_finds rmX6_finds E [.ref (a 0), .int f0] (mW E a c h) (fun r w => r = f0 ∧ w = (mW E a (c.1, c.2.1, c.2.2.1, c.2.2.2.1, c.2.2.2.2.1, c.2.2.2.2.2.1, c.2.2.2.2.2.2.1, c.2.2.2.2.2.2.2.1, bump f0 c.2.2.2.2.2.2.2.2) h)) := by
  refine mt_i (cc := cX6_finds) (maxL := 2) (ret := some .int) (lv0 := [(0, .ref (a 0)), (1, .int f0)]) (by decide) rfl rfl (Nat.le_of_ble_eq_true rfl) (fun X cx gr hI => ?_)
  refine g_aload_n cx dX6_finds_0 0 rfl ?_
  refine g_get (C := RX6) (T := TX6) (N := 16) (v := .ref (a 5)) cx iwX6_finds_X6 0 4 rfl rfl (by decide) lkX6_finds_22 rfl dX6_finds_1 ?_
  refine g_ldc cx m1X6_finds_c45 dX6_finds_4 ?_
  refine g_iload_n cx dX6_finds_6 1 rfl ?_
  refine g_isub cx dX6_finds_7 ?_
  refine g_dup2 cx dX6_finds_8 rfl rfl ?_
  refine g_iald cx 5 rfl rfl hf dX6_finds_9 ?_
  refine g_iconst (v := 1) cx dX6_finds_10 (by decide) ?_
  refine g_iadd cx dX6_finds_11 ?_
  refine g_iast (ws' := (mW E a (c.1, c.2.1, c.2.2.1, c.2.2.2.1, c.2.2.2.2.1, c.2.2.2.2.2.1, c.2.2.2.2.2.2.1, c.2.2.2.2.2.2.2.1, upd c.2.2.2.2.2.2.2.2 ((-1000000001) - f0).toNatClampNeg ((c.2.2.2.2.2.2.2.2 (((-1000000001) - f0).toNatClampNeg)) + 1)) h)) cx 5 rfl rfl hf dX6_finds_12 rfl ?_
  refine g_iload_n cx dX6_finds_13 1 rfl ?_
  exact g_iret cx gr (Nat.zero_le _) (Nat.zero_le _) dX6_finds_14 ⟨rfl, rfl⟩

abbrev rmX6_isResting : Room := { frames := 0, cells := 0, slots := 0, locals := 0 }
theorem hYX6_isResting : gY yX6_isResting wsX6_isResting cX6_isResting 1 (some .boolean) 0 := ⟨⟨_, rfl⟩, by decide +kernel, by decide +kernel, by decide +kernel⟩
theorem iwX6_isResting_X6 : ∀ w ∈ u_ws RX6 TX6 16, w ∈ wsX6_isResting := by decide +kernel
theorem lkX6_isResting_7 : Cond.fieldLink RX6 7 "MuffinBellsModel" "s" "[I" ∈ wsX6_isResting := by decide +kernel
set_option maxRecDepth 100000 in
set_option maxHeartbeats 4000000 in
theorem c_X6_isResting (l : Launch) (E : gE) (a : Nat → Nat) (c : Cor) (h : Mar) : cti l yX6_isResting wsX6_isResting rmX6_isResting E [.ref (a 0)] (mW E a c h) (fun r w => r = sRest c.1.1 ∧ w = (mW E a c h)) := by
  refine mt_i (cc := cX6_isResting) (maxL := 1) (ret := some .boolean) (lv0 := [(0, .ref (a 0))]) (by decide) rfl rfl (Nat.le_of_ble_eq_true rfl) (fun X cx gr hI => ?_)
  refine g_aload_n cx dX6_isResting_0 0 rfl ?_
  refine g_get (C := RX6) (T := TX6) (N := 16) (v := .ref (a 1)) cx iwX6_isResting_X6 0 0 rfl rfl (by decide) lkX6_isResting_7 rfl dX6_isResting_1 ?_
  refine g_iconst (v := 0) cx dX6_isResting_4 (by decide) ?_
  refine g_iald cx 1 rfl rfl (by unfold vp_in; decide +kernel) dX6_isResting_5 ?_
  refine g_top (y := c.1.1) (rfl) ?_
  refine g_iconst (v := 5) cx dX6_isResting_6 (by decide) ?_
  refine g_irem cx dX6_isResting_7 (by decide) ?_
  refine g_iconst (v := 4) cx dX6_isResting_8 (by decide) ?_
  refine g_icmp_ne (tgt := 16) cx dX6_isResting_9 (by decide) (fun c_1 => ?_) (fun c_1 => ?_)
  · refine g_iconst (v := 0) cx dX6_isResting_16 (by decide) ?_
    exact g_zret cx gr rfl (Nat.zero_le _) (Nat.zero_le _) dX6_isResting_17 ⟨by simp only [sRest, c_1, if_true, if_false], rfl⟩
  · refine g_iconst (v := 1) cx dX6_isResting_12 (by decide) ?_
    refine g_goto (tgt := 17) cx dX6_isResting_13 (by decide) ?_
    exact g_zret cx gr rfl (Nat.zero_le _) (Nat.zero_le _) dX6_isResting_17 ⟨by simp only [sRest, c_1, if_true, if_false], rfl⟩

abbrev rmX6_toneOf : Room := { frames := 2, cells := 0, slots := 0, locals := 43 }
theorem hYX6_toneOf : gY yX6_toneOf wsX6_toneOf cX6_toneOf 6 (some .int) 1 := ⟨⟨_, rfl⟩, by decide +kernel, by decide +kernel, by decide +kernel⟩
theorem iwX6_toneOf_X6 : ∀ w ∈ u_ws RX6 TX6 16, w ∈ wsX6_toneOf := by decide +kernel
theorem lkX6_toneOf_7 : Cond.fieldLink RX6 7 "MuffinBellsModel" "s" "[I" ∈ wsX6_toneOf := by decide +kernel
set_option maxRecDepth 100000 in
set_option maxHeartbeats 4000000 in
theorem c_X6_toneOf (l : Launch) (E : gE) (a : Nat → Nat) (c : Cor) (h : Mar) (h0 : Int32) (hh : vp_in h0 8) : cti l yX6_toneOf wsX6_toneOf rmX6_toneOf E [.ref (a 0), .int h0] (mW E a c h) (fun r w => r = toneAt c.1 h0 ∧ w = (mW E a c h)) := by
  refine mt_i (cc := cX6_toneOf) (maxL := 6) (ret := some .int) (lv0 := [(0, .ref (a 0)), (1, .int h0)]) (by decide) rfl rfl (Nat.le_of_ble_eq_true rfl) (fun X cx gr hI => ?_)
  refine g_aload_n cx dX6_toneOf_0 0 rfl ?_
  refine g_iload_n cx dX6_toneOf_1 1 rfl ?_
  refine g_iconst (v := 1) cx dX6_toneOf_2 (by decide) ?_
  refine g_VSi (rest := []) (As := [.int h0, .int 1]) cx hYX6_its gX6_toneOf_X6_its (c_X6_its1 l E a c h h0 (by assumption)) rfl rfl rfl ⟨Nat.le_of_ble_eq_true rfl, Nat.le_of_ble_eq_true rfl⟩ rfl rfl (Nat.le_of_ble_eq_true rfl) ⟨Nat.le_of_ble_eq_true rfl, Nat.le_of_ble_eq_true rfl⟩ dX6_toneOf_3 (fun r w1 hp => ?_)
  obtain ⟨rfl, rfl⟩ := hp
  refine g_istore_n (lv' := [(2, .int (c.1.2.2.2.2.2.2.2.2.1 h0.toNatClampNeg)), (0, .ref (a 0)), (1, .int h0)]) cx dX6_toneOf_6 (by decide) rfl ?_
  refine g_iload_n cx dX6_toneOf_7 0 rfl ?_
  refine g_iconst (v := 3) cx dX6_toneOf_8 (by decide) ?_
  refine g_idiv cx dX6_toneOf_9 (by decide) ?_
  refine g_istore_n (lv' := [(3, .int ((c.1.2.2.2.2.2.2.2.2.1 h0.toNatClampNeg) / 3)), (2, .int (c.1.2.2.2.2.2.2.2.2.1 h0.toNatClampNeg)), (0, .ref (a 0)), (1, .int h0)]) cx dX6_toneOf_10 (by decide) rfl ?_
  refine g_iload_n cx dX6_toneOf_11 0 rfl ?_
  refine g_iconst (v := 1) cx dX6_toneOf_12 (by decide) ?_
  refine g_iadd cx dX6_toneOf_13 ?_
  refine g_bipush (v := 6) cx dX6_toneOf_14 (by decide) ?_
  refine g_SPi (rest := []) (As := [.int (((c.1.2.2.2.2.2.2.2.2.1 h0.toNatClampNeg) / 3) + 1), .int 6]) cx hYX6_heldTo gX6_toneOf_X6_heldTo (c_X6_heldTo l E (((c.1.2.2.2.2.2.2.2.2.1 h0.toNatClampNeg) / 3) + 1) 6 ) ⟨Nat.le_of_ble_eq_true rfl, Nat.le_of_ble_eq_true rfl⟩ rfl rfl (Nat.le_of_ble_eq_true rfl) ⟨Nat.le_of_ble_eq_true rfl, Nat.le_of_ble_eq_true rfl⟩ dX6_toneOf_16 ?_
  refine g_istore (lv' := [(4, .int (minI 6 (((c.1.2.2.2.2.2.2.2.2.1 h0.toNatClampNeg) / 3) + 1))), (3, .int ((c.1.2.2.2.2.2.2.2.2.1 h0.toNatClampNeg) / 3)), (2, .int (c.1.2.2.2.2.2.2.2.2.1 h0.toNatClampNeg)), (0, .ref (a 0)), (1, .int h0)]) cx dX6_toneOf_19 (by decide) rfl ?_
  refine g_iload_n cx dX6_toneOf_21 1 rfl ?_
  refine g_iconst (v := 2) cx dX6_toneOf_22 (by decide) ?_
  refine g_isub cx dX6_toneOf_23 ?_
  refine g_SPi (rest := []) (As := [.int (((c.1.2.2.2.2.2.2.2.2.1 h0.toNatClampNeg) / 3) - 2)]) cx hYX6_atLeastNothing gX6_toneOf_X6_atLeastNothing (c_X6_atLeastNothing l E (((c.1.2.2.2.2.2.2.2.2.1 h0.toNatClampNeg) / 3) - 2) ) ⟨Nat.le_of_ble_eq_true rfl, Nat.le_of_ble_eq_true rfl⟩ rfl rfl (Nat.le_of_ble_eq_true rfl) ⟨Nat.le_of_ble_eq_true rfl, Nat.le_of_ble_eq_true rfl⟩ dX6_toneOf_24 ?_
  refine g_istore (lv' := [(5, .int (maxI 0 (((c.1.2.2.2.2.2.2.2.2.1 h0.toNatClampNeg) / 3) - 2))), (4, .int (minI 6 (((c.1.2.2.2.2.2.2.2.2.1 h0.toNatClampNeg) / 3) + 1))), (3, .int ((c.1.2.2.2.2.2.2.2.2.1 h0.toNatClampNeg) / 3)), (2, .int (c.1.2.2.2.2.2.2.2.2.1 h0.toNatClampNeg)), (0, .ref (a 0)), (1, .int h0)]) cx dX6_toneOf_27 (by decide) rfl ?_
  refine g_aload_n cx dX6_toneOf_29 4 rfl ?_
  refine g_iload_n cx dX6_toneOf_30 5 rfl ?_
  refine g_iconst (v := 0) cx dX6_toneOf_31 (by decide) ?_
  refine g_VSi (rest := []) (As := [.int h0, .int 0]) cx hYX6_its gX6_toneOf_X6_its (c_X6_its0 l E a c h h0 (by assumption)) rfl rfl rfl ⟨Nat.le_of_ble_eq_true rfl, Nat.le_of_ble_eq_true rfl⟩ rfl rfl (Nat.le_of_ble_eq_true rfl) ⟨Nat.le_of_ble_eq_true rfl, Nat.le_of_ble_eq_true rfl⟩ dX6_toneOf_32 (fun r w1 hp => ?_)
  obtain ⟨rfl, rfl⟩ := hp
  refine g_tsw cx dX6_toneOf_35 108 (by decide) (fun j hj cs_1 => ?_) (fun cs_1 => ?_)
  · rcases j with _ | _ | _ | _ | _ | j
    · refine ⟨_, 68, rfl, by decide, ?_⟩
      have cs_1 : c.1.2.2.2.2.2.2.2.1 h0.toNatClampNeg = 1 := Int32.toInt_inj.mp (cs_1.trans (by decide))
      refine g_iload cx dX6_toneOf_68 1 rfl ?_
      exact g_iret cx gr (Nat.zero_le _) (Nat.zero_le _) dX6_toneOf_70 ⟨by first | (simp only [toneAt, sTone, min_gay, max_grave, tKind, tMood, tPen, tAte, tHour, tTray, tAt, tRang, tCrack, tTak, tWay, cs_1, if_true, if_false]; done) | simp [toneAt, sTone, min_gay, max_grave, tKind, tMood, tPen, tAte, tHour, tTray, tAt, tRang, tCrack, tTak, tWay, cs_1], rfl⟩
    · refine ⟨_, 71, rfl, by decide, ?_⟩
      have cs_1 : c.1.2.2.2.2.2.2.2.1 h0.toNatClampNeg = 2 := Int32.toInt_inj.mp (cs_1.trans (by decide))
      refine g_iload cx dX6_toneOf_71 0 rfl ?_
      exact g_iret cx gr (Nat.zero_le _) (Nat.zero_le _) dX6_toneOf_73 ⟨by first | (simp only [toneAt, sTone, min_gay, max_grave, tKind, tMood, tPen, tAte, tHour, tTray, tAt, tRang, tCrack, tTak, tWay, cs_1, if_true, if_false]; done) | simp [toneAt, sTone, min_gay, max_grave, tKind, tMood, tPen, tAte, tHour, tTray, tAt, tRang, tCrack, tTak, tWay, cs_1], rfl⟩
    · refine ⟨_, 74, rfl, by decide, ?_⟩
      have cs_1 : c.1.2.2.2.2.2.2.2.1 h0.toNatClampNeg = 3 := Int32.toInt_inj.mp (cs_1.trans (by decide))
      refine g_iconst (v := 3) cx dX6_toneOf_74 (by decide) ?_
      exact g_iret cx gr (Nat.zero_le _) (Nat.zero_le _) dX6_toneOf_75 ⟨by first | (simp only [toneAt, sTone, min_gay, max_grave, tKind, tMood, tPen, tAte, tHour, tTray, tAt, tRang, tCrack, tTak, tWay, cs_1, if_true, if_false]; done) | simp [toneAt, sTone, min_gay, max_grave, tKind, tMood, tPen, tAte, tHour, tTray, tAt, tRang, tCrack, tTak, tWay, cs_1], rfl⟩
    · refine ⟨_, 76, rfl, by decide, ?_⟩
      have cs_1 : c.1.2.2.2.2.2.2.2.1 h0.toNatClampNeg = 4 := Int32.toInt_inj.mp (cs_1.trans (by decide))
      refine g_aload_n cx dX6_toneOf_76 4 rfl ?_
      refine g_get (C := RX6) (T := TX6) (N := 16) (v := .ref (a 1)) cx iwX6_toneOf_X6 0 0 rfl rfl (by decide) lkX6_toneOf_7 rfl dX6_toneOf_77 ?_
      refine g_iconst (v := 0) cx dX6_toneOf_80 (by decide) ?_
      refine g_iald cx 1 rfl rfl (by first | assumption | (unfold vp_in; decide +kernel)) dX6_toneOf_81 ?_
      refine g_top (y := c.1.1) (rfl) ?_
      refine g_iconst (v := 3) cx dX6_toneOf_82 (by decide) ?_
      refine g_irem cx dX6_toneOf_83 (by decide) ?_
      refine g_iconst (v := 1) cx dX6_toneOf_84 (by decide) ?_
      refine g_icmp_ne (tgt := 92) cx dX6_toneOf_85 (by decide) (fun c_2 => ?_) (fun c_2 => ?_)
      · refine g_iload cx dX6_toneOf_92 1 rfl ?_
        exact g_iret cx gr (Nat.zero_le _) (Nat.zero_le _) dX6_toneOf_94 ⟨by first | (simp only [toneAt, sTone, min_gay, max_grave, tKind, tMood, tPen, tAte, tHour, tTray, tAt, tRang, tCrack, tTak, tWay, cs_1, c_2, if_true, if_false]; done) | simp [toneAt, sTone, min_gay, max_grave, tKind, tMood, tPen, tAte, tHour, tTray, tAt, tRang, tCrack, tTak, tWay, cs_1, c_2], rfl⟩
      · refine g_iconst (v := 0) cx dX6_toneOf_88 (by decide) ?_
        refine g_goto (tgt := 94) cx dX6_toneOf_89 (by decide) ?_
        exact g_iret cx gr (Nat.zero_le _) (Nat.zero_le _) dX6_toneOf_94 ⟨by first | (simp only [toneAt, sTone, min_gay, max_grave, tKind, tMood, tPen, tAte, tHour, tTray, tAt, tRang, tCrack, tTak, tWay, cs_1, c_2, if_true, if_false]; done) | simp [toneAt, sTone, min_gay, max_grave, tKind, tMood, tPen, tAte, tHour, tTray, tAt, tRang, tCrack, tTak, tWay, cs_1, c_2], rfl⟩
    · refine ⟨_, 95, rfl, by decide, ?_⟩
      have cs_1 : c.1.2.2.2.2.2.2.2.1 h0.toNatClampNeg = 5 := Int32.toInt_inj.mp (cs_1.trans (by decide))
      refine g_iload_n cx dX6_toneOf_95 3 rfl ?_
      refine g_bipush (v := 12) cx dX6_toneOf_96 (by decide) ?_
      refine g_icmp_ge (tgt := 105) cx dX6_toneOf_98 (by decide) (fun c_3 => ?_) (fun c_3 => ?_)
      · refine g_iload cx dX6_toneOf_105 0 rfl ?_
        exact g_iret cx gr (Nat.zero_le _) (Nat.zero_le _) dX6_toneOf_107 ⟨by first | (simp only [toneAt, sTone, min_gay, max_grave, tKind, tMood, tPen, tAte, tHour, tTray, tAt, tRang, tCrack, tTak, tWay, cs_1, c_3, if_true, if_false]; done) | simp [toneAt, sTone, min_gay, max_grave, tKind, tMood, tPen, tAte, tHour, tTray, tAt, tRang, tCrack, tTak, tWay, cs_1, c_3], rfl⟩
      · refine g_iconst (v := 0) cx dX6_toneOf_101 (by decide) ?_
        refine g_goto (tgt := 107) cx dX6_toneOf_102 (by decide) ?_
        exact g_iret cx gr (Nat.zero_le _) (Nat.zero_le _) dX6_toneOf_107 ⟨by first | (simp only [toneAt, sTone, min_gay, max_grave, tKind, tMood, tPen, tAte, tHour, tTray, tAt, tRang, tCrack, tTak, tWay, cs_1, c_3, if_true, if_false]; done) | simp [toneAt, sTone, min_gay, max_grave, tKind, tMood, tPen, tAte, tHour, tTray, tAt, tRang, tCrack, tTak, tWay, cs_1, c_3], rfl⟩
    · exact absurd hj (by omega)
  · have hsx := cs_1
    have cs_1_0 : ¬ c.1.2.2.2.2.2.2.2.1 h0.toNatClampNeg = 1 := sw_ne cs_1 (by decide)
    have cs_1_1 : ¬ c.1.2.2.2.2.2.2.2.1 h0.toNatClampNeg = 2 := sw_ne cs_1 (by decide)
    have cs_1_2 : ¬ c.1.2.2.2.2.2.2.2.1 h0.toNatClampNeg = 3 := sw_ne cs_1 (by decide)
    have cs_1_3 : ¬ c.1.2.2.2.2.2.2.2.1 h0.toNatClampNeg = 4 := sw_ne cs_1 (by decide)
    have cs_1_4 : ¬ c.1.2.2.2.2.2.2.2.1 h0.toNatClampNeg = 5 := sw_ne cs_1 (by decide)
    refine g_iload_n cx dX6_toneOf_108 2 rfl ?_
    exact g_iret cx gr (Nat.zero_le _) (Nat.zero_le _) dX6_toneOf_109 ⟨by first | (simp only [toneAt, sTone, min_gay, max_grave, tKind, tMood, tPen, tAte, tHour, tTray, tAt, tRang, tCrack, tTak, tWay, cs_1_0, cs_1_1, cs_1_2, cs_1_3, cs_1_4, if_true, if_false]; done) | simp [toneAt, sTone, min_gay, max_grave, tKind, tMood, tPen, tAte, tHour, tTray, tAt, tRang, tCrack, tTak, tWay, cs_1_0, cs_1_1, cs_1_2, cs_1_3, cs_1_4], rfl⟩

abbrev rmX6_mindsOf : Room := { frames := 3, cells := 0, slots := 0, locals := 68 }
theorem hYX6_mindsOf : gY yX6_mindsOf wsX6_mindsOf cX6_mindsOf 6 (some .int) 2 := ⟨⟨_, rfl⟩, by decide +kernel, by decide +kernel, by decide +kernel⟩
set_option maxRecDepth 100000 in
set_option maxHeartbeats 4000000 in
theorem c_X6_mindsOf (l : Launch) (E : gE) (a : Nat → Nat) (c : Cor) (h : Mar) (h0 : Int32) (r0 : Int32) (hh : vp_in h0 8) : cti l yX6_mindsOf wsX6_mindsOf rmX6_mindsOf E [.ref (a 0), .int h0, .int r0] (mW E a c h) (fun r w => r = mindAt c.1 h0 r0 ∧ w = (mW E a c h)) := by
  refine mt_i (cc := cX6_mindsOf) (maxL := 6) (ret := some .int) (lv0 := [(0, .ref (a 0)), (1, .int h0), (2, .int r0)]) (by decide) rfl rfl (Nat.le_of_ble_eq_true rfl) (fun X cx gr hI => ?_)
  refine g_aload_n cx dX6_mindsOf_0 0 rfl ?_
  refine g_iload_n cx dX6_mindsOf_1 1 rfl ?_
  refine g_VSi (rest := []) (As := [.int h0]) cx hYX6_toneOf gX6_mindsOf_X6_toneOf (c_X6_toneOf l E a c h h0 hh) rfl rfl rfl ⟨Nat.le_of_ble_eq_true rfl, Nat.le_of_ble_eq_true rfl⟩ rfl rfl (Nat.le_of_ble_eq_true rfl) ⟨Nat.le_of_ble_eq_true rfl, Nat.le_of_ble_eq_true rfl⟩ dX6_mindsOf_2 (fun r w1 hp => ?_)
  obtain ⟨rfl, rfl⟩ := hp
  refine g_istore_n (lv' := [(3, .int (toneAt c.1 h0)), (0, .ref (a 0)), (1, .int h0), (2, .int r0)]) cx dX6_mindsOf_5 (by decide) rfl ?_
  refine g_iload_n cx dX6_mindsOf_6 3 rfl ?_
  refine g_iload_n cx dX6_mindsOf_7 0 rfl ?_
  have J25_0 : gG X 0 0 (mW E a c h) 25 [(3, .int (toneAt c.1 h0)), (0, .ref (a 0)), (1, .int h0), (2, .int r0)] (.int (plainM r0 (toneAt c.1 h0)) :: []) := by
    refine g_istore (lv' := [(4, .int (plainM r0 (toneAt c.1 h0))), (3, .int (toneAt c.1 h0)), (0, .ref (a 0)), (1, .int h0), (2, .int r0)]) cx dX6_mindsOf_25 (by decide) rfl ?_
    refine g_iload_n cx dX6_mindsOf_27 4 rfl ?_
    refine g_iconst (v := 3) cx dX6_mindsOf_28 (by decide) ?_
    have J41_1 : gG X 0 0 (mW E a c h) 41 [(4, .int (plainM r0 (toneAt c.1 h0))), (3, .int (toneAt c.1 h0)), (0, .ref (a 0)), (1, .int h0), (2, .int r0)] (.int (gayM r0 (plainM r0 (toneAt c.1 h0))) :: []) := by
      refine g_istore (lv' := [(5, .int (gayM r0 (plainM r0 (toneAt c.1 h0)))), (4, .int (plainM r0 (toneAt c.1 h0))), (3, .int (toneAt c.1 h0)), (0, .ref (a 0)), (1, .int h0), (2, .int r0)]) cx dX6_mindsOf_41 (by decide) rfl ?_
      refine g_aload_n cx dX6_mindsOf_43 3 rfl ?_
      refine g_iload_n cx dX6_mindsOf_44 4 rfl ?_
      refine g_iconst (v := 0) cx dX6_mindsOf_45 (by decide) ?_
      refine g_VSi (rest := []) (As := [.int h0, .int 0]) cx hYX6_its gX6_mindsOf_X6_its (c_X6_its0 l E a c h h0 (by assumption)) rfl rfl rfl ⟨Nat.le_of_ble_eq_true rfl, Nat.le_of_ble_eq_true rfl⟩ rfl rfl (Nat.le_of_ble_eq_true rfl) ⟨Nat.le_of_ble_eq_true rfl, Nat.le_of_ble_eq_true rfl⟩ dX6_mindsOf_46 (fun r w1 hp => ?_)
      obtain ⟨rfl, rfl⟩ := hp
      refine g_tsw cx dX6_mindsOf_49 118 (by decide) (fun j hj cs_3 => ?_) (fun cs_3 => ?_)
      · rcases j with _ | _ | _ | _ | _ | j
        · refine ⟨_, 84, rfl, by decide, ?_⟩
          have cs_3 : c.1.2.2.2.2.2.2.2.1 h0.toNatClampNeg = 1 := Int32.toInt_inj.mp (cs_3.trans (by decide))
          refine g_iload cx dX6_mindsOf_84 0 rfl ?_
          exact g_iret cx gr (Nat.zero_le _) (Nat.zero_le _) dX6_mindsOf_86 ⟨by show _ = sMind (c.1.2.2.2.2.2.2.2.1 h0.toNatClampNeg) r0 (toneAt c.1 h0); first | (simp only [sMind, cs_3, if_true, if_false]; done) | simp [sMind, cs_3], rfl⟩
        · refine ⟨_, 87, rfl, by decide, ?_⟩
          have cs_3 : c.1.2.2.2.2.2.2.2.1 h0.toNatClampNeg = 2 := Int32.toInt_inj.mp (cs_3.trans (by decide))
          refine g_iconst (v := (-1)) cx dX6_mindsOf_87 (by decide) ?_
          exact g_iret cx gr (Nat.zero_le _) (Nat.zero_le _) dX6_mindsOf_88 ⟨by show _ = sMind (c.1.2.2.2.2.2.2.2.1 h0.toNatClampNeg) r0 (toneAt c.1 h0); first | (simp only [sMind, cs_3, if_true, if_false]; done) | simp [sMind, cs_3], rfl⟩
        · refine ⟨_, 89, rfl, by decide, ?_⟩
          have cs_3 : c.1.2.2.2.2.2.2.2.1 h0.toNatClampNeg = 3 := Int32.toInt_inj.mp (cs_3.trans (by decide))
          refine g_iload_n cx dX6_mindsOf_89 5 rfl ?_
          refine g_iconst (v := 2) cx dX6_mindsOf_90 (by decide) ?_
          refine g_irem cx dX6_mindsOf_91 (by decide) ?_
          refine g_iconst (v := 1) cx dX6_mindsOf_92 (by decide) ?_
          refine g_icmp_ne (tgt := 101) cx dX6_mindsOf_93 (by decide) (fun c_4 => ?_) (fun c_4 => ?_)
          · refine g_iconst (v := 1) cx dX6_mindsOf_101 (by decide) ?_
            exact g_iret cx gr (Nat.zero_le _) (Nat.zero_le _) dX6_mindsOf_102 ⟨by show _ = sMind (c.1.2.2.2.2.2.2.2.1 h0.toNatClampNeg) r0 (toneAt c.1 h0); first | (simp only [sMind, cs_3, c_4, if_true, if_false]; done) | simp [sMind, cs_3, c_4], rfl⟩
          · refine g_bipush (v := (-2)) cx dX6_mindsOf_96 (by decide) ?_
            refine g_goto (tgt := 102) cx dX6_mindsOf_98 (by decide) ?_
            exact g_iret cx gr (Nat.zero_le _) (Nat.zero_le _) dX6_mindsOf_102 ⟨by show _ = sMind (c.1.2.2.2.2.2.2.2.1 h0.toNatClampNeg) r0 (toneAt c.1 h0); first | (simp only [sMind, cs_3, c_4, if_true, if_false]; done) | simp [sMind, cs_3, c_4], rfl⟩
        · refine ⟨_, 103, rfl, by decide, ?_⟩
          have cs_3 : c.1.2.2.2.2.2.2.2.1 h0.toNatClampNeg = 4 := Int32.toInt_inj.mp (cs_3.trans (by decide))
          refine g_iconst (v := 2) cx dX6_mindsOf_103 (by decide) ?_
          refine g_iload cx dX6_mindsOf_104 0 rfl ?_
          refine g_imul cx dX6_mindsOf_106 ?_
          exact g_iret cx gr (Nat.zero_le _) (Nat.zero_le _) dX6_mindsOf_107 ⟨by show _ = sMind (c.1.2.2.2.2.2.2.2.1 h0.toNatClampNeg) r0 (toneAt c.1 h0); first | (simp only [sMind, cs_3, if_true, if_false]; done) | simp [sMind, cs_3], rfl⟩
        · refine ⟨_, 108, rfl, by decide, ?_⟩
          have cs_3 : c.1.2.2.2.2.2.2.2.1 h0.toNatClampNeg = 5 := Int32.toInt_inj.mp (cs_3.trans (by decide))
          refine g_iload_n cx dX6_mindsOf_108 5 rfl ?_
          refine g_if_ne (tgt := 116) cx dX6_mindsOf_109 (by decide) (fun c_5 => ?_) (fun c_5 => ?_)
          · refine g_iconst (v := (-1)) cx dX6_mindsOf_116 (by decide) ?_
            exact g_iret cx gr (Nat.zero_le _) (Nat.zero_le _) dX6_mindsOf_117 ⟨by show _ = sMind (c.1.2.2.2.2.2.2.2.1 h0.toNatClampNeg) r0 (toneAt c.1 h0); first | (simp only [sMind, cs_3, c_5, if_true, if_false]; done) | simp [sMind, cs_3, c_5], rfl⟩
          · refine g_iconst (v := 0) cx dX6_mindsOf_112 (by decide) ?_
            refine g_goto (tgt := 117) cx dX6_mindsOf_113 (by decide) ?_
            exact g_iret cx gr (Nat.zero_le _) (Nat.zero_le _) dX6_mindsOf_117 ⟨by show _ = sMind (c.1.2.2.2.2.2.2.2.1 h0.toNatClampNeg) r0 (toneAt c.1 h0); first | (simp only [sMind, cs_3, c_5, if_true, if_false]; done) | simp [sMind, cs_3, c_5], rfl⟩
        · exact absurd hj (by omega)
      · have hsx := cs_3
        have cs_3_0 : ¬ c.1.2.2.2.2.2.2.2.1 h0.toNatClampNeg = 1 := sw_ne cs_3 (by decide)
        have cs_3_1 : ¬ c.1.2.2.2.2.2.2.2.1 h0.toNatClampNeg = 2 := sw_ne cs_3 (by decide)
        have cs_3_2 : ¬ c.1.2.2.2.2.2.2.2.1 h0.toNatClampNeg = 3 := sw_ne cs_3 (by decide)
        have cs_3_3 : ¬ c.1.2.2.2.2.2.2.2.1 h0.toNatClampNeg = 4 := sw_ne cs_3 (by decide)
        have cs_3_4 : ¬ c.1.2.2.2.2.2.2.2.1 h0.toNatClampNeg = 5 := sw_ne cs_3 (by decide)
        refine g_iload cx dX6_mindsOf_118 1 rfl ?_
        exact g_iret cx gr (Nat.zero_le _) (Nat.zero_le _) dX6_mindsOf_120 ⟨by show _ = sMind (c.1.2.2.2.2.2.2.2.1 h0.toNatClampNeg) r0 (toneAt c.1 h0); first | (simp only [sMind, cs_3_0, cs_3_1, cs_3_2, cs_3_3, cs_3_4, if_true, if_false]; done) | simp [sMind, cs_3_0, cs_3_1, cs_3_2, cs_3_3, cs_3_4], rfl⟩
    refine g_icmp_le (tgt := 39) cx dX6_mindsOf_29 (by decide) (fun c_6 => ?_) (fun c_6 => ?_)
    · refine g_iload cx dX6_mindsOf_39 0 rfl ?_
      exact g_top (show (plainM r0 (toneAt c.1 h0) : Int32) = gayM r0 (plainM r0 (toneAt c.1 h0)) from by simp only [gayM, c_6, if_true, if_false, ite_true, ite_false, not_true_eq_false, not_false_eq_true] <;> rfl) J41_1
    · refine g_iload cx dX6_mindsOf_32 0 rfl ?_
      refine g_iconst (v := 1) cx dX6_mindsOf_34 (by decide) ?_
      refine g_iadd cx dX6_mindsOf_35 ?_
      refine g_goto (tgt := 41) cx dX6_mindsOf_36 (by decide) ?_
      exact g_top (show ((plainM r0 (toneAt c.1 h0)) + 1 : Int32) = gayM r0 (plainM r0 (toneAt c.1 h0)) from by simp only [gayM, c_6, if_true, if_false, ite_true, ite_false, not_true_eq_false, not_false_eq_true] <;> rfl) J41_1
  refine g_icmp_le (tgt := 15) cx dX6_mindsOf_8 (by decide) (fun c_7 => ?_) (fun c_7 => ?_)
  · refine g_iload_n cx dX6_mindsOf_15 3 rfl ?_
    refine g_iload_n cx dX6_mindsOf_16 0 rfl ?_
    refine g_icmp_ge (tgt := 24) cx dX6_mindsOf_17 (by decide) (fun c_8 => ?_) (fun c_8 => ?_)
    · refine g_iconst (v := 0) cx dX6_mindsOf_24 (by decide) ?_
      exact g_top (show (0 : Int32) = plainM r0 (toneAt c.1 h0) from by simp only [plainM, c_7, c_8, if_true, if_false, ite_true, ite_false, not_true_eq_false, not_false_eq_true] <;> rfl) J25_0
    · refine g_iconst (v := (-1)) cx dX6_mindsOf_20 (by decide) ?_
      refine g_goto (tgt := 25) cx dX6_mindsOf_21 (by decide) ?_
      exact g_top (show ((-1) : Int32) = plainM r0 (toneAt c.1 h0) from by simp only [plainM, c_7, c_8, if_true, if_false, ite_true, ite_false, not_true_eq_false, not_false_eq_true] <;> rfl) J25_0
  · refine g_iconst (v := 1) cx dX6_mindsOf_11 (by decide) ?_
    refine g_goto (tgt := 25) cx dX6_mindsOf_12 (by decide) ?_
    exact g_top (show (1 : Int32) = plainM r0 (toneAt c.1 h0) from by simp only [plainM, c_7, if_true, if_false, ite_true, ite_false, not_true_eq_false, not_false_eq_true] <;> rfl) J25_0

abbrev rmX6_wantsOf : Room := { frames := 2, cells := 0, slots := 0, locals := 43 }
theorem hYX6_wantsOf : gY yX6_wantsOf wsX6_wantsOf cX6_wantsOf 5 (some .int) 2 := ⟨⟨_, rfl⟩, by decide +kernel, by decide +kernel, by decide +kernel⟩
set_option maxRecDepth 100000 in
set_option maxHeartbeats 4000000 in
theorem c_X6_wantsOf (l : Launch) (E : gE) (a : Nat → Nat) (c : Cor) (h : Mar) (h0 : Int32) (r0 : Int32) (hh : vp_in h0 8) : cti l yX6_wantsOf wsX6_wantsOf rmX6_wantsOf E [.ref (a 0), .int h0, .int r0] (mW E a c h) (fun r w => r = sWant (c.1.2.2.2.2.2.2.2.1 h0.toNatClampNeg) r0 ∧ w = (mW E a c h)) := by
  refine mt_i (cc := cX6_wantsOf) (maxL := 5) (ret := some .int) (lv0 := [(0, .ref (a 0)), (1, .int h0), (2, .int r0)]) (by decide) rfl rfl (Nat.le_of_ble_eq_true rfl) (fun X cx gr hI => ?_)
  refine g_iload_n cx dX6_wantsOf_0 2 rfl ?_
  refine g_iconst (v := 4) cx dX6_wantsOf_1 (by decide) ?_
  have J10_0 : gG X 0 0 (mW E a c h) 10 [(0, .ref (a 0)), (1, .int h0), (2, .int r0)] (.int (gayW r0) :: []) := by
    refine g_istore_n (lv' := [(3, .int (gayW r0)), (0, .ref (a 0)), (1, .int h0), (2, .int r0)]) cx dX6_wantsOf_10 (by decide) rfl ?_
    refine g_iload_n cx dX6_wantsOf_11 3 rfl ?_
    refine g_iconst (v := 2) cx dX6_wantsOf_12 (by decide) ?_
    have J21_1 : gG X 0 0 (mW E a c h) 21 [(3, .int (gayW r0)), (0, .ref (a 0)), (1, .int h0), (2, .int r0)] (.int (graveW r0) :: []) := by
      refine g_istore (lv' := [(4, .int (graveW r0)), (3, .int (gayW r0)), (0, .ref (a 0)), (1, .int h0), (2, .int r0)]) cx dX6_wantsOf_21 (by decide) rfl ?_
      refine g_aload_n cx dX6_wantsOf_23 2 rfl ?_
      refine g_iload_n cx dX6_wantsOf_24 3 rfl ?_
      refine g_iconst (v := 0) cx dX6_wantsOf_25 (by decide) ?_
      refine g_VSi (rest := []) (As := [.int h0, .int 0]) cx hYX6_its gX6_wantsOf_X6_its (c_X6_its0 l E a c h h0 (by assumption)) rfl rfl rfl ⟨Nat.le_of_ble_eq_true rfl, Nat.le_of_ble_eq_true rfl⟩ rfl rfl (Nat.le_of_ble_eq_true rfl) ⟨Nat.le_of_ble_eq_true rfl, Nat.le_of_ble_eq_true rfl⟩ dX6_wantsOf_26 (fun r w1 hp => ?_)
      obtain ⟨rfl, rfl⟩ := hp
      refine g_tsw cx dX6_wantsOf_29 91 (by decide) (fun j hj cs_3 => ?_) (fun cs_3 => ?_)
      · rcases j with _ | _ | _ | _ | _ | j
        · refine ⟨_, 64, rfl, by decide, ?_⟩
          have cs_3 : c.1.2.2.2.2.2.2.2.1 h0.toNatClampNeg = 1 := Int32.toInt_inj.mp (cs_3.trans (by decide))
          refine g_iload_n cx dX6_wantsOf_64 1 rfl ?_
          exact g_iret cx gr (Nat.zero_le _) (Nat.zero_le _) dX6_wantsOf_65 ⟨by first | (simp only [sWant, tKind, tMood, tPen, tAte, tHour, tTray, tAt, tRang, tCrack, tTak, tWay, cs_3, if_true, if_false]; done) | simp [sWant, tKind, tMood, tPen, tAte, tHour, tTray, tAt, tRang, tCrack, tTak, tWay, cs_3], rfl⟩
        · refine ⟨_, 66, rfl, by decide, ?_⟩
          have cs_3 : c.1.2.2.2.2.2.2.2.1 h0.toNatClampNeg = 2 := Int32.toInt_inj.mp (cs_3.trans (by decide))
          refine g_iload cx dX6_wantsOf_66 0 rfl ?_
          exact g_iret cx gr (Nat.zero_le _) (Nat.zero_le _) dX6_wantsOf_68 ⟨by first | (simp only [sWant, tKind, tMood, tPen, tAte, tHour, tTray, tAt, tRang, tCrack, tTak, tWay, cs_3, if_true, if_false]; done) | simp [sWant, tKind, tMood, tPen, tAte, tHour, tTray, tAt, tRang, tCrack, tTak, tWay, cs_3], rfl⟩
        · refine ⟨_, 69, rfl, by decide, ?_⟩
          have cs_3 : c.1.2.2.2.2.2.2.2.1 h0.toNatClampNeg = 3 := Int32.toInt_inj.mp (cs_3.trans (by decide))
          refine g_iload_n cx dX6_wantsOf_69 4 rfl ?_
          refine g_iconst (v := 2) cx dX6_wantsOf_70 (by decide) ?_
          refine g_irem cx dX6_wantsOf_71 (by decide) ?_
          refine g_iconst (v := 1) cx dX6_wantsOf_72 (by decide) ?_
          refine g_icmp_ne (tgt := 80) cx dX6_wantsOf_73 (by decide) (fun c_4 => ?_) (fun c_4 => ?_)
          · refine g_iconst (v := 1) cx dX6_wantsOf_80 (by decide) ?_
            exact g_iret cx gr (Nat.zero_le _) (Nat.zero_le _) dX6_wantsOf_81 ⟨by first | (simp only [sWant, tKind, tMood, tPen, tAte, tHour, tTray, tAt, tRang, tCrack, tTak, tWay, cs_3, c_4, if_true, if_false]; done) | simp [sWant, tKind, tMood, tPen, tAte, tHour, tTray, tAt, tRang, tCrack, tTak, tWay, cs_3, c_4], rfl⟩
          · refine g_iconst (v := 0) cx dX6_wantsOf_76 (by decide) ?_
            refine g_goto (tgt := 81) cx dX6_wantsOf_77 (by decide) ?_
            exact g_iret cx gr (Nat.zero_le _) (Nat.zero_le _) dX6_wantsOf_81 ⟨by first | (simp only [sWant, tKind, tMood, tPen, tAte, tHour, tTray, tAt, tRang, tCrack, tTak, tWay, cs_3, c_4, if_true, if_false]; done) | simp [sWant, tKind, tMood, tPen, tAte, tHour, tTray, tAt, tRang, tCrack, tTak, tWay, cs_3, c_4], rfl⟩
        · refine ⟨_, 82, rfl, by decide, ?_⟩
          have cs_3 : c.1.2.2.2.2.2.2.2.1 h0.toNatClampNeg = 4 := Int32.toInt_inj.mp (cs_3.trans (by decide))
          refine g_iload_n cx dX6_wantsOf_82 1 rfl ?_
          refine g_iconst (v := 1) cx dX6_wantsOf_83 (by decide) ?_
          refine g_iadd cx dX6_wantsOf_84 ?_
          exact g_iret cx gr (Nat.zero_le _) (Nat.zero_le _) dX6_wantsOf_85 ⟨by first | (simp only [sWant, tKind, tMood, tPen, tAte, tHour, tTray, tAt, tRang, tCrack, tTak, tWay, cs_3, if_true, if_false]; done) | simp [sWant, tKind, tMood, tPen, tAte, tHour, tTray, tAt, tRang, tCrack, tTak, tWay, cs_3], rfl⟩
        · refine ⟨_, 86, rfl, by decide, ?_⟩
          have cs_3 : c.1.2.2.2.2.2.2.2.1 h0.toNatClampNeg = 5 := Int32.toInt_inj.mp (cs_3.trans (by decide))
          refine g_iconst (v := 2) cx dX6_wantsOf_86 (by decide) ?_
          refine g_iload cx dX6_wantsOf_87 0 rfl ?_
          refine g_imul cx dX6_wantsOf_89 ?_
          exact g_iret cx gr (Nat.zero_le _) (Nat.zero_le _) dX6_wantsOf_90 ⟨by first | (simp only [sWant, tKind, tMood, tPen, tAte, tHour, tTray, tAt, tRang, tCrack, tTak, tWay, cs_3, if_true, if_false]; done) | simp [sWant, tKind, tMood, tPen, tAte, tHour, tTray, tAt, tRang, tCrack, tTak, tWay, cs_3], rfl⟩
        · exact absurd hj (by omega)
      · have hsx := cs_3
        have cs_3_0 : ¬ c.1.2.2.2.2.2.2.2.1 h0.toNatClampNeg = 1 := sw_ne cs_3 (by decide)
        have cs_3_1 : ¬ c.1.2.2.2.2.2.2.2.1 h0.toNatClampNeg = 2 := sw_ne cs_3 (by decide)
        have cs_3_2 : ¬ c.1.2.2.2.2.2.2.2.1 h0.toNatClampNeg = 3 := sw_ne cs_3 (by decide)
        have cs_3_3 : ¬ c.1.2.2.2.2.2.2.2.1 h0.toNatClampNeg = 4 := sw_ne cs_3 (by decide)
        have cs_3_4 : ¬ c.1.2.2.2.2.2.2.2.1 h0.toNatClampNeg = 5 := sw_ne cs_3 (by decide)
        refine g_iconst (v := 1) cx dX6_wantsOf_91 (by decide) ?_
        exact g_iret cx gr (Nat.zero_le _) (Nat.zero_le _) dX6_wantsOf_92 ⟨by first | (simp only [sWant, tKind, tMood, tPen, tAte, tHour, tTray, tAt, tRang, tCrack, tTak, tWay, cs_3_0, cs_3_1, cs_3_2, cs_3_3, cs_3_4, if_true, if_false]; done) | simp [sWant, tKind, tMood, tPen, tAte, tHour, tTray, tAt, tRang, tCrack, tTak, tWay, cs_3_0, cs_3_1, cs_3_2, cs_3_3, cs_3_4], rfl⟩
    refine g_icmp_ge (tgt := 20) cx dX6_wantsOf_13 (by decide) (fun c_5 => ?_) (fun c_5 => ?_)
    · refine g_iconst (v := 1) cx dX6_wantsOf_20 (by decide) ?_
      exact g_top (show (1 : Int32) = graveW r0 from by simp only [graveW, c_5, if_true, if_false, ite_true, ite_false, not_true_eq_false, not_false_eq_true] <;> rfl) J21_1
    · refine g_iconst (v := 3) cx dX6_wantsOf_16 (by decide) ?_
      refine g_goto (tgt := 21) cx dX6_wantsOf_17 (by decide) ?_
      exact g_top (show (3 : Int32) = graveW r0 from by simp only [graveW, c_5, if_true, if_false, ite_true, ite_false, not_true_eq_false, not_false_eq_true] <;> rfl) J21_1
  refine g_icmp_le (tgt := 9) cx dX6_wantsOf_2 (by decide) (fun c_6 => ?_) (fun c_6 => ?_)
  · refine g_iconst (v := 1) cx dX6_wantsOf_9 (by decide) ?_
    exact g_top (show (1 : Int32) = gayW r0 from by simp only [gayW, c_6, if_true, if_false, ite_true, ite_false, not_true_eq_false, not_false_eq_true] <;> rfl) J10_0
  · refine g_iconst (v := 2) cx dX6_wantsOf_5 (by decide) ?_
    refine g_goto (tgt := 10) cx dX6_wantsOf_6 (by decide) ?_
    exact g_top (show (2 : Int32) = gayW r0 from by simp only [gayW, c_6, if_true, if_false, ite_true, ite_false, not_true_eq_false, not_false_eq_true] <;> rfl) J10_0

abbrev rmX6_buysOf : Room := { frames := 3, cells := 0, slots := 0, locals := 67 }
theorem hYX6_buysOf : gY yX6_buysOf wsX6_buysOf cX6_buysOf 3 (some .int) 2 := ⟨⟨_, rfl⟩, by decide +kernel, by decide +kernel, by decide +kernel⟩
theorem iwX6_buysOf_X6 : ∀ w ∈ u_ws RX6 TX6 16, w ∈ wsX6_buysOf := by decide +kernel
theorem lkX6_buysOf_7 : Cond.fieldLink RX6 7 "MuffinBellsModel" "s" "[I" ∈ wsX6_buysOf := by decide +kernel
set_option maxRecDepth 100000 in
set_option maxHeartbeats 4000000 in
theorem c_X6_buysOf (l : Launch) (E : gE) (a : Nat → Nat) (c : Cor) (h : Mar) (h0 : Int32) (r0 : Int32) (hh : vp_in h0 8) : cti l yX6_buysOf wsX6_buysOf rmX6_buysOf E [.ref (a 0), .int h0, .int r0] (mW E a c h) (fun r w => r = buyAt c.1 h0 r0 ∧ w = (mW E a c h)) := by
  refine mt_i (cc := cX6_buysOf) (maxL := 3) (ret := some .int) (lv0 := [(0, .ref (a 0)), (1, .int h0), (2, .int r0)]) (by decide) rfl rfl (Nat.le_of_ble_eq_true rfl) (fun X cx gr hI => ?_)
  refine g_aload_n cx dX6_buysOf_0 0 rfl ?_
  refine g_iload_n cx dX6_buysOf_1 1 rfl ?_
  refine g_iload_n cx dX6_buysOf_2 2 rfl ?_
  refine g_VSi (rest := []) (As := [.int h0, .int r0]) cx hYX6_wantsOf gX6_buysOf_X6_wantsOf (c_X6_wantsOf l E a c h h0 r0 hh) rfl rfl rfl ⟨Nat.le_of_ble_eq_true rfl, Nat.le_of_ble_eq_true rfl⟩ rfl rfl (Nat.le_of_ble_eq_true rfl) ⟨Nat.le_of_ble_eq_true rfl, Nat.le_of_ble_eq_true rfl⟩ dX6_buysOf_3 (fun r w1 hp => ?_)
  obtain ⟨rfl, rfl⟩ := hp
  refine g_aload_n cx dX6_buysOf_6 0 rfl ?_
  refine g_iload_n cx dX6_buysOf_7 1 rfl ?_
  refine g_iconst (v := 2) cx dX6_buysOf_8 (by decide) ?_
  refine g_VSi (rest := [.int (sWant (c.1.2.2.2.2.2.2.2.1 h0.toNatClampNeg) r0)]) (As := [.int h0, .int 2]) cx hYX6_its gX6_buysOf_X6_its (c_X6_its2 l E a c h h0 (by assumption)) rfl rfl rfl ⟨Nat.le_of_ble_eq_true rfl, Nat.le_of_ble_eq_true rfl⟩ rfl rfl (Nat.le_of_ble_eq_true rfl) ⟨Nat.le_of_ble_eq_true rfl, Nat.le_of_ble_eq_true rfl⟩ dX6_buysOf_9 (fun r w1 hp => ?_)
  obtain ⟨rfl, rfl⟩ := hp
  refine g_iconst (v := 2) cx dX6_buysOf_12 (by decide) ?_
  refine g_idiv cx dX6_buysOf_13 (by decide) ?_
  refine g_SPi (rest := []) (As := [.int (sWant (c.1.2.2.2.2.2.2.2.1 h0.toNatClampNeg) r0), .int ((c.1.2.2.2.2.2.2.2.2.2.1 h0.toNatClampNeg) / 2)]) cx hYX6_heldTo gX6_buysOf_X6_heldTo (c_X6_heldTo l E (sWant (c.1.2.2.2.2.2.2.2.1 h0.toNatClampNeg) r0) ((c.1.2.2.2.2.2.2.2.2.2.1 h0.toNatClampNeg) / 2) ) ⟨Nat.le_of_ble_eq_true rfl, Nat.le_of_ble_eq_true rfl⟩ rfl rfl (Nat.le_of_ble_eq_true rfl) ⟨Nat.le_of_ble_eq_true rfl, Nat.le_of_ble_eq_true rfl⟩ dX6_buysOf_14 ?_
  refine g_aload_n cx dX6_buysOf_17 0 rfl ?_
  refine g_get (C := RX6) (T := TX6) (N := 16) (v := .ref (a 1)) cx iwX6_buysOf_X6 0 0 rfl rfl (by decide) lkX6_buysOf_7 rfl dX6_buysOf_18 ?_
  refine g_iconst (v := 3) cx dX6_buysOf_21 (by decide) ?_
  refine g_iald cx 1 rfl rfl (by first | assumption | (unfold vp_in; decide +kernel)) dX6_buysOf_22 ?_
  refine g_top (y := c.1.2.2.2.1) (rfl) ?_
  refine g_SPi (rest := []) (As := [.int (minI ((c.1.2.2.2.2.2.2.2.2.2.1 h0.toNatClampNeg) / 2) (sWant (c.1.2.2.2.2.2.2.2.1 h0.toNatClampNeg) r0)), .int c.1.2.2.2.1]) cx hYX6_heldTo gX6_buysOf_X6_heldTo (c_X6_heldTo l E (minI ((c.1.2.2.2.2.2.2.2.2.2.1 h0.toNatClampNeg) / 2) (sWant (c.1.2.2.2.2.2.2.2.1 h0.toNatClampNeg) r0)) c.1.2.2.2.1 ) ⟨Nat.le_of_ble_eq_true rfl, Nat.le_of_ble_eq_true rfl⟩ rfl rfl (Nat.le_of_ble_eq_true rfl) ⟨Nat.le_of_ble_eq_true rfl, Nat.le_of_ble_eq_true rfl⟩ dX6_buysOf_23 ?_
  exact g_iret cx gr (Nat.zero_le _) (Nat.zero_le _) dX6_buysOf_26 ⟨min_buy _ _ _, rfl⟩

abbrev rmX6_isHeard : Room := { frames := 4, cells := 0, slots := 0, locals := 93 }
theorem hYX6_isHeard : gY yX6_isHeard wsX6_isHeard cX6_isHeard 4 (none) 1 := ⟨⟨_, rfl⟩, by decide +kernel, by decide +kernel, by decide +kernel⟩
theorem iwX6_isHeard_X6 : ∀ w ∈ u_ws RX6 TX6 16, w ∈ wsX6_isHeard := by decide +kernel
theorem lkX6_isHeard_7 : Cond.fieldLink RX6 7 "MuffinBellsModel" "s" "[I" ∈ wsX6_isHeard := by decide +kernel
theorem m1X6_isHeard_c124 : Cond.constant RX6 124 (99999) ∈ wsX6_isHeard := by decide +kernel
set_option maxRecDepth 100000 in
set_option maxHeartbeats 4000000 in
theorem c_X6_isHeard (l : Launch) (E : gE) (a : Nat → Nat) (c : Cor) (h : Mar) (hat : vp_in (tAt c.1) 8) : ctv l yX6_isHeard wsX6_isHeard rmX6_isHeard E [.ref (a 0), .int c.1.2.1] (mW E a c h) (fun w => w = (mW E a ((hearBuy c.1), c.2.1, c.2.2.1, c.2.2.2.1, c.2.2.2.2.1, c.2.2.2.2.2.1, c.2.2.2.2.2.2.1, c.2.2.2.2.2.2.2.1, c.2.2.2.2.2.2.2.2) h)) := by
  refine mt_v (cc := cX6_isHeard) (maxL := 4) (ret := none) (lv0 := [(0, .ref (a 0)), (1, .int c.1.2.1)]) (by decide) rfl rfl (Nat.le_of_ble_eq_true rfl) (fun X cx gr hI => ?_)
  refine g_aload_n cx dX6_isHeard_0 0 rfl ?_
  refine g_iload_n cx dX6_isHeard_1 1 rfl ?_
  refine g_iconst (v := 1) cx dX6_isHeard_2 (by decide) ?_
  refine g_VSi (rest := []) (As := [.int c.1.2.1, .int 1]) cx hYX6_its gX6_isHeard_X6_its (c_X6_its1 l E a c h c.1.2.1 hat) rfl rfl rfl ⟨Nat.le_of_ble_eq_true rfl, Nat.le_of_ble_eq_true rfl⟩ rfl rfl (Nat.le_of_ble_eq_true rfl) ⟨Nat.le_of_ble_eq_true rfl, Nat.le_of_ble_eq_true rfl⟩ dX6_isHeard_3 (fun r w1 hp => ?_)
  obtain ⟨rfl, rfl⟩ := hp
  refine g_aload_n cx dX6_isHeard_6 0 rfl ?_
  refine g_iload_n cx dX6_isHeard_7 1 rfl ?_
  refine g_aload_n cx dX6_isHeard_8 0 rfl ?_
  refine g_get (C := RX6) (T := TX6) (N := 16) (v := .ref (a 1)) cx iwX6_isHeard_X6 0 0 rfl rfl (by decide) lkX6_isHeard_7 rfl dX6_isHeard_9 ?_
  refine g_iconst (v := 4) cx dX6_isHeard_12 (by decide) ?_
  refine g_iald cx 1 rfl rfl (by first | (unfold vp_in; decide +kernel) | exact si_K hat) dX6_isHeard_13 ?_
  refine g_top (y := c.1.2.2.2.2.1) (rfl) ?_
  refine g_VSi (rest := [.int (c.1.2.2.2.2.2.2.2.2.1 c.1.2.1.toNatClampNeg)]) (As := [.int c.1.2.1, .int c.1.2.2.2.2.1]) cx hYX6_mindsOf gX6_isHeard_X6_mindsOf (c_X6_mindsOf l E a c h c.1.2.1 c.1.2.2.2.2.1 hat) rfl rfl rfl ⟨Nat.le_of_ble_eq_true rfl, Nat.le_of_ble_eq_true rfl⟩ rfl rfl (Nat.le_of_ble_eq_true rfl) ⟨Nat.le_of_ble_eq_true rfl, Nat.le_of_ble_eq_true rfl⟩ dX6_isHeard_14 (fun r w1 hp => ?_)
  obtain ⟨rfl, rfl⟩ := hp
  refine g_iadd cx dX6_isHeard_17 ?_
  refine g_SPi (rest := []) (As := [.int ((c.1.2.2.2.2.2.2.2.2.1 c.1.2.1.toNatClampNeg) + (mindAt c.1 c.1.2.1 c.1.2.2.2.2.1))]) cx hYX6_atLeastNothing gX6_isHeard_X6_atLeastNothing (c_X6_atLeastNothing l E ((c.1.2.2.2.2.2.2.2.2.1 c.1.2.1.toNatClampNeg) + (mindAt c.1 c.1.2.1 c.1.2.2.2.2.1)) ) ⟨Nat.le_of_ble_eq_true rfl, Nat.le_of_ble_eq_true rfl⟩ rfl rfl (Nat.le_of_ble_eq_true rfl) ⟨Nat.le_of_ble_eq_true rfl, Nat.le_of_ble_eq_true rfl⟩ dX6_isHeard_18 ?_
  refine g_istore_n (lv' := [(2, .int (maxI 0 ((c.1.2.2.2.2.2.2.2.2.1 c.1.2.1.toNatClampNeg) + (mindAt c.1 c.1.2.1 c.1.2.2.2.2.1)))), (0, .ref (a 0)), (1, .int c.1.2.1)]) cx dX6_isHeard_21 (by decide) rfl ?_
  refine g_aload_n cx dX6_isHeard_22 1 rfl ?_
  refine g_get (C := RX6) (T := TX6) (N := 16) (v := .ref (a 1)) cx iwX6_isHeard_X6 0 0 rfl rfl (by decide) lkX6_isHeard_7 rfl dX6_isHeard_23 ?_
  refine g_iload_n cx dX6_isHeard_26 2 rfl ?_
  refine g_iconst (v := 1) cx dX6_isHeard_27 (by decide) ?_
  refine g_SPi (rest := [.ref (a 1)]) (As := [.int c.1.2.1, .int 1]) cx hYX6_spotOf gX6_isHeard_X6_spotOf (c_X6_spotOf l E c.1.2.1 1 ) ⟨Nat.le_of_ble_eq_true rfl, Nat.le_of_ble_eq_true rfl⟩ rfl rfl (Nat.le_of_ble_eq_true rfl) ⟨Nat.le_of_ble_eq_true rfl, Nat.le_of_ble_eq_true rfl⟩ dX6_isHeard_28 ?_
  refine g_iload_n cx dX6_isHeard_31 0 rfl ?_
  refine g_bipush (v := 20) cx dX6_isHeard_32 (by decide) ?_
  refine g_SPi (rest := [.int (spot c.1.2.1 1), .ref (a 1)]) (As := [.int (maxI 0 ((c.1.2.2.2.2.2.2.2.2.1 c.1.2.1.toNatClampNeg) + (mindAt c.1 c.1.2.1 c.1.2.2.2.2.1))), .int 20]) cx hYX6_heldTo gX6_isHeard_X6_heldTo (c_X6_heldTo l E (maxI 0 ((c.1.2.2.2.2.2.2.2.2.1 c.1.2.1.toNatClampNeg) + (mindAt c.1 c.1.2.1 c.1.2.2.2.2.1))) 20 ) ⟨Nat.le_of_ble_eq_true rfl, Nat.le_of_ble_eq_true rfl⟩ rfl rfl (Nat.le_of_ble_eq_true rfl) ⟨Nat.le_of_ble_eq_true rfl, Nat.le_of_ble_eq_true rfl⟩ dX6_isHeard_34 ?_
  refine g_iast (ws' := (mW E a ((c.1.1, c.1.2.1, c.1.2.2.1, c.1.2.2.2.1, c.1.2.2.2.2.1, c.1.2.2.2.2.2.1, c.1.2.2.2.2.2.2.1, c.1.2.2.2.2.2.2.2.1, upd c.1.2.2.2.2.2.2.2.2.1 c.1.2.1.toNatClampNeg (minI 20 (maxI 0 ((c.1.2.2.2.2.2.2.2.2.1 c.1.2.1.toNatClampNeg) + (mindAt c.1 c.1.2.1 c.1.2.2.2.2.1)))), c.1.2.2.2.2.2.2.2.2.2.1, c.1.2.2.2.2.2.2.2.2.2.2), c.2.1, c.2.2.1, c.2.2.2.1, c.2.2.2.2.1, c.2.2.2.2.2.1, c.2.2.2.2.2.2.1, c.2.2.2.2.2.2.2.1, c.2.2.2.2.2.2.2.2) h)) cx 1 rfl rfl (by first | (unfold vp_in; decide +kernel) | exact si_M hat) dX6_isHeard_37 (congrArg (fun f => List.set (mW E a c h) 1 (a 1, .inl (gI E, 39, .inl f))) (su_M hat c.1 (minI 20 (maxI 0 ((c.1.2.2.2.2.2.2.2.2.1 c.1.2.1.toNatClampNeg) + (mindAt c.1 c.1.2.1 c.1.2.2.2.2.1)))))) ?_
  refine g_aload_n cx dX6_isHeard_38 1 rfl ?_
  refine g_iload_n cx dX6_isHeard_39 2 rfl ?_
  refine g_aload_n cx dX6_isHeard_40 1 rfl ?_
  refine g_get (C := RX6) (T := TX6) (N := 16) (v := .ref (a 1)) cx iwX6_isHeard_X6 0 0 rfl rfl (by decide) lkX6_isHeard_7 rfl dX6_isHeard_41 ?_
  refine g_iconst (v := 4) cx dX6_isHeard_44 (by decide) ?_
  refine g_iald cx 1 rfl rfl (by first | (unfold vp_in; decide +kernel) | exact si_K hat) dX6_isHeard_45 ?_
  refine g_top (y := c.1.2.2.2.2.1) (rfl) ?_
  refine g_VSi (rest := []) (As := [.int c.1.2.1, .int c.1.2.2.2.2.1]) cx hYX6_buysOf gX6_isHeard_X6_buysOf (c_X6_buysOf l E a ((c.1.1, c.1.2.1, c.1.2.2.1, c.1.2.2.2.1, c.1.2.2.2.2.1, c.1.2.2.2.2.2.1, c.1.2.2.2.2.2.2.1, c.1.2.2.2.2.2.2.2.1, upd c.1.2.2.2.2.2.2.2.2.1 c.1.2.1.toNatClampNeg (minI 20 (maxI 0 ((c.1.2.2.2.2.2.2.2.2.1 c.1.2.1.toNatClampNeg) + (mindAt c.1 c.1.2.1 c.1.2.2.2.2.1)))), c.1.2.2.2.2.2.2.2.2.2.1, c.1.2.2.2.2.2.2.2.2.2.2), c.2.1, c.2.2.1, c.2.2.2.1, c.2.2.2.2.1, c.2.2.2.2.2.1, c.2.2.2.2.2.2.1, c.2.2.2.2.2.2.2.1, c.2.2.2.2.2.2.2.2) h c.1.2.1 c.1.2.2.2.2.1 hat) rfl rfl rfl ⟨Nat.le_of_ble_eq_true rfl, Nat.le_of_ble_eq_true rfl⟩ rfl rfl (Nat.le_of_ble_eq_true rfl) ⟨Nat.le_of_ble_eq_true rfl, Nat.le_of_ble_eq_true rfl⟩ dX6_isHeard_46 (fun r w1 hp => ?_)
  obtain ⟨rfl, rfl⟩ := hp
  refine g_istore_n (lv' := [(3, .int (buyAt (c.1.1, c.1.2.1, c.1.2.2.1, c.1.2.2.2.1, c.1.2.2.2.2.1, c.1.2.2.2.2.2.1, c.1.2.2.2.2.2.2.1, c.1.2.2.2.2.2.2.2.1, upd c.1.2.2.2.2.2.2.2.2.1 c.1.2.1.toNatClampNeg (minI 20 (maxI 0 ((c.1.2.2.2.2.2.2.2.2.1 c.1.2.1.toNatClampNeg) + (mindAt c.1 c.1.2.1 c.1.2.2.2.2.1)))), c.1.2.2.2.2.2.2.2.2.2.1, c.1.2.2.2.2.2.2.2.2.2.2) c.1.2.1 c.1.2.2.2.2.1)), (2, .int (maxI 0 ((c.1.2.2.2.2.2.2.2.2.1 c.1.2.1.toNatClampNeg) + (mindAt c.1 c.1.2.1 c.1.2.2.2.2.1)))), (0, .ref (a 0)), (1, .int c.1.2.1)]) cx dX6_isHeard_49 (by decide) rfl ?_
  refine g_aload_n cx dX6_isHeard_50 2 rfl ?_
  refine g_get (C := RX6) (T := TX6) (N := 16) (v := .ref (a 1)) cx iwX6_isHeard_X6 0 0 rfl rfl (by decide) lkX6_isHeard_7 rfl dX6_isHeard_51 ?_
  refine g_iconst (v := 3) cx dX6_isHeard_54 (by decide) ?_
  refine g_dup2 cx dX6_isHeard_55 rfl rfl ?_
  refine g_iald cx 1 rfl rfl (by first | (unfold vp_in; decide +kernel) | exact si_K hat) dX6_isHeard_56 ?_
  refine g_top (y := c.1.2.2.2.1) (rfl) ?_
  refine g_iload_n cx dX6_isHeard_57 0 rfl ?_
  refine g_isub cx dX6_isHeard_58 ?_
  refine g_iast (ws' := (mW E a ((c.1.1, c.1.2.1, c.1.2.2.1, (c.1.2.2.2.1 - (buyAt (c.1.1, c.1.2.1, c.1.2.2.1, c.1.2.2.2.1, c.1.2.2.2.2.1, c.1.2.2.2.2.2.1, c.1.2.2.2.2.2.2.1, c.1.2.2.2.2.2.2.2.1, upd c.1.2.2.2.2.2.2.2.2.1 c.1.2.1.toNatClampNeg (minI 20 (maxI 0 ((c.1.2.2.2.2.2.2.2.2.1 c.1.2.1.toNatClampNeg) + (mindAt c.1 c.1.2.1 c.1.2.2.2.2.1)))), c.1.2.2.2.2.2.2.2.2.2.1, c.1.2.2.2.2.2.2.2.2.2.2) c.1.2.1 c.1.2.2.2.2.1)), c.1.2.2.2.2.1, c.1.2.2.2.2.2.1, c.1.2.2.2.2.2.2.1, c.1.2.2.2.2.2.2.2.1, upd c.1.2.2.2.2.2.2.2.2.1 c.1.2.1.toNatClampNeg (minI 20 (maxI 0 ((c.1.2.2.2.2.2.2.2.2.1 c.1.2.1.toNatClampNeg) + (mindAt c.1 c.1.2.1 c.1.2.2.2.2.1)))), c.1.2.2.2.2.2.2.2.2.2.1, c.1.2.2.2.2.2.2.2.2.2.2), c.2.1, c.2.2.1, c.2.2.2.1, c.2.2.2.2.1, c.2.2.2.2.2.1, c.2.2.2.2.2.2.1, c.2.2.2.2.2.2.2.1, c.2.2.2.2.2.2.2.2) h)) cx 1 rfl rfl (by first | (unfold vp_in; decide +kernel) | exact si_K hat) dX6_isHeard_59 (congrArg (fun f => List.set (mW E a ((c.1.1, c.1.2.1, c.1.2.2.1, c.1.2.2.2.1, c.1.2.2.2.2.1, c.1.2.2.2.2.2.1, c.1.2.2.2.2.2.2.1, c.1.2.2.2.2.2.2.2.1, upd c.1.2.2.2.2.2.2.2.2.1 c.1.2.1.toNatClampNeg (minI 20 (maxI 0 ((c.1.2.2.2.2.2.2.2.2.1 c.1.2.1.toNatClampNeg) + (mindAt c.1 c.1.2.1 c.1.2.2.2.2.1)))), c.1.2.2.2.2.2.2.2.2.2.1, c.1.2.2.2.2.2.2.2.2.2.2), c.2.1, c.2.2.1, c.2.2.2.1, c.2.2.2.2.1, c.2.2.2.2.2.1, c.2.2.2.2.2.2.1, c.2.2.2.2.2.2.2.1, c.2.2.2.2.2.2.2.2) h) 1 (a 1, .inl (gI E, 39, .inl f))) (eu_3 (c.1.1, c.1.2.1, c.1.2.2.1, c.1.2.2.2.1, c.1.2.2.2.2.1, c.1.2.2.2.2.2.1, c.1.2.2.2.2.2.2.1, c.1.2.2.2.2.2.2.2.1, upd c.1.2.2.2.2.2.2.2.2.1 c.1.2.1.toNatClampNeg (minI 20 (maxI 0 ((c.1.2.2.2.2.2.2.2.2.1 c.1.2.1.toNatClampNeg) + (mindAt c.1 c.1.2.1 c.1.2.2.2.2.1)))), c.1.2.2.2.2.2.2.2.2.2.1, c.1.2.2.2.2.2.2.2.2.2.2) (c.1.2.2.2.1 - (buyAt (c.1.1, c.1.2.1, c.1.2.2.1, c.1.2.2.2.1, c.1.2.2.2.2.1, c.1.2.2.2.2.2.1, c.1.2.2.2.2.2.2.1, c.1.2.2.2.2.2.2.2.1, upd c.1.2.2.2.2.2.2.2.2.1 c.1.2.1.toNatClampNeg (minI 20 (maxI 0 ((c.1.2.2.2.2.2.2.2.2.1 c.1.2.1.toNatClampNeg) + (mindAt c.1 c.1.2.1 c.1.2.2.2.2.1)))), c.1.2.2.2.2.2.2.2.2.2.1, c.1.2.2.2.2.2.2.2.2.2.2) c.1.2.1 c.1.2.2.2.2.1)))) ?_
  refine g_aload_n cx dX6_isHeard_60 2 rfl ?_
  refine g_get (C := RX6) (T := TX6) (N := 16) (v := .ref (a 1)) cx iwX6_isHeard_X6 0 0 rfl rfl (by decide) lkX6_isHeard_7 rfl dX6_isHeard_61 ?_
  refine g_iload_n cx dX6_isHeard_64 3 rfl ?_
  refine g_iconst (v := 3) cx dX6_isHeard_65 (by decide) ?_
  refine g_SPi (rest := [.ref (a 1)]) (As := [.int c.1.2.1, .int 3]) cx hYX6_spotOf gX6_isHeard_X6_spotOf (c_X6_spotOf l E c.1.2.1 3 ) ⟨Nat.le_of_ble_eq_true rfl, Nat.le_of_ble_eq_true rfl⟩ rfl rfl (Nat.le_of_ble_eq_true rfl) ⟨Nat.le_of_ble_eq_true rfl, Nat.le_of_ble_eq_true rfl⟩ dX6_isHeard_66 ?_
  refine g_aload_n cx dX6_isHeard_69 2 rfl ?_
  refine g_iload_n cx dX6_isHeard_70 3 rfl ?_
  refine g_iconst (v := 3) cx dX6_isHeard_71 (by decide) ?_
  refine g_VSi (rest := [.int (spot c.1.2.1 3), .ref (a 1)]) (As := [.int c.1.2.1, .int 3]) cx hYX6_its gX6_isHeard_X6_its (c_X6_its3 l E a ((c.1.1, c.1.2.1, c.1.2.2.1, (c.1.2.2.2.1 - (buyAt (c.1.1, c.1.2.1, c.1.2.2.1, c.1.2.2.2.1, c.1.2.2.2.2.1, c.1.2.2.2.2.2.1, c.1.2.2.2.2.2.2.1, c.1.2.2.2.2.2.2.2.1, upd c.1.2.2.2.2.2.2.2.2.1 c.1.2.1.toNatClampNeg (minI 20 (maxI 0 ((c.1.2.2.2.2.2.2.2.2.1 c.1.2.1.toNatClampNeg) + (mindAt c.1 c.1.2.1 c.1.2.2.2.2.1)))), c.1.2.2.2.2.2.2.2.2.2.1, c.1.2.2.2.2.2.2.2.2.2.2) c.1.2.1 c.1.2.2.2.2.1)), c.1.2.2.2.2.1, c.1.2.2.2.2.2.1, c.1.2.2.2.2.2.2.1, c.1.2.2.2.2.2.2.2.1, upd c.1.2.2.2.2.2.2.2.2.1 c.1.2.1.toNatClampNeg (minI 20 (maxI 0 ((c.1.2.2.2.2.2.2.2.2.1 c.1.2.1.toNatClampNeg) + (mindAt c.1 c.1.2.1 c.1.2.2.2.2.1)))), c.1.2.2.2.2.2.2.2.2.2.1, c.1.2.2.2.2.2.2.2.2.2.2), c.2.1, c.2.2.1, c.2.2.2.1, c.2.2.2.2.1, c.2.2.2.2.2.1, c.2.2.2.2.2.2.1, c.2.2.2.2.2.2.2.1, c.2.2.2.2.2.2.2.2) h c.1.2.1 hat) rfl rfl rfl ⟨Nat.le_of_ble_eq_true rfl, Nat.le_of_ble_eq_true rfl⟩ rfl rfl (Nat.le_of_ble_eq_true rfl) ⟨Nat.le_of_ble_eq_true rfl, Nat.le_of_ble_eq_true rfl⟩ dX6_isHeard_72 (fun r w1 hp => ?_)
  obtain ⟨rfl, rfl⟩ := hp
  refine g_iload_n cx dX6_isHeard_75 0 rfl ?_
  refine g_iadd cx dX6_isHeard_76 ?_
  refine g_sipush (v := 9999) cx dX6_isHeard_77 (by decide) ?_
  refine g_SPi (rest := [.int (spot c.1.2.1 3), .ref (a 1)]) (As := [.int ((c.1.2.2.2.2.2.2.2.2.2.2 c.1.2.1.toNatClampNeg) + (buyAt (c.1.1, c.1.2.1, c.1.2.2.1, c.1.2.2.2.1, c.1.2.2.2.2.1, c.1.2.2.2.2.2.1, c.1.2.2.2.2.2.2.1, c.1.2.2.2.2.2.2.2.1, upd c.1.2.2.2.2.2.2.2.2.1 c.1.2.1.toNatClampNeg (minI 20 (maxI 0 ((c.1.2.2.2.2.2.2.2.2.1 c.1.2.1.toNatClampNeg) + (mindAt c.1 c.1.2.1 c.1.2.2.2.2.1)))), c.1.2.2.2.2.2.2.2.2.2.1, c.1.2.2.2.2.2.2.2.2.2.2) c.1.2.1 c.1.2.2.2.2.1)), .int 9999]) cx hYX6_heldTo gX6_isHeard_X6_heldTo (c_X6_heldTo l E ((c.1.2.2.2.2.2.2.2.2.2.2 c.1.2.1.toNatClampNeg) + (buyAt (c.1.1, c.1.2.1, c.1.2.2.1, c.1.2.2.2.1, c.1.2.2.2.2.1, c.1.2.2.2.2.2.1, c.1.2.2.2.2.2.2.1, c.1.2.2.2.2.2.2.2.1, upd c.1.2.2.2.2.2.2.2.2.1 c.1.2.1.toNatClampNeg (minI 20 (maxI 0 ((c.1.2.2.2.2.2.2.2.2.1 c.1.2.1.toNatClampNeg) + (mindAt c.1 c.1.2.1 c.1.2.2.2.2.1)))), c.1.2.2.2.2.2.2.2.2.2.1, c.1.2.2.2.2.2.2.2.2.2.2) c.1.2.1 c.1.2.2.2.2.1)) 9999 ) ⟨Nat.le_of_ble_eq_true rfl, Nat.le_of_ble_eq_true rfl⟩ rfl rfl (Nat.le_of_ble_eq_true rfl) ⟨Nat.le_of_ble_eq_true rfl, Nat.le_of_ble_eq_true rfl⟩ dX6_isHeard_80 ?_
  refine g_iast (ws' := (mW E a ((c.1.1, c.1.2.1, c.1.2.2.1, (c.1.2.2.2.1 - (buyAt (c.1.1, c.1.2.1, c.1.2.2.1, c.1.2.2.2.1, c.1.2.2.2.2.1, c.1.2.2.2.2.2.1, c.1.2.2.2.2.2.2.1, c.1.2.2.2.2.2.2.2.1, upd c.1.2.2.2.2.2.2.2.2.1 c.1.2.1.toNatClampNeg (minI 20 (maxI 0 ((c.1.2.2.2.2.2.2.2.2.1 c.1.2.1.toNatClampNeg) + (mindAt c.1 c.1.2.1 c.1.2.2.2.2.1)))), c.1.2.2.2.2.2.2.2.2.2.1, c.1.2.2.2.2.2.2.2.2.2.2) c.1.2.1 c.1.2.2.2.2.1)), c.1.2.2.2.2.1, c.1.2.2.2.2.2.1, c.1.2.2.2.2.2.2.1, c.1.2.2.2.2.2.2.2.1, upd c.1.2.2.2.2.2.2.2.2.1 c.1.2.1.toNatClampNeg (minI 20 (maxI 0 ((c.1.2.2.2.2.2.2.2.2.1 c.1.2.1.toNatClampNeg) + (mindAt c.1 c.1.2.1 c.1.2.2.2.2.1)))), c.1.2.2.2.2.2.2.2.2.2.1, upd c.1.2.2.2.2.2.2.2.2.2.2 c.1.2.1.toNatClampNeg (minI 9999 ((c.1.2.2.2.2.2.2.2.2.2.2 c.1.2.1.toNatClampNeg) + (buyAt (c.1.1, c.1.2.1, c.1.2.2.1, c.1.2.2.2.1, c.1.2.2.2.2.1, c.1.2.2.2.2.2.1, c.1.2.2.2.2.2.2.1, c.1.2.2.2.2.2.2.2.1, upd c.1.2.2.2.2.2.2.2.2.1 c.1.2.1.toNatClampNeg (minI 20 (maxI 0 ((c.1.2.2.2.2.2.2.2.2.1 c.1.2.1.toNatClampNeg) + (mindAt c.1 c.1.2.1 c.1.2.2.2.2.1)))), c.1.2.2.2.2.2.2.2.2.2.1, c.1.2.2.2.2.2.2.2.2.2.2) c.1.2.1 c.1.2.2.2.2.1)))), c.2.1, c.2.2.1, c.2.2.2.1, c.2.2.2.2.1, c.2.2.2.2.2.1, c.2.2.2.2.2.2.1, c.2.2.2.2.2.2.2.1, c.2.2.2.2.2.2.2.2) h)) cx 1 rfl rfl (by first | (unfold vp_in; decide +kernel) | exact si_A hat) dX6_isHeard_83 (congrArg (fun f => List.set (mW E a ((c.1.1, c.1.2.1, c.1.2.2.1, (c.1.2.2.2.1 - (buyAt (c.1.1, c.1.2.1, c.1.2.2.1, c.1.2.2.2.1, c.1.2.2.2.2.1, c.1.2.2.2.2.2.1, c.1.2.2.2.2.2.2.1, c.1.2.2.2.2.2.2.2.1, upd c.1.2.2.2.2.2.2.2.2.1 c.1.2.1.toNatClampNeg (minI 20 (maxI 0 ((c.1.2.2.2.2.2.2.2.2.1 c.1.2.1.toNatClampNeg) + (mindAt c.1 c.1.2.1 c.1.2.2.2.2.1)))), c.1.2.2.2.2.2.2.2.2.2.1, c.1.2.2.2.2.2.2.2.2.2.2) c.1.2.1 c.1.2.2.2.2.1)), c.1.2.2.2.2.1, c.1.2.2.2.2.2.1, c.1.2.2.2.2.2.2.1, c.1.2.2.2.2.2.2.2.1, upd c.1.2.2.2.2.2.2.2.2.1 c.1.2.1.toNatClampNeg (minI 20 (maxI 0 ((c.1.2.2.2.2.2.2.2.2.1 c.1.2.1.toNatClampNeg) + (mindAt c.1 c.1.2.1 c.1.2.2.2.2.1)))), c.1.2.2.2.2.2.2.2.2.2.1, c.1.2.2.2.2.2.2.2.2.2.2), c.2.1, c.2.2.1, c.2.2.2.1, c.2.2.2.2.1, c.2.2.2.2.2.1, c.2.2.2.2.2.2.1, c.2.2.2.2.2.2.2.1, c.2.2.2.2.2.2.2.2) h) 1 (a 1, .inl (gI E, 39, .inl f))) (su_A hat (c.1.1, c.1.2.1, c.1.2.2.1, (c.1.2.2.2.1 - (buyAt (c.1.1, c.1.2.1, c.1.2.2.1, c.1.2.2.2.1, c.1.2.2.2.2.1, c.1.2.2.2.2.2.1, c.1.2.2.2.2.2.2.1, c.1.2.2.2.2.2.2.2.1, upd c.1.2.2.2.2.2.2.2.2.1 c.1.2.1.toNatClampNeg (minI 20 (maxI 0 ((c.1.2.2.2.2.2.2.2.2.1 c.1.2.1.toNatClampNeg) + (mindAt c.1 c.1.2.1 c.1.2.2.2.2.1)))), c.1.2.2.2.2.2.2.2.2.2.1, c.1.2.2.2.2.2.2.2.2.2.2) c.1.2.1 c.1.2.2.2.2.1)), c.1.2.2.2.2.1, c.1.2.2.2.2.2.1, c.1.2.2.2.2.2.2.1, c.1.2.2.2.2.2.2.2.1, upd c.1.2.2.2.2.2.2.2.2.1 c.1.2.1.toNatClampNeg (minI 20 (maxI 0 ((c.1.2.2.2.2.2.2.2.2.1 c.1.2.1.toNatClampNeg) + (mindAt c.1 c.1.2.1 c.1.2.2.2.2.1)))), c.1.2.2.2.2.2.2.2.2.2.1, c.1.2.2.2.2.2.2.2.2.2.2) (minI 9999 ((c.1.2.2.2.2.2.2.2.2.2.2 c.1.2.1.toNatClampNeg) + (buyAt (c.1.1, c.1.2.1, c.1.2.2.1, c.1.2.2.2.1, c.1.2.2.2.2.1, c.1.2.2.2.2.2.1, c.1.2.2.2.2.2.2.1, c.1.2.2.2.2.2.2.2.1, upd c.1.2.2.2.2.2.2.2.2.1 c.1.2.1.toNatClampNeg (minI 20 (maxI 0 ((c.1.2.2.2.2.2.2.2.2.1 c.1.2.1.toNatClampNeg) + (mindAt c.1 c.1.2.1 c.1.2.2.2.2.1)))), c.1.2.2.2.2.2.2.2.2.2.1, c.1.2.2.2.2.2.2.2.2.2.2) c.1.2.1 c.1.2.2.2.2.1))))) ?_
  refine g_aload_n cx dX6_isHeard_84 2 rfl ?_
  refine g_get (C := RX6) (T := TX6) (N := 16) (v := .ref (a 1)) cx iwX6_isHeard_X6 0 0 rfl rfl (by decide) lkX6_isHeard_7 rfl dX6_isHeard_85 ?_
  refine g_iload_n cx dX6_isHeard_88 3 rfl ?_
  refine g_iconst (v := 2) cx dX6_isHeard_89 (by decide) ?_
  refine g_SPi (rest := [.ref (a 1)]) (As := [.int c.1.2.1, .int 2]) cx hYX6_spotOf gX6_isHeard_X6_spotOf (c_X6_spotOf l E c.1.2.1 2 ) ⟨Nat.le_of_ble_eq_true rfl, Nat.le_of_ble_eq_true rfl⟩ rfl rfl (Nat.le_of_ble_eq_true rfl) ⟨Nat.le_of_ble_eq_true rfl, Nat.le_of_ble_eq_true rfl⟩ dX6_isHeard_90 ?_
  refine g_dup2 cx dX6_isHeard_93 rfl rfl ?_
  refine g_iald cx 1 rfl rfl (by first | (unfold vp_in; decide +kernel) | exact si_P hat) dX6_isHeard_94 ?_
  refine g_top (y := c.1.2.2.2.2.2.2.2.2.2.1 c.1.2.1.toNatClampNeg) (sp_P hat (c.1.1, c.1.2.1, c.1.2.2.1, (c.1.2.2.2.1 - (buyAt (c.1.1, c.1.2.1, c.1.2.2.1, c.1.2.2.2.1, c.1.2.2.2.2.1, c.1.2.2.2.2.2.1, c.1.2.2.2.2.2.2.1, c.1.2.2.2.2.2.2.2.1, upd c.1.2.2.2.2.2.2.2.2.1 c.1.2.1.toNatClampNeg (minI 20 (maxI 0 ((c.1.2.2.2.2.2.2.2.2.1 c.1.2.1.toNatClampNeg) + (mindAt c.1 c.1.2.1 c.1.2.2.2.2.1)))), c.1.2.2.2.2.2.2.2.2.2.1, c.1.2.2.2.2.2.2.2.2.2.2) c.1.2.1 c.1.2.2.2.2.1)), c.1.2.2.2.2.1, c.1.2.2.2.2.2.1, c.1.2.2.2.2.2.2.1, c.1.2.2.2.2.2.2.2.1, upd c.1.2.2.2.2.2.2.2.2.1 c.1.2.1.toNatClampNeg (minI 20 (maxI 0 ((c.1.2.2.2.2.2.2.2.2.1 c.1.2.1.toNatClampNeg) + (mindAt c.1 c.1.2.1 c.1.2.2.2.2.1)))), c.1.2.2.2.2.2.2.2.2.2.1, upd c.1.2.2.2.2.2.2.2.2.2.2 c.1.2.1.toNatClampNeg (minI 9999 ((c.1.2.2.2.2.2.2.2.2.2.2 c.1.2.1.toNatClampNeg) + (buyAt (c.1.1, c.1.2.1, c.1.2.2.1, c.1.2.2.2.1, c.1.2.2.2.2.1, c.1.2.2.2.2.2.1, c.1.2.2.2.2.2.2.1, c.1.2.2.2.2.2.2.2.1, upd c.1.2.2.2.2.2.2.2.2.1 c.1.2.1.toNatClampNeg (minI 20 (maxI 0 ((c.1.2.2.2.2.2.2.2.2.1 c.1.2.1.toNatClampNeg) + (mindAt c.1 c.1.2.1 c.1.2.2.2.2.1)))), c.1.2.2.2.2.2.2.2.2.2.1, c.1.2.2.2.2.2.2.2.2.2.2) c.1.2.1 c.1.2.2.2.2.1))))) ?_
  refine g_iconst (v := 2) cx dX6_isHeard_95 (by decide) ?_
  refine g_iload_n cx dX6_isHeard_96 0 rfl ?_
  refine g_imul cx dX6_isHeard_97 ?_
  refine g_isub cx dX6_isHeard_98 ?_
  refine g_iast (ws' := (mW E a ((c.1.1, c.1.2.1, c.1.2.2.1, (c.1.2.2.2.1 - (buyAt (c.1.1, c.1.2.1, c.1.2.2.1, c.1.2.2.2.1, c.1.2.2.2.2.1, c.1.2.2.2.2.2.1, c.1.2.2.2.2.2.2.1, c.1.2.2.2.2.2.2.2.1, upd c.1.2.2.2.2.2.2.2.2.1 c.1.2.1.toNatClampNeg (minI 20 (maxI 0 ((c.1.2.2.2.2.2.2.2.2.1 c.1.2.1.toNatClampNeg) + (mindAt c.1 c.1.2.1 c.1.2.2.2.2.1)))), c.1.2.2.2.2.2.2.2.2.2.1, c.1.2.2.2.2.2.2.2.2.2.2) c.1.2.1 c.1.2.2.2.2.1)), c.1.2.2.2.2.1, c.1.2.2.2.2.2.1, c.1.2.2.2.2.2.2.1, c.1.2.2.2.2.2.2.2.1, upd c.1.2.2.2.2.2.2.2.2.1 c.1.2.1.toNatClampNeg (minI 20 (maxI 0 ((c.1.2.2.2.2.2.2.2.2.1 c.1.2.1.toNatClampNeg) + (mindAt c.1 c.1.2.1 c.1.2.2.2.2.1)))), upd c.1.2.2.2.2.2.2.2.2.2.1 c.1.2.1.toNatClampNeg ((c.1.2.2.2.2.2.2.2.2.2.1 c.1.2.1.toNatClampNeg) - (2 * (buyAt (c.1.1, c.1.2.1, c.1.2.2.1, c.1.2.2.2.1, c.1.2.2.2.2.1, c.1.2.2.2.2.2.1, c.1.2.2.2.2.2.2.1, c.1.2.2.2.2.2.2.2.1, upd c.1.2.2.2.2.2.2.2.2.1 c.1.2.1.toNatClampNeg (minI 20 (maxI 0 ((c.1.2.2.2.2.2.2.2.2.1 c.1.2.1.toNatClampNeg) + (mindAt c.1 c.1.2.1 c.1.2.2.2.2.1)))), c.1.2.2.2.2.2.2.2.2.2.1, c.1.2.2.2.2.2.2.2.2.2.2) c.1.2.1 c.1.2.2.2.2.1))), upd c.1.2.2.2.2.2.2.2.2.2.2 c.1.2.1.toNatClampNeg (minI 9999 ((c.1.2.2.2.2.2.2.2.2.2.2 c.1.2.1.toNatClampNeg) + (buyAt (c.1.1, c.1.2.1, c.1.2.2.1, c.1.2.2.2.1, c.1.2.2.2.2.1, c.1.2.2.2.2.2.1, c.1.2.2.2.2.2.2.1, c.1.2.2.2.2.2.2.2.1, upd c.1.2.2.2.2.2.2.2.2.1 c.1.2.1.toNatClampNeg (minI 20 (maxI 0 ((c.1.2.2.2.2.2.2.2.2.1 c.1.2.1.toNatClampNeg) + (mindAt c.1 c.1.2.1 c.1.2.2.2.2.1)))), c.1.2.2.2.2.2.2.2.2.2.1, c.1.2.2.2.2.2.2.2.2.2.2) c.1.2.1 c.1.2.2.2.2.1)))), c.2.1, c.2.2.1, c.2.2.2.1, c.2.2.2.2.1, c.2.2.2.2.2.1, c.2.2.2.2.2.2.1, c.2.2.2.2.2.2.2.1, c.2.2.2.2.2.2.2.2) h)) cx 1 rfl rfl (by first | (unfold vp_in; decide +kernel) | exact si_P hat) dX6_isHeard_99 (congrArg (fun f => List.set (mW E a ((c.1.1, c.1.2.1, c.1.2.2.1, (c.1.2.2.2.1 - (buyAt (c.1.1, c.1.2.1, c.1.2.2.1, c.1.2.2.2.1, c.1.2.2.2.2.1, c.1.2.2.2.2.2.1, c.1.2.2.2.2.2.2.1, c.1.2.2.2.2.2.2.2.1, upd c.1.2.2.2.2.2.2.2.2.1 c.1.2.1.toNatClampNeg (minI 20 (maxI 0 ((c.1.2.2.2.2.2.2.2.2.1 c.1.2.1.toNatClampNeg) + (mindAt c.1 c.1.2.1 c.1.2.2.2.2.1)))), c.1.2.2.2.2.2.2.2.2.2.1, c.1.2.2.2.2.2.2.2.2.2.2) c.1.2.1 c.1.2.2.2.2.1)), c.1.2.2.2.2.1, c.1.2.2.2.2.2.1, c.1.2.2.2.2.2.2.1, c.1.2.2.2.2.2.2.2.1, upd c.1.2.2.2.2.2.2.2.2.1 c.1.2.1.toNatClampNeg (minI 20 (maxI 0 ((c.1.2.2.2.2.2.2.2.2.1 c.1.2.1.toNatClampNeg) + (mindAt c.1 c.1.2.1 c.1.2.2.2.2.1)))), c.1.2.2.2.2.2.2.2.2.2.1, upd c.1.2.2.2.2.2.2.2.2.2.2 c.1.2.1.toNatClampNeg (minI 9999 ((c.1.2.2.2.2.2.2.2.2.2.2 c.1.2.1.toNatClampNeg) + (buyAt (c.1.1, c.1.2.1, c.1.2.2.1, c.1.2.2.2.1, c.1.2.2.2.2.1, c.1.2.2.2.2.2.1, c.1.2.2.2.2.2.2.1, c.1.2.2.2.2.2.2.2.1, upd c.1.2.2.2.2.2.2.2.2.1 c.1.2.1.toNatClampNeg (minI 20 (maxI 0 ((c.1.2.2.2.2.2.2.2.2.1 c.1.2.1.toNatClampNeg) + (mindAt c.1 c.1.2.1 c.1.2.2.2.2.1)))), c.1.2.2.2.2.2.2.2.2.2.1, c.1.2.2.2.2.2.2.2.2.2.2) c.1.2.1 c.1.2.2.2.2.1)))), c.2.1, c.2.2.1, c.2.2.2.1, c.2.2.2.2.1, c.2.2.2.2.2.1, c.2.2.2.2.2.2.1, c.2.2.2.2.2.2.2.1, c.2.2.2.2.2.2.2.2) h) 1 (a 1, .inl (gI E, 39, .inl f))) (su_P hat (c.1.1, c.1.2.1, c.1.2.2.1, (c.1.2.2.2.1 - (buyAt (c.1.1, c.1.2.1, c.1.2.2.1, c.1.2.2.2.1, c.1.2.2.2.2.1, c.1.2.2.2.2.2.1, c.1.2.2.2.2.2.2.1, c.1.2.2.2.2.2.2.2.1, upd c.1.2.2.2.2.2.2.2.2.1 c.1.2.1.toNatClampNeg (minI 20 (maxI 0 ((c.1.2.2.2.2.2.2.2.2.1 c.1.2.1.toNatClampNeg) + (mindAt c.1 c.1.2.1 c.1.2.2.2.2.1)))), c.1.2.2.2.2.2.2.2.2.2.1, c.1.2.2.2.2.2.2.2.2.2.2) c.1.2.1 c.1.2.2.2.2.1)), c.1.2.2.2.2.1, c.1.2.2.2.2.2.1, c.1.2.2.2.2.2.2.1, c.1.2.2.2.2.2.2.2.1, upd c.1.2.2.2.2.2.2.2.2.1 c.1.2.1.toNatClampNeg (minI 20 (maxI 0 ((c.1.2.2.2.2.2.2.2.2.1 c.1.2.1.toNatClampNeg) + (mindAt c.1 c.1.2.1 c.1.2.2.2.2.1)))), c.1.2.2.2.2.2.2.2.2.2.1, upd c.1.2.2.2.2.2.2.2.2.2.2 c.1.2.1.toNatClampNeg (minI 9999 ((c.1.2.2.2.2.2.2.2.2.2.2 c.1.2.1.toNatClampNeg) + (buyAt (c.1.1, c.1.2.1, c.1.2.2.1, c.1.2.2.2.1, c.1.2.2.2.2.1, c.1.2.2.2.2.2.1, c.1.2.2.2.2.2.2.1, c.1.2.2.2.2.2.2.2.1, upd c.1.2.2.2.2.2.2.2.2.1 c.1.2.1.toNatClampNeg (minI 20 (maxI 0 ((c.1.2.2.2.2.2.2.2.2.1 c.1.2.1.toNatClampNeg) + (mindAt c.1 c.1.2.1 c.1.2.2.2.2.1)))), c.1.2.2.2.2.2.2.2.2.2.1, c.1.2.2.2.2.2.2.2.2.2.2) c.1.2.1 c.1.2.2.2.2.1)))) ((c.1.2.2.2.2.2.2.2.2.2.1 c.1.2.1.toNatClampNeg) - (2 * (buyAt (c.1.1, c.1.2.1, c.1.2.2.1, c.1.2.2.2.1, c.1.2.2.2.2.1, c.1.2.2.2.2.2.1, c.1.2.2.2.2.2.2.1, c.1.2.2.2.2.2.2.2.1, upd c.1.2.2.2.2.2.2.2.2.1 c.1.2.1.toNatClampNeg (minI 20 (maxI 0 ((c.1.2.2.2.2.2.2.2.2.1 c.1.2.1.toNatClampNeg) + (mindAt c.1 c.1.2.1 c.1.2.2.2.2.1)))), c.1.2.2.2.2.2.2.2.2.2.1, c.1.2.2.2.2.2.2.2.2.2.2) c.1.2.1 c.1.2.2.2.2.1))))) ?_
  refine g_aload_n cx dX6_isHeard_100 2 rfl ?_
  refine g_get (C := RX6) (T := TX6) (N := 16) (v := .ref (a 1)) cx iwX6_isHeard_X6 0 0 rfl rfl (by decide) lkX6_isHeard_7 rfl dX6_isHeard_101 ?_
  refine g_bipush (v := 6) cx dX6_isHeard_104 (by decide) ?_
  refine g_aload_n cx dX6_isHeard_106 2 rfl ?_
  refine g_get (C := RX6) (T := TX6) (N := 16) (v := .ref (a 1)) cx iwX6_isHeard_X6 0 0 rfl rfl (by decide) lkX6_isHeard_7 rfl dX6_isHeard_107 ?_
  refine g_bipush (v := 6) cx dX6_isHeard_110 (by decide) ?_
  refine g_iald cx 1 rfl rfl (by first | (unfold vp_in; decide +kernel) | exact si_K hat) dX6_isHeard_112 ?_
  refine g_top (y := c.1.2.2.2.2.2.2.1) (rfl) ?_
  refine g_iconst (v := 2) cx dX6_isHeard_113 (by decide) ?_
  refine g_iload_n cx dX6_isHeard_114 0 rfl ?_
  refine g_imul cx dX6_isHeard_115 ?_
  refine g_iadd cx dX6_isHeard_116 ?_
  refine g_ldc cx m1X6_isHeard_c124 dX6_isHeard_117 ?_
  refine g_SPi (rest := [.int 6, .ref (a 1)]) (As := [.int (c.1.2.2.2.2.2.2.1 + (2 * (buyAt (c.1.1, c.1.2.1, c.1.2.2.1, c.1.2.2.2.1, c.1.2.2.2.2.1, c.1.2.2.2.2.2.1, c.1.2.2.2.2.2.2.1, c.1.2.2.2.2.2.2.2.1, upd c.1.2.2.2.2.2.2.2.2.1 c.1.2.1.toNatClampNeg (minI 20 (maxI 0 ((c.1.2.2.2.2.2.2.2.2.1 c.1.2.1.toNatClampNeg) + (mindAt c.1 c.1.2.1 c.1.2.2.2.2.1)))), c.1.2.2.2.2.2.2.2.2.2.1, c.1.2.2.2.2.2.2.2.2.2.2) c.1.2.1 c.1.2.2.2.2.1))), .int 99999]) cx hYX6_heldTo gX6_isHeard_X6_heldTo (c_X6_heldTo l E (c.1.2.2.2.2.2.2.1 + (2 * (buyAt (c.1.1, c.1.2.1, c.1.2.2.1, c.1.2.2.2.1, c.1.2.2.2.2.1, c.1.2.2.2.2.2.1, c.1.2.2.2.2.2.2.1, c.1.2.2.2.2.2.2.2.1, upd c.1.2.2.2.2.2.2.2.2.1 c.1.2.1.toNatClampNeg (minI 20 (maxI 0 ((c.1.2.2.2.2.2.2.2.2.1 c.1.2.1.toNatClampNeg) + (mindAt c.1 c.1.2.1 c.1.2.2.2.2.1)))), c.1.2.2.2.2.2.2.2.2.2.1, c.1.2.2.2.2.2.2.2.2.2.2) c.1.2.1 c.1.2.2.2.2.1))) 99999 ) ⟨Nat.le_of_ble_eq_true rfl, Nat.le_of_ble_eq_true rfl⟩ rfl rfl (Nat.le_of_ble_eq_true rfl) ⟨Nat.le_of_ble_eq_true rfl, Nat.le_of_ble_eq_true rfl⟩ dX6_isHeard_119 ?_
  refine g_iast (ws' := (mW E a ((c.1.1, c.1.2.1, c.1.2.2.1, (c.1.2.2.2.1 - (buyAt (c.1.1, c.1.2.1, c.1.2.2.1, c.1.2.2.2.1, c.1.2.2.2.2.1, c.1.2.2.2.2.2.1, c.1.2.2.2.2.2.2.1, c.1.2.2.2.2.2.2.2.1, upd c.1.2.2.2.2.2.2.2.2.1 c.1.2.1.toNatClampNeg (minI 20 (maxI 0 ((c.1.2.2.2.2.2.2.2.2.1 c.1.2.1.toNatClampNeg) + (mindAt c.1 c.1.2.1 c.1.2.2.2.2.1)))), c.1.2.2.2.2.2.2.2.2.2.1, c.1.2.2.2.2.2.2.2.2.2.2) c.1.2.1 c.1.2.2.2.2.1)), c.1.2.2.2.2.1, c.1.2.2.2.2.2.1, (minI 99999 (c.1.2.2.2.2.2.2.1 + (2 * (buyAt (c.1.1, c.1.2.1, c.1.2.2.1, c.1.2.2.2.1, c.1.2.2.2.2.1, c.1.2.2.2.2.2.1, c.1.2.2.2.2.2.2.1, c.1.2.2.2.2.2.2.2.1, upd c.1.2.2.2.2.2.2.2.2.1 c.1.2.1.toNatClampNeg (minI 20 (maxI 0 ((c.1.2.2.2.2.2.2.2.2.1 c.1.2.1.toNatClampNeg) + (mindAt c.1 c.1.2.1 c.1.2.2.2.2.1)))), c.1.2.2.2.2.2.2.2.2.2.1, c.1.2.2.2.2.2.2.2.2.2.2) c.1.2.1 c.1.2.2.2.2.1)))), c.1.2.2.2.2.2.2.2.1, upd c.1.2.2.2.2.2.2.2.2.1 c.1.2.1.toNatClampNeg (minI 20 (maxI 0 ((c.1.2.2.2.2.2.2.2.2.1 c.1.2.1.toNatClampNeg) + (mindAt c.1 c.1.2.1 c.1.2.2.2.2.1)))), upd c.1.2.2.2.2.2.2.2.2.2.1 c.1.2.1.toNatClampNeg ((c.1.2.2.2.2.2.2.2.2.2.1 c.1.2.1.toNatClampNeg) - (2 * (buyAt (c.1.1, c.1.2.1, c.1.2.2.1, c.1.2.2.2.1, c.1.2.2.2.2.1, c.1.2.2.2.2.2.1, c.1.2.2.2.2.2.2.1, c.1.2.2.2.2.2.2.2.1, upd c.1.2.2.2.2.2.2.2.2.1 c.1.2.1.toNatClampNeg (minI 20 (maxI 0 ((c.1.2.2.2.2.2.2.2.2.1 c.1.2.1.toNatClampNeg) + (mindAt c.1 c.1.2.1 c.1.2.2.2.2.1)))), c.1.2.2.2.2.2.2.2.2.2.1, c.1.2.2.2.2.2.2.2.2.2.2) c.1.2.1 c.1.2.2.2.2.1))), upd c.1.2.2.2.2.2.2.2.2.2.2 c.1.2.1.toNatClampNeg (minI 9999 ((c.1.2.2.2.2.2.2.2.2.2.2 c.1.2.1.toNatClampNeg) + (buyAt (c.1.1, c.1.2.1, c.1.2.2.1, c.1.2.2.2.1, c.1.2.2.2.2.1, c.1.2.2.2.2.2.1, c.1.2.2.2.2.2.2.1, c.1.2.2.2.2.2.2.2.1, upd c.1.2.2.2.2.2.2.2.2.1 c.1.2.1.toNatClampNeg (minI 20 (maxI 0 ((c.1.2.2.2.2.2.2.2.2.1 c.1.2.1.toNatClampNeg) + (mindAt c.1 c.1.2.1 c.1.2.2.2.2.1)))), c.1.2.2.2.2.2.2.2.2.2.1, c.1.2.2.2.2.2.2.2.2.2.2) c.1.2.1 c.1.2.2.2.2.1)))), c.2.1, c.2.2.1, c.2.2.2.1, c.2.2.2.2.1, c.2.2.2.2.2.1, c.2.2.2.2.2.2.1, c.2.2.2.2.2.2.2.1, c.2.2.2.2.2.2.2.2) h)) cx 1 rfl rfl (by first | (unfold vp_in; decide +kernel) | exact si_K hat) dX6_isHeard_122 (congrArg (fun f => List.set (mW E a ((c.1.1, c.1.2.1, c.1.2.2.1, (c.1.2.2.2.1 - (buyAt (c.1.1, c.1.2.1, c.1.2.2.1, c.1.2.2.2.1, c.1.2.2.2.2.1, c.1.2.2.2.2.2.1, c.1.2.2.2.2.2.2.1, c.1.2.2.2.2.2.2.2.1, upd c.1.2.2.2.2.2.2.2.2.1 c.1.2.1.toNatClampNeg (minI 20 (maxI 0 ((c.1.2.2.2.2.2.2.2.2.1 c.1.2.1.toNatClampNeg) + (mindAt c.1 c.1.2.1 c.1.2.2.2.2.1)))), c.1.2.2.2.2.2.2.2.2.2.1, c.1.2.2.2.2.2.2.2.2.2.2) c.1.2.1 c.1.2.2.2.2.1)), c.1.2.2.2.2.1, c.1.2.2.2.2.2.1, c.1.2.2.2.2.2.2.1, c.1.2.2.2.2.2.2.2.1, upd c.1.2.2.2.2.2.2.2.2.1 c.1.2.1.toNatClampNeg (minI 20 (maxI 0 ((c.1.2.2.2.2.2.2.2.2.1 c.1.2.1.toNatClampNeg) + (mindAt c.1 c.1.2.1 c.1.2.2.2.2.1)))), upd c.1.2.2.2.2.2.2.2.2.2.1 c.1.2.1.toNatClampNeg ((c.1.2.2.2.2.2.2.2.2.2.1 c.1.2.1.toNatClampNeg) - (2 * (buyAt (c.1.1, c.1.2.1, c.1.2.2.1, c.1.2.2.2.1, c.1.2.2.2.2.1, c.1.2.2.2.2.2.1, c.1.2.2.2.2.2.2.1, c.1.2.2.2.2.2.2.2.1, upd c.1.2.2.2.2.2.2.2.2.1 c.1.2.1.toNatClampNeg (minI 20 (maxI 0 ((c.1.2.2.2.2.2.2.2.2.1 c.1.2.1.toNatClampNeg) + (mindAt c.1 c.1.2.1 c.1.2.2.2.2.1)))), c.1.2.2.2.2.2.2.2.2.2.1, c.1.2.2.2.2.2.2.2.2.2.2) c.1.2.1 c.1.2.2.2.2.1))), upd c.1.2.2.2.2.2.2.2.2.2.2 c.1.2.1.toNatClampNeg (minI 9999 ((c.1.2.2.2.2.2.2.2.2.2.2 c.1.2.1.toNatClampNeg) + (buyAt (c.1.1, c.1.2.1, c.1.2.2.1, c.1.2.2.2.1, c.1.2.2.2.2.1, c.1.2.2.2.2.2.1, c.1.2.2.2.2.2.2.1, c.1.2.2.2.2.2.2.2.1, upd c.1.2.2.2.2.2.2.2.2.1 c.1.2.1.toNatClampNeg (minI 20 (maxI 0 ((c.1.2.2.2.2.2.2.2.2.1 c.1.2.1.toNatClampNeg) + (mindAt c.1 c.1.2.1 c.1.2.2.2.2.1)))), c.1.2.2.2.2.2.2.2.2.2.1, c.1.2.2.2.2.2.2.2.2.2.2) c.1.2.1 c.1.2.2.2.2.1)))), c.2.1, c.2.2.1, c.2.2.2.1, c.2.2.2.2.1, c.2.2.2.2.2.1, c.2.2.2.2.2.2.1, c.2.2.2.2.2.2.2.1, c.2.2.2.2.2.2.2.2) h) 1 (a 1, .inl (gI E, 39, .inl f))) (eu_6 (c.1.1, c.1.2.1, c.1.2.2.1, (c.1.2.2.2.1 - (buyAt (c.1.1, c.1.2.1, c.1.2.2.1, c.1.2.2.2.1, c.1.2.2.2.2.1, c.1.2.2.2.2.2.1, c.1.2.2.2.2.2.2.1, c.1.2.2.2.2.2.2.2.1, upd c.1.2.2.2.2.2.2.2.2.1 c.1.2.1.toNatClampNeg (minI 20 (maxI 0 ((c.1.2.2.2.2.2.2.2.2.1 c.1.2.1.toNatClampNeg) + (mindAt c.1 c.1.2.1 c.1.2.2.2.2.1)))), c.1.2.2.2.2.2.2.2.2.2.1, c.1.2.2.2.2.2.2.2.2.2.2) c.1.2.1 c.1.2.2.2.2.1)), c.1.2.2.2.2.1, c.1.2.2.2.2.2.1, c.1.2.2.2.2.2.2.1, c.1.2.2.2.2.2.2.2.1, upd c.1.2.2.2.2.2.2.2.2.1 c.1.2.1.toNatClampNeg (minI 20 (maxI 0 ((c.1.2.2.2.2.2.2.2.2.1 c.1.2.1.toNatClampNeg) + (mindAt c.1 c.1.2.1 c.1.2.2.2.2.1)))), upd c.1.2.2.2.2.2.2.2.2.2.1 c.1.2.1.toNatClampNeg ((c.1.2.2.2.2.2.2.2.2.2.1 c.1.2.1.toNatClampNeg) - (2 * (buyAt (c.1.1, c.1.2.1, c.1.2.2.1, c.1.2.2.2.1, c.1.2.2.2.2.1, c.1.2.2.2.2.2.1, c.1.2.2.2.2.2.2.1, c.1.2.2.2.2.2.2.2.1, upd c.1.2.2.2.2.2.2.2.2.1 c.1.2.1.toNatClampNeg (minI 20 (maxI 0 ((c.1.2.2.2.2.2.2.2.2.1 c.1.2.1.toNatClampNeg) + (mindAt c.1 c.1.2.1 c.1.2.2.2.2.1)))), c.1.2.2.2.2.2.2.2.2.2.1, c.1.2.2.2.2.2.2.2.2.2.2) c.1.2.1 c.1.2.2.2.2.1))), upd c.1.2.2.2.2.2.2.2.2.2.2 c.1.2.1.toNatClampNeg (minI 9999 ((c.1.2.2.2.2.2.2.2.2.2.2 c.1.2.1.toNatClampNeg) + (buyAt (c.1.1, c.1.2.1, c.1.2.2.1, c.1.2.2.2.1, c.1.2.2.2.2.1, c.1.2.2.2.2.2.1, c.1.2.2.2.2.2.2.1, c.1.2.2.2.2.2.2.2.1, upd c.1.2.2.2.2.2.2.2.2.1 c.1.2.1.toNatClampNeg (minI 20 (maxI 0 ((c.1.2.2.2.2.2.2.2.2.1 c.1.2.1.toNatClampNeg) + (mindAt c.1 c.1.2.1 c.1.2.2.2.2.1)))), c.1.2.2.2.2.2.2.2.2.2.1, c.1.2.2.2.2.2.2.2.2.2.2) c.1.2.1 c.1.2.2.2.2.1)))) (minI 99999 (c.1.2.2.2.2.2.2.1 + (2 * (buyAt (c.1.1, c.1.2.1, c.1.2.2.1, c.1.2.2.2.1, c.1.2.2.2.2.1, c.1.2.2.2.2.2.1, c.1.2.2.2.2.2.2.1, c.1.2.2.2.2.2.2.2.1, upd c.1.2.2.2.2.2.2.2.2.1 c.1.2.1.toNatClampNeg (minI 20 (maxI 0 ((c.1.2.2.2.2.2.2.2.2.1 c.1.2.1.toNatClampNeg) + (mindAt c.1 c.1.2.1 c.1.2.2.2.2.1)))), c.1.2.2.2.2.2.2.2.2.2.1, c.1.2.2.2.2.2.2.2.2.2.2) c.1.2.1 c.1.2.2.2.2.1)))))) ?_
  exact g_vret cx gr (Nat.zero_le _) (Nat.zero_le _) dX6_isHeard_123 (by rw [min_held]; rfl)

abbrev rmX6_hour : Room := { frames := 5, cells := 0, slots := 0, locals := 116 }
theorem hYX6_hour : gY yX6_hour wsX6_hour cX6_hour 1 (none) 0 := ⟨⟨_, rfl⟩, by decide +kernel, by decide +kernel, by decide +kernel⟩
theorem iwX6_hour_X6 : ∀ w ∈ u_ws RX6 TX6 16, w ∈ wsX6_hour := by decide +kernel
theorem lkX6_hour_7 : Cond.fieldLink RX6 7 "MuffinBellsModel" "s" "[I" ∈ wsX6_hour := by decide +kernel
set_option maxRecDepth 100000 in
set_option maxHeartbeats 4000000 in
theorem c_X6_hour (l : Launch) (E : gE) (a : Nat → Nat) (c : Cor) (h : Mar) (hat : vp_in (tAt c.1) 8) : ctv l yX6_hour wsX6_hour rmX6_hour E [.ref (a 0)] (mW E a c h) (fun w => w = (mW E a ((goHour c.1), c.2.1, c.2.2.1, c.2.2.2.1, c.2.2.2.2.1, c.2.2.2.2.2.1, c.2.2.2.2.2.2.1, c.2.2.2.2.2.2.2.1, c.2.2.2.2.2.2.2.2) h)) := by
  refine mt_v (cc := cX6_hour) (maxL := 1) (ret := none) (lv0 := [(0, .ref (a 0))]) (by decide) rfl rfl (Nat.le_of_ble_eq_true rfl) (fun X cx gr hI => ?_)
  refine g_aload_n cx dX6_hour_0 0 rfl ?_
  refine g_VSi (rest := []) (As := []) cx hYX6_isResting gX6_hour_X6_isResting (c_X6_isResting l E a c h  ) rfl rfl rfl ⟨Nat.le_of_ble_eq_true rfl, Nat.le_of_ble_eq_true rfl⟩ rfl rfl (Nat.le_of_ble_eq_true rfl) ⟨Nat.le_of_ble_eq_true rfl, Nat.le_of_ble_eq_true rfl⟩ dX6_hour_1 (fun r w1 hp => ?_)
  obtain ⟨rfl, rfl⟩ := hp
  refine g_if_ne (tgt := 109) cx dX6_hour_4 (by decide) (fun c_1 => ?_) (fun c_1 => ?_)
  · refine g_aload_n cx dX6_hour_109 0 rfl ?_
    refine g_get (C := RX6) (T := TX6) (N := 16) (v := .ref (a 1)) cx iwX6_hour_X6 0 0 rfl rfl (by decide) lkX6_hour_7 rfl dX6_hour_110 ?_
    refine g_iconst (v := 0) cx dX6_hour_113 (by decide) ?_
    refine g_dup2 cx dX6_hour_114 rfl rfl ?_
    refine g_iald cx 1 rfl rfl (by first | assumption | (unfold vp_in; decide +kernel)) dX6_hour_115 ?_
    refine g_top (y := c.1.1) (rfl) ?_
    refine g_iconst (v := 1) cx dX6_hour_116 (by decide) ?_
    refine g_iadd cx dX6_hour_117 ?_
    refine g_iast (ws' := (mW E a (((c.1.1 + 1), c.1.2.1, c.1.2.2.1, c.1.2.2.2.1, c.1.2.2.2.2.1, c.1.2.2.2.2.2.1, c.1.2.2.2.2.2.2.1, c.1.2.2.2.2.2.2.2.1, c.1.2.2.2.2.2.2.2.2.1, c.1.2.2.2.2.2.2.2.2.2.1, c.1.2.2.2.2.2.2.2.2.2.2), c.2.1, c.2.2.1, c.2.2.2.1, c.2.2.2.2.1, c.2.2.2.2.2.1, c.2.2.2.2.2.2.1, c.2.2.2.2.2.2.2.1, c.2.2.2.2.2.2.2.2) h)) cx 1 rfl rfl (by first | assumption | (unfold vp_in; decide +kernel)) dX6_hour_118 (congrArg (fun f => List.set (mW E a c h) 1 (a 1, .inl (gI E, 39, .inl f))) (eu_0 c.1 (c.1.1 + 1))) ?_
    exact g_vret cx gr (Nat.zero_le _) (Nat.zero_le _) dX6_hour_119 (by rw [goHour, if_neg c_1]; rfl)
  · refine g_aload_n cx dX6_hour_7 0 rfl ?_
    refine g_get (C := RX6) (T := TX6) (N := 16) (v := .ref (a 1)) cx iwX6_hour_X6 0 0 rfl rfl (by decide) lkX6_hour_7 rfl dX6_hour_8 ?_
    refine g_iconst (v := 4) cx dX6_hour_11 (by decide) ?_
    refine g_iald cx 1 rfl rfl (by first | assumption | (unfold vp_in; decide +kernel)) dX6_hour_12 ?_
    refine g_top (y := c.1.2.2.2.2.1) (rfl) ?_
    refine g_iconst (v := (-1)) cx dX6_hour_13 (by decide) ?_
    refine g_icmp_eq (tgt := 27) cx dX6_hour_14 (by decide) (fun c_2 => ?_) (fun c_2 => ?_)
    · refine g_aload_n cx dX6_hour_27 0 rfl ?_
      refine g_get (C := RX6) (T := TX6) (N := 16) (v := .ref (a 1)) cx iwX6_hour_X6 0 0 rfl rfl (by decide) lkX6_hour_7 rfl dX6_hour_28 ?_
      refine g_iconst (v := 4) cx dX6_hour_31 (by decide) ?_
      refine g_aload_n cx dX6_hour_32 0 rfl ?_
      refine g_get (C := RX6) (T := TX6) (N := 16) (v := .ref (a 1)) cx iwX6_hour_X6 0 0 rfl rfl (by decide) lkX6_hour_7 rfl dX6_hour_33 ?_
      refine g_iconst (v := 5) cx dX6_hour_36 (by decide) ?_
      refine g_iald cx 1 rfl rfl (by first | assumption | (unfold vp_in; decide +kernel)) dX6_hour_37 ?_
      refine g_top (y := c.1.2.2.2.2.2.1) (rfl) ?_
      refine g_bipush (v := 50) cx dX6_hour_38 (by decide) ?_
      have J57_2 : gG X 0 0 (mW E a c h) 57 [(0, .ref (a 0))] (.int (if c.1.2.2.2.2.2.1 < 50 then toneAt c.1 c.1.2.1 else 3) :: .int 4 :: .ref (a 1) :: []) := by
        refine g_iast (ws' := (mW E a ((c.1.1, c.1.2.1, c.1.2.2.1, c.1.2.2.2.1, (if c.1.2.2.2.2.2.1 < 50 then toneAt c.1 c.1.2.1 else 3), c.1.2.2.2.2.2.1, c.1.2.2.2.2.2.2.1, c.1.2.2.2.2.2.2.2.1, c.1.2.2.2.2.2.2.2.2.1, c.1.2.2.2.2.2.2.2.2.2.1, c.1.2.2.2.2.2.2.2.2.2.2), c.2.1, c.2.2.1, c.2.2.2.1, c.2.2.2.2.1, c.2.2.2.2.2.1, c.2.2.2.2.2.2.1, c.2.2.2.2.2.2.2.1, c.2.2.2.2.2.2.2.2) h)) cx 1 rfl rfl (by first | assumption | (unfold vp_in; decide +kernel)) dX6_hour_57 (congrArg (fun f => List.set (mW E a c h) 1 (a 1, .inl (gI E, 39, .inl f))) (eu_4 c.1 (if c.1.2.2.2.2.2.1 < 50 then toneAt c.1 c.1.2.1 else 3))) ?_
        refine g_aload_n cx dX6_hour_58 0 rfl ?_
        refine g_get (C := RX6) (T := TX6) (N := 16) (v := .ref (a 1)) cx iwX6_hour_X6 0 0 rfl rfl (by decide) lkX6_hour_7 rfl dX6_hour_59 ?_
        refine g_iconst (v := 5) cx dX6_hour_62 (by decide) ?_
        refine g_aload_n cx dX6_hour_63 0 rfl ?_
        refine g_get (C := RX6) (T := TX6) (N := 16) (v := .ref (a 1)) cx iwX6_hour_X6 0 0 rfl rfl (by decide) lkX6_hour_7 rfl dX6_hour_64 ?_
        refine g_iconst (v := 5) cx dX6_hour_67 (by decide) ?_
        refine g_iald cx 1 rfl rfl (by first | assumption | (unfold vp_in; decide +kernel)) dX6_hour_68 ?_
        refine g_top (y := c.1.2.2.2.2.2.1) (rfl) ?_
        refine g_iconst (v := 1) cx dX6_hour_69 (by decide) ?_
        refine g_iadd cx dX6_hour_70 ?_
        refine g_bipush (v := 99) cx dX6_hour_71 (by decide) ?_
        refine g_SPi (rest := [.int 5, .ref (a 1)]) (As := [.int (c.1.2.2.2.2.2.1 + 1), .int 99]) cx hYX6_heldTo gX6_hour_X6_heldTo (c_X6_heldTo l E (c.1.2.2.2.2.2.1 + 1) 99 ) ⟨Nat.le_of_ble_eq_true rfl, Nat.le_of_ble_eq_true rfl⟩ rfl rfl (Nat.le_of_ble_eq_true rfl) ⟨Nat.le_of_ble_eq_true rfl, Nat.le_of_ble_eq_true rfl⟩ dX6_hour_73 ?_
        refine g_iast (ws' := (mW E a ((c.1.1, c.1.2.1, c.1.2.2.1, c.1.2.2.2.1, (if c.1.2.2.2.2.2.1 < 50 then toneAt c.1 c.1.2.1 else 3), (minI 99 (c.1.2.2.2.2.2.1 + 1)), c.1.2.2.2.2.2.2.1, c.1.2.2.2.2.2.2.2.1, c.1.2.2.2.2.2.2.2.2.1, c.1.2.2.2.2.2.2.2.2.2.1, c.1.2.2.2.2.2.2.2.2.2.2), c.2.1, c.2.2.1, c.2.2.2.1, c.2.2.2.2.1, c.2.2.2.2.2.1, c.2.2.2.2.2.2.1, c.2.2.2.2.2.2.2.1, c.2.2.2.2.2.2.2.2) h)) cx 1 rfl rfl (by first | assumption | (unfold vp_in; decide +kernel)) dX6_hour_76 (congrArg (fun f => List.set (mW E a ((c.1.1, c.1.2.1, c.1.2.2.1, c.1.2.2.2.1, (if c.1.2.2.2.2.2.1 < 50 then toneAt c.1 c.1.2.1 else 3), c.1.2.2.2.2.2.1, c.1.2.2.2.2.2.2.1, c.1.2.2.2.2.2.2.2.1, c.1.2.2.2.2.2.2.2.2.1, c.1.2.2.2.2.2.2.2.2.2.1, c.1.2.2.2.2.2.2.2.2.2.2), c.2.1, c.2.2.1, c.2.2.2.1, c.2.2.2.2.1, c.2.2.2.2.2.1, c.2.2.2.2.2.2.1, c.2.2.2.2.2.2.2.1, c.2.2.2.2.2.2.2.2) h) 1 (a 1, .inl (gI E, 39, .inl f))) (eu_5 (c.1.1, c.1.2.1, c.1.2.2.1, c.1.2.2.2.1, (if c.1.2.2.2.2.2.1 < 50 then toneAt c.1 c.1.2.1 else 3), c.1.2.2.2.2.2.1, c.1.2.2.2.2.2.2.1, c.1.2.2.2.2.2.2.2.1, c.1.2.2.2.2.2.2.2.2.1, c.1.2.2.2.2.2.2.2.2.2.1, c.1.2.2.2.2.2.2.2.2.2.2) (minI 99 (c.1.2.2.2.2.2.1 + 1)))) ?_
        refine g_aload_n cx dX6_hour_77 0 rfl ?_
        refine g_get (C := RX6) (T := TX6) (N := 16) (v := .ref (a 1)) cx iwX6_hour_X6 0 0 rfl rfl (by decide) lkX6_hour_7 rfl dX6_hour_78 ?_
        refine g_iconst (v := 1) cx dX6_hour_81 (by decide) ?_
        refine g_aload_n cx dX6_hour_82 0 rfl ?_
        refine g_get (C := RX6) (T := TX6) (N := 16) (v := .ref (a 1)) cx iwX6_hour_X6 0 0 rfl rfl (by decide) lkX6_hour_7 rfl dX6_hour_83 ?_
        refine g_iconst (v := 1) cx dX6_hour_86 (by decide) ?_
        refine g_iald cx 1 rfl rfl (by first | assumption | (unfold vp_in; decide +kernel)) dX6_hour_87 ?_
        refine g_top (y := c.1.2.1) (rfl) ?_
        refine g_aload_n cx dX6_hour_88 0 rfl ?_
        refine g_get (C := RX6) (T := TX6) (N := 16) (v := .ref (a 1)) cx iwX6_hour_X6 0 0 rfl rfl (by decide) lkX6_hour_7 rfl dX6_hour_89 ?_
        refine g_iconst (v := 2) cx dX6_hour_92 (by decide) ?_
        refine g_iald cx 1 rfl rfl (by first | assumption | (unfold vp_in; decide +kernel)) dX6_hour_93 ?_
        refine g_top (y := c.1.2.2.1) (rfl) ?_
        refine g_iconst (v := 1) cx dX6_hour_94 (by decide) ?_
        have J104_3 : gG X 0 0 (mW E a ((c.1.1, c.1.2.1, c.1.2.2.1, c.1.2.2.2.1, (if c.1.2.2.2.2.2.1 < 50 then toneAt c.1 c.1.2.1 else 3), (minI 99 (c.1.2.2.2.2.2.1 + 1)), c.1.2.2.2.2.2.2.1, c.1.2.2.2.2.2.2.2.1, c.1.2.2.2.2.2.2.2.2.1, c.1.2.2.2.2.2.2.2.2.2.1, c.1.2.2.2.2.2.2.2.2.2.2), c.2.1, c.2.2.1, c.2.2.2.1, c.2.2.2.2.1, c.2.2.2.2.2.1, c.2.2.2.2.2.2.1, c.2.2.2.2.2.2.2.1, c.2.2.2.2.2.2.2.2) h) 104 [(0, .ref (a 0))] (.int (stepW c.1.2.2.1) :: .int c.1.2.1 :: .int 1 :: .ref (a 1) :: []) := by
          refine g_iadd cx dX6_hour_104 ?_
          refine g_bipush (v := 8) cx dX6_hour_105 (by decide) ?_
          refine g_irem cx dX6_hour_107 (by decide) ?_
          refine g_iast (ws' := (mW E a ((c.1.1, ((c.1.2.1 + (stepW c.1.2.2.1)) - (c.1.2.1 + (stepW c.1.2.2.1)) / 8 * 8), c.1.2.2.1, c.1.2.2.2.1, (if c.1.2.2.2.2.2.1 < 50 then toneAt c.1 c.1.2.1 else 3), (minI 99 (c.1.2.2.2.2.2.1 + 1)), c.1.2.2.2.2.2.2.1, c.1.2.2.2.2.2.2.2.1, c.1.2.2.2.2.2.2.2.2.1, c.1.2.2.2.2.2.2.2.2.2.1, c.1.2.2.2.2.2.2.2.2.2.2), c.2.1, c.2.2.1, c.2.2.2.1, c.2.2.2.2.1, c.2.2.2.2.2.1, c.2.2.2.2.2.2.1, c.2.2.2.2.2.2.2.1, c.2.2.2.2.2.2.2.2) h)) cx 1 rfl rfl (by first | assumption | (unfold vp_in; decide +kernel)) dX6_hour_108 (congrArg (fun f => List.set (mW E a ((c.1.1, c.1.2.1, c.1.2.2.1, c.1.2.2.2.1, (if c.1.2.2.2.2.2.1 < 50 then toneAt c.1 c.1.2.1 else 3), (minI 99 (c.1.2.2.2.2.2.1 + 1)), c.1.2.2.2.2.2.2.1, c.1.2.2.2.2.2.2.2.1, c.1.2.2.2.2.2.2.2.2.1, c.1.2.2.2.2.2.2.2.2.2.1, c.1.2.2.2.2.2.2.2.2.2.2), c.2.1, c.2.2.1, c.2.2.2.1, c.2.2.2.2.1, c.2.2.2.2.2.1, c.2.2.2.2.2.2.1, c.2.2.2.2.2.2.2.1, c.2.2.2.2.2.2.2.2) h) 1 (a 1, .inl (gI E, 39, .inl f))) (eu_1 (c.1.1, c.1.2.1, c.1.2.2.1, c.1.2.2.2.1, (if c.1.2.2.2.2.2.1 < 50 then toneAt c.1 c.1.2.1 else 3), (minI 99 (c.1.2.2.2.2.2.1 + 1)), c.1.2.2.2.2.2.2.1, c.1.2.2.2.2.2.2.2.1, c.1.2.2.2.2.2.2.2.2.1, c.1.2.2.2.2.2.2.2.2.2.1, c.1.2.2.2.2.2.2.2.2.2.2) ((c.1.2.1 + (stepW c.1.2.2.1)) - (c.1.2.1 + (stepW c.1.2.2.1)) / 8 * 8))) ?_
          refine g_aload_n cx dX6_hour_109 0 rfl ?_
          refine g_get (C := RX6) (T := TX6) (N := 16) (v := .ref (a 1)) cx iwX6_hour_X6 0 0 rfl rfl (by decide) lkX6_hour_7 rfl dX6_hour_110 ?_
          refine g_iconst (v := 0) cx dX6_hour_113 (by decide) ?_
          refine g_dup2 cx dX6_hour_114 rfl rfl ?_
          refine g_iald cx 1 rfl rfl (by first | assumption | (unfold vp_in; decide +kernel)) dX6_hour_115 ?_
          refine g_top (y := c.1.1) (rfl) ?_
          refine g_iconst (v := 1) cx dX6_hour_116 (by decide) ?_
          refine g_iadd cx dX6_hour_117 ?_
          refine g_iast (ws' := (mW E a (((c.1.1 + 1), ((c.1.2.1 + (stepW c.1.2.2.1)) - (c.1.2.1 + (stepW c.1.2.2.1)) / 8 * 8), c.1.2.2.1, c.1.2.2.2.1, (if c.1.2.2.2.2.2.1 < 50 then toneAt c.1 c.1.2.1 else 3), (minI 99 (c.1.2.2.2.2.2.1 + 1)), c.1.2.2.2.2.2.2.1, c.1.2.2.2.2.2.2.2.1, c.1.2.2.2.2.2.2.2.2.1, c.1.2.2.2.2.2.2.2.2.2.1, c.1.2.2.2.2.2.2.2.2.2.2), c.2.1, c.2.2.1, c.2.2.2.1, c.2.2.2.2.1, c.2.2.2.2.2.1, c.2.2.2.2.2.2.1, c.2.2.2.2.2.2.2.1, c.2.2.2.2.2.2.2.2) h)) cx 1 rfl rfl (by first | assumption | (unfold vp_in; decide +kernel)) dX6_hour_118 (congrArg (fun f => List.set (mW E a ((c.1.1, ((c.1.2.1 + (stepW c.1.2.2.1)) - (c.1.2.1 + (stepW c.1.2.2.1)) / 8 * 8), c.1.2.2.1, c.1.2.2.2.1, (if c.1.2.2.2.2.2.1 < 50 then toneAt c.1 c.1.2.1 else 3), (minI 99 (c.1.2.2.2.2.2.1 + 1)), c.1.2.2.2.2.2.2.1, c.1.2.2.2.2.2.2.2.1, c.1.2.2.2.2.2.2.2.2.1, c.1.2.2.2.2.2.2.2.2.2.1, c.1.2.2.2.2.2.2.2.2.2.2), c.2.1, c.2.2.1, c.2.2.2.1, c.2.2.2.2.1, c.2.2.2.2.2.1, c.2.2.2.2.2.2.1, c.2.2.2.2.2.2.2.1, c.2.2.2.2.2.2.2.2) h) 1 (a 1, .inl (gI E, 39, .inl f))) (eu_0 (c.1.1, ((c.1.2.1 + (stepW c.1.2.2.1)) - (c.1.2.1 + (stepW c.1.2.2.1)) / 8 * 8), c.1.2.2.1, c.1.2.2.2.1, (if c.1.2.2.2.2.2.1 < 50 then toneAt c.1 c.1.2.1 else 3), (minI 99 (c.1.2.2.2.2.2.1 + 1)), c.1.2.2.2.2.2.2.1, c.1.2.2.2.2.2.2.2.1, c.1.2.2.2.2.2.2.2.2.1, c.1.2.2.2.2.2.2.2.2.2.1, c.1.2.2.2.2.2.2.2.2.2.2) (c.1.1 + 1))) ?_
          exact g_vret cx gr (Nat.zero_le _) (Nat.zero_le _) dX6_hour_119 (by rw [goHour, if_pos c_1, if_pos c_2]; rfl)
        refine g_icmp_ne (tgt := 102) cx dX6_hour_95 (by decide) (fun c_5 => ?_) (fun c_5 => ?_)
        · refine g_bipush (v := 7) cx dX6_hour_102 (by decide) ?_
          exact g_top (show (7 : Int32) = stepW c.1.2.2.1 from by simp only [stepW, c_1, c_2, c_5, if_true, if_false, ite_true, ite_false, not_true_eq_false, not_false_eq_true] <;> rfl) J104_3
        · refine g_iconst (v := 1) cx dX6_hour_98 (by decide) ?_
          refine g_goto (tgt := 104) cx dX6_hour_99 (by decide) ?_
          exact g_top (show (1 : Int32) = stepW c.1.2.2.1 from by simp only [stepW, c_1, c_2, c_5, if_true, if_false, ite_true, ite_false, not_true_eq_false, not_false_eq_true] <;> rfl) J104_3
      refine g_icmp_lt (tgt := 47) cx dX6_hour_40 (by decide) (fun c_6 => ?_) (fun c_6 => ?_)
      · refine g_aload_n cx dX6_hour_47 0 rfl ?_
        refine g_aload_n cx dX6_hour_48 0 rfl ?_
        refine g_get (C := RX6) (T := TX6) (N := 16) (v := .ref (a 1)) cx iwX6_hour_X6 0 0 rfl rfl (by decide) lkX6_hour_7 rfl dX6_hour_49 ?_
        refine g_iconst (v := 1) cx dX6_hour_52 (by decide) ?_
        refine g_iald cx 1 rfl rfl (by first | assumption | (unfold vp_in; decide +kernel)) dX6_hour_53 ?_
        refine g_top (y := c.1.2.1) (rfl) ?_
        refine g_VSi (rest := [.int 4, .ref (a 1)]) (As := [.int c.1.2.1]) cx hYX6_toneOf gX6_hour_X6_toneOf (c_X6_toneOf l E a c h c.1.2.1 hat) rfl rfl rfl ⟨Nat.le_of_ble_eq_true rfl, Nat.le_of_ble_eq_true rfl⟩ rfl rfl (Nat.le_of_ble_eq_true rfl) ⟨Nat.le_of_ble_eq_true rfl, Nat.le_of_ble_eq_true rfl⟩ dX6_hour_54 (fun r w1 hp => ?_)
        obtain ⟨rfl, rfl⟩ := hp
        exact g_top (show (toneAt c.1 c.1.2.1 : Int32) = if c.1.2.2.2.2.2.1 < 50 then toneAt c.1 c.1.2.1 else 3 from by simp only [c_1, c_2, c_6, if_true, if_false, ite_true, ite_false, not_true_eq_false, not_false_eq_true] <;> rfl) J57_2
      · refine g_iconst (v := 3) cx dX6_hour_43 (by decide) ?_
        refine g_goto (tgt := 57) cx dX6_hour_44 (by decide) ?_
        exact g_top (show (3 : Int32) = if c.1.2.2.2.2.2.1 < 50 then toneAt c.1 c.1.2.1 else 3 from by simp only [c_1, c_2, c_6, if_true, if_false, ite_true, ite_false, not_true_eq_false, not_false_eq_true] <;> rfl) J57_2
    · refine g_aload_n cx dX6_hour_17 0 rfl ?_
      refine g_aload_n cx dX6_hour_18 0 rfl ?_
      refine g_get (C := RX6) (T := TX6) (N := 16) (v := .ref (a 1)) cx iwX6_hour_X6 0 0 rfl rfl (by decide) lkX6_hour_7 rfl dX6_hour_19 ?_
      refine g_iconst (v := 1) cx dX6_hour_22 (by decide) ?_
      refine g_iald cx 1 rfl rfl (by first | assumption | (unfold vp_in; decide +kernel)) dX6_hour_23 ?_
      refine g_top (y := c.1.2.1) (rfl) ?_
      refine g_VSv (rest := []) (As := [.int c.1.2.1]) cx hYX6_isHeard gX6_hour_X6_isHeard (c_X6_isHeard l E a c h hat) rfl rfl rfl ⟨Nat.le_of_ble_eq_true rfl, Nat.le_of_ble_eq_true rfl⟩ rfl rfl (Nat.le_of_ble_eq_true rfl) ⟨Nat.le_of_ble_eq_true rfl, Nat.le_of_ble_eq_true rfl⟩ dX6_hour_24 (fun w1 hp => ?_)
      obtain rfl := hp
      refine g_aload_n cx dX6_hour_27 0 rfl ?_
      refine g_get (C := RX6) (T := TX6) (N := 16) (v := .ref (a 1)) cx iwX6_hour_X6 0 0 rfl rfl (by decide) lkX6_hour_7 rfl dX6_hour_28 ?_
      refine g_iconst (v := 4) cx dX6_hour_31 (by decide) ?_
      refine g_aload_n cx dX6_hour_32 0 rfl ?_
      refine g_get (C := RX6) (T := TX6) (N := 16) (v := .ref (a 1)) cx iwX6_hour_X6 0 0 rfl rfl (by decide) lkX6_hour_7 rfl dX6_hour_33 ?_
      refine g_iconst (v := 5) cx dX6_hour_36 (by decide) ?_
      refine g_iald cx 1 rfl rfl (by first | assumption | (unfold vp_in; decide +kernel)) dX6_hour_37 ?_
      refine g_top (y := (hearBuy c.1).2.2.2.2.2.1) (rfl) ?_
      refine g_bipush (v := 50) cx dX6_hour_38 (by decide) ?_
      have J57_6 : gG X 0 0 (mW E a ((hearBuy c.1), c.2.1, c.2.2.1, c.2.2.2.1, c.2.2.2.2.1, c.2.2.2.2.2.1, c.2.2.2.2.2.2.1, c.2.2.2.2.2.2.2.1, c.2.2.2.2.2.2.2.2) h) 57 [(0, .ref (a 0))] (.int (if (hearBuy c.1).2.2.2.2.2.1 < 50 then toneAt (hearBuy c.1) ((hearBuy c.1).2.1) else 3) :: .int 4 :: .ref (a 1) :: []) := by
        refine g_iast (ws' := (mW E a (((hearBuy c.1).1, (hearBuy c.1).2.1, (hearBuy c.1).2.2.1, (hearBuy c.1).2.2.2.1, (if (hearBuy c.1).2.2.2.2.2.1 < 50 then toneAt (hearBuy c.1) ((hearBuy c.1).2.1) else 3), (hearBuy c.1).2.2.2.2.2.1, (hearBuy c.1).2.2.2.2.2.2.1, (hearBuy c.1).2.2.2.2.2.2.2.1, (hearBuy c.1).2.2.2.2.2.2.2.2.1, (hearBuy c.1).2.2.2.2.2.2.2.2.2.1, (hearBuy c.1).2.2.2.2.2.2.2.2.2.2), c.2.1, c.2.2.1, c.2.2.2.1, c.2.2.2.2.1, c.2.2.2.2.2.1, c.2.2.2.2.2.2.1, c.2.2.2.2.2.2.2.1, c.2.2.2.2.2.2.2.2) h)) cx 1 rfl rfl (by first | assumption | (unfold vp_in; decide +kernel)) dX6_hour_57 (congrArg (fun f => List.set (mW E a ((hearBuy c.1), c.2.1, c.2.2.1, c.2.2.2.1, c.2.2.2.2.1, c.2.2.2.2.2.1, c.2.2.2.2.2.2.1, c.2.2.2.2.2.2.2.1, c.2.2.2.2.2.2.2.2) h) 1 (a 1, .inl (gI E, 39, .inl f))) (eu_4 (hearBuy c.1) (if (hearBuy c.1).2.2.2.2.2.1 < 50 then toneAt (hearBuy c.1) ((hearBuy c.1).2.1) else 3))) ?_
        refine g_aload_n cx dX6_hour_58 0 rfl ?_
        refine g_get (C := RX6) (T := TX6) (N := 16) (v := .ref (a 1)) cx iwX6_hour_X6 0 0 rfl rfl (by decide) lkX6_hour_7 rfl dX6_hour_59 ?_
        refine g_iconst (v := 5) cx dX6_hour_62 (by decide) ?_
        refine g_aload_n cx dX6_hour_63 0 rfl ?_
        refine g_get (C := RX6) (T := TX6) (N := 16) (v := .ref (a 1)) cx iwX6_hour_X6 0 0 rfl rfl (by decide) lkX6_hour_7 rfl dX6_hour_64 ?_
        refine g_iconst (v := 5) cx dX6_hour_67 (by decide) ?_
        refine g_iald cx 1 rfl rfl (by first | assumption | (unfold vp_in; decide +kernel)) dX6_hour_68 ?_
        refine g_top (y := (hearBuy c.1).2.2.2.2.2.1) (rfl) ?_
        refine g_iconst (v := 1) cx dX6_hour_69 (by decide) ?_
        refine g_iadd cx dX6_hour_70 ?_
        refine g_bipush (v := 99) cx dX6_hour_71 (by decide) ?_
        refine g_SPi (rest := [.int 5, .ref (a 1)]) (As := [.int (((hearBuy c.1).2.2.2.2.2.1) + 1), .int 99]) cx hYX6_heldTo gX6_hour_X6_heldTo (c_X6_heldTo l E (((hearBuy c.1).2.2.2.2.2.1) + 1) 99 ) ⟨Nat.le_of_ble_eq_true rfl, Nat.le_of_ble_eq_true rfl⟩ rfl rfl (Nat.le_of_ble_eq_true rfl) ⟨Nat.le_of_ble_eq_true rfl, Nat.le_of_ble_eq_true rfl⟩ dX6_hour_73 ?_
        refine g_iast (ws' := (mW E a (((hearBuy c.1).1, (hearBuy c.1).2.1, (hearBuy c.1).2.2.1, (hearBuy c.1).2.2.2.1, (if (hearBuy c.1).2.2.2.2.2.1 < 50 then toneAt (hearBuy c.1) ((hearBuy c.1).2.1) else 3), (minI 99 (((hearBuy c.1).2.2.2.2.2.1) + 1)), (hearBuy c.1).2.2.2.2.2.2.1, (hearBuy c.1).2.2.2.2.2.2.2.1, (hearBuy c.1).2.2.2.2.2.2.2.2.1, (hearBuy c.1).2.2.2.2.2.2.2.2.2.1, (hearBuy c.1).2.2.2.2.2.2.2.2.2.2), c.2.1, c.2.2.1, c.2.2.2.1, c.2.2.2.2.1, c.2.2.2.2.2.1, c.2.2.2.2.2.2.1, c.2.2.2.2.2.2.2.1, c.2.2.2.2.2.2.2.2) h)) cx 1 rfl rfl (by first | assumption | (unfold vp_in; decide +kernel)) dX6_hour_76 (congrArg (fun f => List.set (mW E a (((hearBuy c.1).1, (hearBuy c.1).2.1, (hearBuy c.1).2.2.1, (hearBuy c.1).2.2.2.1, (if (hearBuy c.1).2.2.2.2.2.1 < 50 then toneAt (hearBuy c.1) ((hearBuy c.1).2.1) else 3), (hearBuy c.1).2.2.2.2.2.1, (hearBuy c.1).2.2.2.2.2.2.1, (hearBuy c.1).2.2.2.2.2.2.2.1, (hearBuy c.1).2.2.2.2.2.2.2.2.1, (hearBuy c.1).2.2.2.2.2.2.2.2.2.1, (hearBuy c.1).2.2.2.2.2.2.2.2.2.2), c.2.1, c.2.2.1, c.2.2.2.1, c.2.2.2.2.1, c.2.2.2.2.2.1, c.2.2.2.2.2.2.1, c.2.2.2.2.2.2.2.1, c.2.2.2.2.2.2.2.2) h) 1 (a 1, .inl (gI E, 39, .inl f))) (eu_5 ((hearBuy c.1).1, (hearBuy c.1).2.1, (hearBuy c.1).2.2.1, (hearBuy c.1).2.2.2.1, (if (hearBuy c.1).2.2.2.2.2.1 < 50 then toneAt (hearBuy c.1) ((hearBuy c.1).2.1) else 3), (hearBuy c.1).2.2.2.2.2.1, (hearBuy c.1).2.2.2.2.2.2.1, (hearBuy c.1).2.2.2.2.2.2.2.1, (hearBuy c.1).2.2.2.2.2.2.2.2.1, (hearBuy c.1).2.2.2.2.2.2.2.2.2.1, (hearBuy c.1).2.2.2.2.2.2.2.2.2.2) (minI 99 (((hearBuy c.1).2.2.2.2.2.1) + 1)))) ?_
        refine g_aload_n cx dX6_hour_77 0 rfl ?_
        refine g_get (C := RX6) (T := TX6) (N := 16) (v := .ref (a 1)) cx iwX6_hour_X6 0 0 rfl rfl (by decide) lkX6_hour_7 rfl dX6_hour_78 ?_
        refine g_iconst (v := 1) cx dX6_hour_81 (by decide) ?_
        refine g_aload_n cx dX6_hour_82 0 rfl ?_
        refine g_get (C := RX6) (T := TX6) (N := 16) (v := .ref (a 1)) cx iwX6_hour_X6 0 0 rfl rfl (by decide) lkX6_hour_7 rfl dX6_hour_83 ?_
        refine g_iconst (v := 1) cx dX6_hour_86 (by decide) ?_
        refine g_iald cx 1 rfl rfl (by first | assumption | (unfold vp_in; decide +kernel)) dX6_hour_87 ?_
        refine g_top (y := (hearBuy c.1).2.1) (rfl) ?_
        refine g_aload_n cx dX6_hour_88 0 rfl ?_
        refine g_get (C := RX6) (T := TX6) (N := 16) (v := .ref (a 1)) cx iwX6_hour_X6 0 0 rfl rfl (by decide) lkX6_hour_7 rfl dX6_hour_89 ?_
        refine g_iconst (v := 2) cx dX6_hour_92 (by decide) ?_
        refine g_iald cx 1 rfl rfl (by first | assumption | (unfold vp_in; decide +kernel)) dX6_hour_93 ?_
        refine g_top (y := (hearBuy c.1).2.2.1) (rfl) ?_
        refine g_iconst (v := 1) cx dX6_hour_94 (by decide) ?_
        have J104_7 : gG X 0 0 (mW E a (((hearBuy c.1).1, (hearBuy c.1).2.1, (hearBuy c.1).2.2.1, (hearBuy c.1).2.2.2.1, (if (hearBuy c.1).2.2.2.2.2.1 < 50 then toneAt (hearBuy c.1) ((hearBuy c.1).2.1) else 3), (minI 99 (((hearBuy c.1).2.2.2.2.2.1) + 1)), (hearBuy c.1).2.2.2.2.2.2.1, (hearBuy c.1).2.2.2.2.2.2.2.1, (hearBuy c.1).2.2.2.2.2.2.2.2.1, (hearBuy c.1).2.2.2.2.2.2.2.2.2.1, (hearBuy c.1).2.2.2.2.2.2.2.2.2.2), c.2.1, c.2.2.1, c.2.2.2.1, c.2.2.2.2.1, c.2.2.2.2.2.1, c.2.2.2.2.2.2.1, c.2.2.2.2.2.2.2.1, c.2.2.2.2.2.2.2.2) h) 104 [(0, .ref (a 0))] (.int (stepW ((hearBuy c.1).2.2.1)) :: .int ((hearBuy c.1).2.1) :: .int 1 :: .ref (a 1) :: []) := by
          refine g_iadd cx dX6_hour_104 ?_
          refine g_bipush (v := 8) cx dX6_hour_105 (by decide) ?_
          refine g_irem cx dX6_hour_107 (by decide) ?_
          refine g_iast (ws' := (mW E a (((hearBuy c.1).1, ((((hearBuy c.1).2.1) + (stepW ((hearBuy c.1).2.2.1))) - (((hearBuy c.1).2.1) + (stepW ((hearBuy c.1).2.2.1))) / 8 * 8), (hearBuy c.1).2.2.1, (hearBuy c.1).2.2.2.1, (if (hearBuy c.1).2.2.2.2.2.1 < 50 then toneAt (hearBuy c.1) ((hearBuy c.1).2.1) else 3), (minI 99 (((hearBuy c.1).2.2.2.2.2.1) + 1)), (hearBuy c.1).2.2.2.2.2.2.1, (hearBuy c.1).2.2.2.2.2.2.2.1, (hearBuy c.1).2.2.2.2.2.2.2.2.1, (hearBuy c.1).2.2.2.2.2.2.2.2.2.1, (hearBuy c.1).2.2.2.2.2.2.2.2.2.2), c.2.1, c.2.2.1, c.2.2.2.1, c.2.2.2.2.1, c.2.2.2.2.2.1, c.2.2.2.2.2.2.1, c.2.2.2.2.2.2.2.1, c.2.2.2.2.2.2.2.2) h)) cx 1 rfl rfl (by first | assumption | (unfold vp_in; decide +kernel)) dX6_hour_108 (congrArg (fun f => List.set (mW E a (((hearBuy c.1).1, (hearBuy c.1).2.1, (hearBuy c.1).2.2.1, (hearBuy c.1).2.2.2.1, (if (hearBuy c.1).2.2.2.2.2.1 < 50 then toneAt (hearBuy c.1) ((hearBuy c.1).2.1) else 3), (minI 99 (((hearBuy c.1).2.2.2.2.2.1) + 1)), (hearBuy c.1).2.2.2.2.2.2.1, (hearBuy c.1).2.2.2.2.2.2.2.1, (hearBuy c.1).2.2.2.2.2.2.2.2.1, (hearBuy c.1).2.2.2.2.2.2.2.2.2.1, (hearBuy c.1).2.2.2.2.2.2.2.2.2.2), c.2.1, c.2.2.1, c.2.2.2.1, c.2.2.2.2.1, c.2.2.2.2.2.1, c.2.2.2.2.2.2.1, c.2.2.2.2.2.2.2.1, c.2.2.2.2.2.2.2.2) h) 1 (a 1, .inl (gI E, 39, .inl f))) (eu_1 ((hearBuy c.1).1, (hearBuy c.1).2.1, (hearBuy c.1).2.2.1, (hearBuy c.1).2.2.2.1, (if (hearBuy c.1).2.2.2.2.2.1 < 50 then toneAt (hearBuy c.1) ((hearBuy c.1).2.1) else 3), (minI 99 (((hearBuy c.1).2.2.2.2.2.1) + 1)), (hearBuy c.1).2.2.2.2.2.2.1, (hearBuy c.1).2.2.2.2.2.2.2.1, (hearBuy c.1).2.2.2.2.2.2.2.2.1, (hearBuy c.1).2.2.2.2.2.2.2.2.2.1, (hearBuy c.1).2.2.2.2.2.2.2.2.2.2) ((((hearBuy c.1).2.1) + (stepW ((hearBuy c.1).2.2.1))) - (((hearBuy c.1).2.1) + (stepW ((hearBuy c.1).2.2.1))) / 8 * 8))) ?_
          refine g_aload_n cx dX6_hour_109 0 rfl ?_
          refine g_get (C := RX6) (T := TX6) (N := 16) (v := .ref (a 1)) cx iwX6_hour_X6 0 0 rfl rfl (by decide) lkX6_hour_7 rfl dX6_hour_110 ?_
          refine g_iconst (v := 0) cx dX6_hour_113 (by decide) ?_
          refine g_dup2 cx dX6_hour_114 rfl rfl ?_
          refine g_iald cx 1 rfl rfl (by first | assumption | (unfold vp_in; decide +kernel)) dX6_hour_115 ?_
          refine g_top (y := (hearBuy c.1).1) (rfl) ?_
          refine g_iconst (v := 1) cx dX6_hour_116 (by decide) ?_
          refine g_iadd cx dX6_hour_117 ?_
          refine g_iast (ws' := (mW E a (((((hearBuy c.1).1) + 1), ((((hearBuy c.1).2.1) + (stepW ((hearBuy c.1).2.2.1))) - (((hearBuy c.1).2.1) + (stepW ((hearBuy c.1).2.2.1))) / 8 * 8), (hearBuy c.1).2.2.1, (hearBuy c.1).2.2.2.1, (if (hearBuy c.1).2.2.2.2.2.1 < 50 then toneAt (hearBuy c.1) ((hearBuy c.1).2.1) else 3), (minI 99 (((hearBuy c.1).2.2.2.2.2.1) + 1)), (hearBuy c.1).2.2.2.2.2.2.1, (hearBuy c.1).2.2.2.2.2.2.2.1, (hearBuy c.1).2.2.2.2.2.2.2.2.1, (hearBuy c.1).2.2.2.2.2.2.2.2.2.1, (hearBuy c.1).2.2.2.2.2.2.2.2.2.2), c.2.1, c.2.2.1, c.2.2.2.1, c.2.2.2.2.1, c.2.2.2.2.2.1, c.2.2.2.2.2.2.1, c.2.2.2.2.2.2.2.1, c.2.2.2.2.2.2.2.2) h)) cx 1 rfl rfl (by first | assumption | (unfold vp_in; decide +kernel)) dX6_hour_118 (congrArg (fun f => List.set (mW E a (((hearBuy c.1).1, ((((hearBuy c.1).2.1) + (stepW ((hearBuy c.1).2.2.1))) - (((hearBuy c.1).2.1) + (stepW ((hearBuy c.1).2.2.1))) / 8 * 8), (hearBuy c.1).2.2.1, (hearBuy c.1).2.2.2.1, (if (hearBuy c.1).2.2.2.2.2.1 < 50 then toneAt (hearBuy c.1) ((hearBuy c.1).2.1) else 3), (minI 99 (((hearBuy c.1).2.2.2.2.2.1) + 1)), (hearBuy c.1).2.2.2.2.2.2.1, (hearBuy c.1).2.2.2.2.2.2.2.1, (hearBuy c.1).2.2.2.2.2.2.2.2.1, (hearBuy c.1).2.2.2.2.2.2.2.2.2.1, (hearBuy c.1).2.2.2.2.2.2.2.2.2.2), c.2.1, c.2.2.1, c.2.2.2.1, c.2.2.2.2.1, c.2.2.2.2.2.1, c.2.2.2.2.2.2.1, c.2.2.2.2.2.2.2.1, c.2.2.2.2.2.2.2.2) h) 1 (a 1, .inl (gI E, 39, .inl f))) (eu_0 ((hearBuy c.1).1, ((((hearBuy c.1).2.1) + (stepW ((hearBuy c.1).2.2.1))) - (((hearBuy c.1).2.1) + (stepW ((hearBuy c.1).2.2.1))) / 8 * 8), (hearBuy c.1).2.2.1, (hearBuy c.1).2.2.2.1, (if (hearBuy c.1).2.2.2.2.2.1 < 50 then toneAt (hearBuy c.1) ((hearBuy c.1).2.1) else 3), (minI 99 (((hearBuy c.1).2.2.2.2.2.1) + 1)), (hearBuy c.1).2.2.2.2.2.2.1, (hearBuy c.1).2.2.2.2.2.2.2.1, (hearBuy c.1).2.2.2.2.2.2.2.2.1, (hearBuy c.1).2.2.2.2.2.2.2.2.2.1, (hearBuy c.1).2.2.2.2.2.2.2.2.2.2) (((hearBuy c.1).1) + 1))) ?_
          exact g_vret cx gr (Nat.zero_le _) (Nat.zero_le _) dX6_hour_119 (by rw [goHour, if_pos c_1, if_neg c_2]; rfl)
        refine g_icmp_ne (tgt := 102) cx dX6_hour_95 (by decide) (fun c_9 => ?_) (fun c_9 => ?_)
        · refine g_bipush (v := 7) cx dX6_hour_102 (by decide) ?_
          exact g_top (show (7 : Int32) = stepW ((hearBuy c.1).2.2.1) from by simp only [stepW, c_1, c_2, c_9, if_true, if_false, ite_true, ite_false, not_true_eq_false, not_false_eq_true] <;> rfl) J104_7
        · refine g_iconst (v := 1) cx dX6_hour_98 (by decide) ?_
          refine g_goto (tgt := 104) cx dX6_hour_99 (by decide) ?_
          exact g_top (show (1 : Int32) = stepW ((hearBuy c.1).2.2.1) from by simp only [stepW, c_1, c_2, c_9, if_true, if_false, ite_true, ite_false, not_true_eq_false, not_false_eq_true] <;> rfl) J104_7
      refine g_icmp_lt (tgt := 47) cx dX6_hour_40 (by decide) (fun c_10 => ?_) (fun c_10 => ?_)
      · refine g_aload_n cx dX6_hour_47 0 rfl ?_
        refine g_aload_n cx dX6_hour_48 0 rfl ?_
        refine g_get (C := RX6) (T := TX6) (N := 16) (v := .ref (a 1)) cx iwX6_hour_X6 0 0 rfl rfl (by decide) lkX6_hour_7 rfl dX6_hour_49 ?_
        refine g_iconst (v := 1) cx dX6_hour_52 (by decide) ?_
        refine g_iald cx 1 rfl rfl (by first | assumption | (unfold vp_in; decide +kernel)) dX6_hour_53 ?_
        refine g_top (y := (hearBuy c.1).2.1) (rfl) ?_
        refine g_VSi (rest := [.int 4, .ref (a 1)]) (As := [.int ((hearBuy c.1).2.1)]) cx hYX6_toneOf gX6_hour_X6_toneOf (c_X6_toneOf l E a ((hearBuy c.1), c.2.1, c.2.2.1, c.2.2.2.1, c.2.2.2.2.1, c.2.2.2.2.2.1, c.2.2.2.2.2.2.1, c.2.2.2.2.2.2.2.1, c.2.2.2.2.2.2.2.2) h ((hearBuy c.1).2.1) hat) rfl rfl rfl ⟨Nat.le_of_ble_eq_true rfl, Nat.le_of_ble_eq_true rfl⟩ rfl rfl (Nat.le_of_ble_eq_true rfl) ⟨Nat.le_of_ble_eq_true rfl, Nat.le_of_ble_eq_true rfl⟩ dX6_hour_54 (fun r w1 hp => ?_)
        obtain ⟨rfl, rfl⟩ := hp
        exact g_top (show (toneAt (hearBuy c.1) ((hearBuy c.1).2.1) : Int32) = if (hearBuy c.1).2.2.2.2.2.1 < 50 then toneAt (hearBuy c.1) ((hearBuy c.1).2.1) else 3 from by simp only [c_1, c_2, c_10, if_true, if_false, ite_true, ite_false, not_true_eq_false, not_false_eq_true] <;> rfl) J57_6
      · refine g_iconst (v := 3) cx dX6_hour_43 (by decide) ?_
        refine g_goto (tgt := 57) cx dX6_hour_44 (by decide) ?_
        exact g_top (show (3 : Int32) = if (hearBuy c.1).2.2.2.2.2.1 < 50 then toneAt (hearBuy c.1) ((hearBuy c.1).2.1) else 3 from by simp only [c_1, c_2, c_10, if_true, if_false, ite_true, ite_false, not_true_eq_false, not_false_eq_true] <;> rfl) J57_6
