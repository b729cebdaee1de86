abbrev rmX5_isWithin : Room := { frames := 0, cells := 0, slots := 0, locals := 0 }
theorem hYX5_isWithin : gY yX5_isWithin wsX5_isWithin cX5_isWithin 3 (some .boolean) 3 := ⟨⟨_, rfl⟩, by decide +kernel, by decide +kernel, by decide +kernel⟩
set_option maxRecDepth 100000 in
set_option maxHeartbeats 4000000 in
theorem c_X5_isWithin (l : Launch) (E : gE) (v0 : Int32) (a0 : Int32) (b0 : Int32) : cti l yX5_isWithin wsX5_isWithin rmX5_isWithin E [.int v0, .int a0, .int b0] [] (fun r w => r = isW v0 a0 b0 ∧ w = []) := by
  refine mt_i (cc := cX5_isWithin) (maxL := 3) (ret := some .boolean) (lv0 := [(0, .int v0), (1, .int a0), (2, .int b0)]) (by decide) rfl rfl (Nat.le_of_ble_eq_true rfl) (fun X cx gr hI => ?_)
  refine g_iload_n cx dX5_isWithin_0 0 rfl ?_
  refine g_iload_n cx dX5_isWithin_1 1 rfl ?_
  refine g_icmp_lt (tgt := 14) cx dX5_isWithin_2 (by decide) (fun c_1 => ?_) (fun c_1 => ?_)
  · refine g_iconst (v := 0) cx dX5_isWithin_14 (by decide) ?_
    exact g_zret cx gr rfl (Nat.zero_le _) (Nat.zero_le _) dX5_isWithin_15 ⟨by first | rfl | (simp only [isW, c_1, if_true, if_false]; done) | simp [isW, c_1], rfl⟩
  · refine g_iload_n cx dX5_isWithin_5 0 rfl ?_
    refine g_iload_n cx dX5_isWithin_6 2 rfl ?_
    refine g_icmp_gt (tgt := 14) cx dX5_isWithin_7 (by decide) (fun c_2 => ?_) (fun c_2 => ?_)
    · refine g_iconst (v := 0) cx dX5_isWithin_14 (by decide) ?_
      exact g_zret cx gr rfl (Nat.zero_le _) (Nat.zero_le _) dX5_isWithin_15 ⟨by first | rfl | (simp only [isW, c_1, c_2, if_true, if_false]; done) | simp [isW, c_1, c_2], rfl⟩
    · refine g_iconst (v := 1) cx dX5_isWithin_10 (by decide) ?_
      refine g_goto (tgt := 15) cx dX5_isWithin_11 (by decide) ?_
      exact g_zret cx gr rfl (Nat.zero_le _) (Nat.zero_le _) dX5_isWithin_15 ⟨by first | rfl | (simp only [isW, c_1, c_2, if_true, if_false]; done) | simp [isW, c_1, c_2], rfl⟩

abbrev rmX0_isKind : Room := { frames := 1, cells := 0, slots := 0, locals := 22 }
theorem hYX0_isKind : gY yX0_isKind wsX0_isKind cX0_isKind 1 (some .boolean) 1 := ⟨⟨_, rfl⟩, by decide +kernel, by decide +kernel, by decide +kernel⟩
theorem mwX0_isKind_n9 : ∀ w ∈ ([Cond.static yX5_isWithin, Cond.initialized yX5_isWithin.cls] : List Cond), w ∈ wsX0_isKind := by decide +kernel
set_option maxRecDepth 100000 in
set_option maxHeartbeats 4000000 in
theorem c_X0_isKind (l : Launch) (E : gE) (k0 : Int32) : cti l yX0_isKind wsX0_isKind rmX0_isKind E [.int k0] [] (fun r w => r = isW k0 0 5 ∧ w = []) := by
  refine mt_i (cc := cX0_isKind) (maxL := 1) (ret := some .boolean) (lv0 := [(0, .int k0)]) (by decide) rfl rfl (Nat.le_of_ble_eq_true rfl) (fun X cx gr hI => ?_)
  refine g_iload_n cx dX0_isKind_0 0 rfl ?_
  refine g_iconst (v := 0) cx dX0_isKind_1 (by decide) ?_
  refine g_iconst (v := 5) cx dX0_isKind_2 (by decide) ?_
  refine g_NPi (rest := []) (As := [.int k0, .int 0, .int 5]) (host := "MuffinBells") cx hYX5_isWithin ggX0_isKind_X5_isWithin mwX0_isKind_n9 (fun _ _ _ h => h.2.1.1) (c_X5_isWithin l E k0 0 5 ) ⟨Nat.le_of_ble_eq_true rfl, Nat.le_of_ble_eq_true rfl⟩ rfl rfl (Nat.le_of_ble_eq_true rfl) ⟨Nat.le_of_ble_eq_true rfl, Nat.le_of_ble_eq_true rfl⟩ dX0_isKind_3 ?_
  exact g_zret cx gr (by first | rfl | exact isW_bool _ _ _) (Nat.zero_le _) (Nat.zero_le _) dX0_isKind_6 ⟨by first | rfl | (simp only [if_true, if_false]; done) | simp [], rfl⟩

abbrev rmX5_isHouse : Room := { frames := 1, cells := 0, slots := 0, locals := 22 }
theorem hYX5_isHouse : gY yX5_isHouse wsX5_isHouse cX5_isHouse 1 (some .boolean) 1 := ⟨⟨_, rfl⟩, by decide +kernel, by decide +kernel, by decide +kernel⟩
set_option maxRecDepth 100000 in
set_option maxHeartbeats 4000000 in
theorem c_X5_isHouse (l : Launch) (E : gE) (k0 : Int32) : cti l yX5_isHouse wsX5_isHouse rmX5_isHouse E [.int k0] [] (fun r w => r = isW k0 0 7 ∧ w = []) := by
  refine mt_i (cc := cX5_isHouse) (maxL := 1) (ret := some .boolean) (lv0 := [(0, .int k0)]) (by decide) rfl rfl (Nat.le_of_ble_eq_true rfl) (fun X cx gr hI => ?_)
  refine g_iload_n cx dX5_isHouse_0 0 rfl ?_
  refine g_iconst (v := 0) cx dX5_isHouse_1 (by decide) ?_
  refine g_bipush (v := 7) cx dX5_isHouse_2 (by decide) ?_
  refine g_SPi (rest := []) (As := [.int k0, .int 0, .int 7]) cx hYX5_isWithin gX5_isHouse_X5_isWithin (c_X5_isWithin l E k0 0 7 ) ⟨Nat.le_of_ble_eq_true rfl, Nat.le_of_ble_eq_true rfl⟩ rfl rfl (Nat.le_of_ble_eq_true rfl) ⟨Nat.le_of_ble_eq_true rfl, Nat.le_of_ble_eq_true rfl⟩ dX5_isHouse_4 ?_
  exact g_zret cx gr (by first | rfl | exact isW_bool _ _ _) (Nat.zero_le _) (Nat.zero_le _) dX5_isHouse_7 ⟨by first | rfl | (simp only [if_true, if_false]; done) | simp [], rfl⟩

abbrev rmX5_isTone : Room := { frames := 1, cells := 0, slots := 0, locals := 22 }
theorem hYX5_isTone : gY yX5_isTone wsX5_isTone cX5_isTone 1 (some .boolean) 1 := ⟨⟨_, rfl⟩, by decide +kernel, by decide +kernel, by decide +kernel⟩
set_option maxRecDepth 100000 in
set_option maxHeartbeats 4000000 in
theorem c_X5_isTone (l : Launch) (E : gE) (k0 : Int32) : cti l yX5_isTone wsX5_isTone rmX5_isTone E [.int k0] [] (fun r w => r = isW k0 0 6 ∧ w = []) := by
  refine mt_i (cc := cX5_isTone) (maxL := 1) (ret := some .boolean) (lv0 := [(0, .int k0)]) (by decide) rfl rfl (Nat.le_of_ble_eq_true rfl) (fun X cx gr hI => ?_)
  refine g_iload_n cx dX5_isTone_0 0 rfl ?_
  refine g_iconst (v := 0) cx dX5_isTone_1 (by decide) ?_
  refine g_bipush (v := 6) cx dX5_isTone_2 (by decide) ?_
  refine g_SPi (rest := []) (As := [.int k0, .int 0, .int 6]) cx hYX5_isWithin gX5_isTone_X5_isWithin (c_X5_isWithin l E k0 0 6 ) ⟨Nat.le_of_ble_eq_true rfl, Nat.le_of_ble_eq_true rfl⟩ rfl rfl (Nat.le_of_ble_eq_true rfl) ⟨Nat.le_of_ble_eq_true rfl, Nat.le_of_ble_eq_true rfl⟩ dX5_isTone_4 ?_
  exact g_zret cx gr (by first | rfl | exact isW_bool _ _ _) (Nat.zero_le _) (Nat.zero_le _) dX5_isTone_7 ⟨by first | rfl | (simp only [if_true, if_false]; done) | simp [], rfl⟩

abbrev rmX5_isHoursOn : Room := { frames := 1, cells := 0, slots := 0, locals := 22 }
theorem hYX5_isHoursOn : gY yX5_isHoursOn wsX5_isHoursOn cX5_isHoursOn 1 (some .boolean) 1 := ⟨⟨_, rfl⟩, by decide +kernel, by decide +kernel, by decide +kernel⟩
set_option maxRecDepth 100000 in
set_option maxHeartbeats 4000000 in
theorem c_X5_isHoursOn (l : Launch) (E : gE) (k0 : Int32) : cti l yX5_isHoursOn wsX5_isHoursOn rmX5_isHoursOn E [.int k0] [] (fun r w => r = isW k0 0 200 ∧ w = []) := by
  refine mt_i (cc := cX5_isHoursOn) (maxL := 1) (ret := some .boolean) (lv0 := [(0, .int k0)]) (by decide) rfl rfl (Nat.le_of_ble_eq_true rfl) (fun X cx gr hI => ?_)
  refine g_iload_n cx dX5_isHoursOn_0 0 rfl ?_
  refine g_iconst (v := 0) cx dX5_isHoursOn_1 (by decide) ?_
  refine g_sipush (v := 200) cx dX5_isHoursOn_2 (by decide) ?_
  refine g_SPi (rest := []) (As := [.int k0, .int 0, .int 200]) cx hYX5_isWithin gX5_isHoursOn_X5_isWithin (c_X5_isWithin l E k0 0 200 ) ⟨Nat.le_of_ble_eq_true rfl, Nat.le_of_ble_eq_true rfl⟩ rfl rfl (Nat.le_of_ble_eq_true rfl) ⟨Nat.le_of_ble_eq_true rfl, Nat.le_of_ble_eq_true rfl⟩ dX5_isHoursOn_5 ?_
  exact g_zret cx gr (by first | rfl | exact isW_bool _ _ _) (Nat.zero_le _) (Nat.zero_le _) dX5_isHoursOn_8 ⟨by first | rfl | (simp only [if_true, if_false]; done) | simp [], rfl⟩

abbrev rmX5_isSheet : Room := { frames := 1, cells := 0, slots := 0, locals := 22 }
theorem hYX5_isSheet : gY yX5_isSheet wsX5_isSheet cX5_isSheet 1 (some .boolean) 1 := ⟨⟨_, rfl⟩, by decide +kernel, by decide +kernel, by decide +kernel⟩
set_option maxRecDepth 100000 in
set_option maxHeartbeats 4000000 in
theorem c_X5_isSheet (l : Launch) (E : gE) (k0 : Int32) : cti l yX5_isSheet wsX5_isSheet rmX5_isSheet E [.int k0] [] (fun r w => r = isW k0 0 3 ∧ w = []) := by
  refine mt_i (cc := cX5_isSheet) (maxL := 1) (ret := some .boolean) (lv0 := [(0, .int k0)]) (by decide) rfl rfl (Nat.le_of_ble_eq_true rfl) (fun X cx gr hI => ?_)
  refine g_iload_n cx dX5_isSheet_0 0 rfl ?_
  refine g_iconst (v := 0) cx dX5_isSheet_1 (by decide) ?_
  refine g_iconst (v := 3) cx dX5_isSheet_2 (by decide) ?_
  refine g_SPi (rest := []) (As := [.int k0, .int 0, .int 3]) cx hYX5_isWithin gX5_isSheet_X5_isWithin (c_X5_isWithin l E k0 0 3 ) ⟨Nat.le_of_ble_eq_true rfl, Nat.le_of_ble_eq_true rfl⟩ rfl rfl (Nat.le_of_ble_eq_true rfl) ⟨Nat.le_of_ble_eq_true rfl, Nat.le_of_ble_eq_true rfl⟩ dX5_isSheet_3 ?_
  exact g_zret cx gr (by first | rfl | exact isW_bool _ _ _) (Nat.zero_le _) (Nat.zero_le _) dX5_isSheet_6 ⟨by first | rfl | (simp only [if_true, if_false]; done) | simp [], rfl⟩

abbrev rmX5_isHoursWeighed : Room := { frames := 1, cells := 0, slots := 0, locals := 22 }
theorem hYX5_isHoursWeighed : gY yX5_isHoursWeighed wsX5_isHoursWeighed cX5_isHoursWeighed 1 (some .boolean) 1 := ⟨⟨_, rfl⟩, by decide +kernel, by decide +kernel, by decide +kernel⟩
set_option maxRecDepth 100000 in
set_option maxHeartbeats 4000000 in
theorem c_X5_isHoursWeighed (l : Launch) (E : gE) (k0 : Int32) : cti l yX5_isHoursWeighed wsX5_isHoursWeighed rmX5_isHoursWeighed E [.int k0] [] (fun r w => r = isW k0 1 60 ∧ w = []) := by
  refine mt_i (cc := cX5_isHoursWeighed) (maxL := 1) (ret := some .boolean) (lv0 := [(0, .int k0)]) (by decide) rfl rfl (Nat.le_of_ble_eq_true rfl) (fun X cx gr hI => ?_)
  refine g_iload_n cx dX5_isHoursWeighed_0 0 rfl ?_
  refine g_iconst (v := 1) cx dX5_isHoursWeighed_1 (by decide) ?_
  refine g_bipush (v := 60) cx dX5_isHoursWeighed_2 (by decide) ?_
  refine g_SPi (rest := []) (As := [.int k0, .int 1, .int 60]) cx hYX5_isWithin gX5_isHoursWeighed_X5_isWithin (c_X5_isWithin l E k0 1 60 ) ⟨Nat.le_of_ble_eq_true rfl, Nat.le_of_ble_eq_true rfl⟩ rfl rfl (Nat.le_of_ble_eq_true rfl) ⟨Nat.le_of_ble_eq_true rfl, Nat.le_of_ble_eq_true rfl⟩ dX5_isHoursWeighed_4 ?_
  exact g_zret cx gr (by first | rfl | exact isW_bool _ _ _) (Nat.zero_le _) (Nat.zero_le _) dX5_isHoursWeighed_7 ⟨by first | rfl | (simp only [if_true, if_false]; done) | simp [], rfl⟩

abbrev rmX5_held : Room := { frames := 1, cells := 0, slots := 0, locals := 21 }
theorem hYX5_held : gY yX5_held wsX5_held cX5_held 3 (some .int) 3 := ⟨⟨_, rfl⟩, by decide +kernel, by decide +kernel, by decide +kernel⟩
theorem mwX5_held_mmin : ∀ w ∈ ([Cond.methodLink RX5 242 Lib.Math.min.name, Cond.static Lib.Math.min.name, Cond.initialized "java/lang/Math", Cond.code Lib.Math.min.name Lib.Math.min.code 2 (some .int)] : List Cond), w ∈ wsX5_held := by decide +kernel
theorem mwX5_held_mmax : ∀ w ∈ ([Cond.methodLink RX5 247 Lib.Math.max.name, Cond.static Lib.Math.max.name, Cond.initialized "java/lang/Math", Cond.code Lib.Math.max.name Lib.Math.max.code 2 (some .int)] : List Cond), w ∈ wsX5_held := by decide +kernel
set_option maxRecDepth 100000 in
set_option maxHeartbeats 4000000 in
theorem c_X5_held (l : Launch) (E : gE) (v0 : Int32) (a0 : Int32) (b0 : Int32) : cti l yX5_held wsX5_held rmX5_held E [.int v0, .int a0, .int b0] [] (fun r w => r = sHeld v0 a0 b0 ∧ w = []) := by
  refine mt_i (cc := cX5_held) (maxL := 3) (ret := some .int) (lv0 := [(0, .int v0), (1, .int a0), (2, .int b0)]) (by decide) rfl rfl (Nat.le_of_ble_eq_true rfl) (fun X cx gr hI => ?_)
  refine g_iload_n cx dX5_held_0 1 rfl ?_
  refine g_iload_n cx dX5_held_1 2 rfl ?_
  refine g_iload_n cx dX5_held_2 0 rfl ?_
  refine g_min cx mwX5_held_mmin (by decide) (Nat.le_of_ble_eq_true rfl) (Nat.zero_le _) (Nat.zero_le _) dX5_held_3 ?_
  refine g_max cx mwX5_held_mmax (by decide) (Nat.le_of_ble_eq_true rfl) (Nat.zero_le _) (Nat.zero_le _) dX5_held_6 ?_
  exact g_iret cx gr (Nat.zero_le _) (Nat.zero_le _) dX5_held_9 ⟨by first | rfl | (simp only [if_true, if_false]; done) | simp [], rfl⟩

abbrev rmX0_above : Room := { frames := 0, cells := 0, slots := 0, locals := 0 }
theorem hYX0_above : gY yX0_above wsX0_above cX0_above 1 (some .int) 1 := ⟨⟨_, rfl⟩, by decide +kernel, by decide +kernel, by decide +kernel⟩
set_option maxRecDepth 100000 in
set_option maxHeartbeats 4000000 in
theorem c_X0_above (l : Launch) (E : gE) (k0 : Int32) : cti l yX0_above wsX0_above rmX0_above E [.int k0] [] (fun r w => r = sAbove k0 ∧ w = []) := by
  refine mt_i (cc := cX0_above) (maxL := 1) (ret := some .int) (lv0 := [(0, .int k0)]) (by decide) rfl rfl (Nat.le_of_ble_eq_true rfl) (fun X cx gr hI => ?_)
  refine g_iload_n cx dX0_above_0 0 rfl ?_
  refine g_tsw cx dX0_above_1 42 (by decide) (fun j hj cs_1 => ?_) (fun cs_1 => ?_)
  · rcases j with _ | _ | _ | _ | _ | j
    · refine ⟨_, 36, rfl, by decide, ?_⟩
      have cs_1 : k0 = 1 := Int32.toInt_inj.mp (cs_1.trans (by decide))
      refine g_iconst (v := 0) cx dX0_above_36 (by decide) ?_
      exact g_iret cx gr (Nat.zero_le _) (Nat.zero_le _) dX0_above_37 ⟨by first | rfl | (simp only [sAbove, cs_1, if_true, if_false]; done) | simp [sAbove, cs_1], rfl⟩
    · refine ⟨_, 36, rfl, by decide, ?_⟩
      have cs_1 : k0 = 2 := Int32.toInt_inj.mp (cs_1.trans (by decide))
      refine g_iconst (v := 0) cx dX0_above_36 (by decide) ?_
      exact g_iret cx gr (Nat.zero_le _) (Nat.zero_le _) dX0_above_37 ⟨by first | rfl | (simp only [sAbove, cs_1, if_true, if_false]; done) | simp [sAbove, cs_1], rfl⟩
    · refine ⟨_, 36, rfl, by decide, ?_⟩
      have cs_1 : k0 = 3 := Int32.toInt_inj.mp (cs_1.trans (by decide))
      refine g_iconst (v := 0) cx dX0_above_36 (by decide) ?_
      exact g_iret cx gr (Nat.zero_le _) (Nat.zero_le _) dX0_above_37 ⟨by first | rfl | (simp only [sAbove, cs_1, if_true, if_false]; done) | simp [sAbove, cs_1], rfl⟩
    · refine ⟨_, 38, rfl, by decide, ?_⟩
      have cs_1 : k0 = 4 := Int32.toInt_inj.mp (cs_1.trans (by decide))
      refine g_iconst (v := 1) cx dX0_above_38 (by decide) ?_
      exact g_iret cx gr (Nat.zero_le _) (Nat.zero_le _) dX0_above_39 ⟨by first | rfl | (simp only [sAbove, cs_1, if_true, if_false]; done) | simp [sAbove, cs_1], rfl⟩
    · refine ⟨_, 40, rfl, by decide, ?_⟩
      have cs_1 : k0 = 5 := Int32.toInt_inj.mp (cs_1.trans (by decide))
      refine g_iconst (v := 2) cx dX0_above_40 (by decide) ?_
      exact g_iret cx gr (Nat.zero_le _) (Nat.zero_le _) dX0_above_41 ⟨by first | rfl | (simp only [sAbove, cs_1, if_true, if_false]; done) | simp [sAbove, cs_1], rfl⟩
    · exact absurd hj (by omega)
  · have hsx := cs_1
    have cs_1_0 : ¬ k0 = 1 := sw_ne cs_1 (by decide)
    have cs_1_1 : ¬ k0 = 2 := sw_ne cs_1 (by decide)
    have cs_1_2 : ¬ k0 = 3 := sw_ne cs_1 (by decide)
    have cs_1_3 : ¬ k0 = 4 := sw_ne cs_1 (by decide)
    have cs_1_4 : ¬ k0 = 5 := sw_ne cs_1 (by decide)
    refine g_iconst (v := (-1)) cx dX0_above_42 (by decide) ?_
    exact g_iret cx gr (Nat.zero_le _) (Nat.zero_le _) dX0_above_43 ⟨by first | rfl | (simp only [sAbove, cs_1_0, cs_1_1, cs_1_2, cs_1_3, cs_1_4, if_true, if_false]; done) | simp [sAbove, cs_1_0, cs_1_1, cs_1_2, cs_1_3, cs_1_4], rfl⟩

abbrev rmX0_tone : Room := { frames := 0, cells := 0, slots := 0, locals := 0 }
theorem hYX0_tone : gY yX0_tone wsX0_tone cX0_tone 6 (some .int) 3 := ⟨⟨_, rfl⟩, by decide +kernel, by decide +kernel, by decide +kernel⟩
set_option maxRecDepth 100000 in
set_option maxHeartbeats 4000000 in
theorem c_X0_tone (l : Launch) (E : gE) (k0 : Int32) (m0 : Int32) (h0 : Int32) : cti l yX0_tone wsX0_tone rmX0_tone E [.int k0, .int m0, .int h0] [] (fun r w => r = sTone k0 m0 h0 ∧ w = []) := by
  refine mt_i (cc := cX0_tone) (maxL := 6) (ret := some .int) (lv0 := [(0, .int k0), (1, .int m0), (2, .int h0)]) (by decide) rfl rfl (Nat.le_of_ble_eq_true rfl) (fun X cx gr hI => ?_)
  refine g_iload_n cx dX0_tone_0 1 rfl ?_
  refine g_iconst (v := 3) cx dX0_tone_1 (by decide) ?_
  refine g_idiv cx dX0_tone_2 (by decide) ?_
  refine g_istore_n (lv' := [(3, .int (m0 / 3)), (0, .int k0), (1, .int m0), (2, .int h0)]) cx dX0_tone_3 (by decide) rfl ?_
  refine g_iload_n cx dX0_tone_4 0 rfl ?_
  refine g_bipush (v := 6) cx dX0_tone_5 (by decide) ?_
  have J18_0 : gG X 0 0 [] 18 [(3, .int (m0 / 3)), (0, .int k0), (1, .int m0), (2, .int h0)] (.int (gayT (m0 / 3)) :: []) := by
    refine g_istore (lv' := [(4, .int (gayT (m0 / 3))), (3, .int (m0 / 3)), (0, .int k0), (1, .int m0), (2, .int h0)]) cx dX0_tone_18 (by decide) rfl ?_
    refine g_iload_n cx dX0_tone_20 1 rfl ?_
    refine g_iconst (v := 2) cx dX0_tone_21 (by decide) ?_
    have J32_1 : gG X 0 0 [] 32 [(4, .int (gayT (m0 / 3))), (3, .int (m0 / 3)), (0, .int k0), (1, .int m0), (2, .int h0)] (.int (graveT (m0 / 3)) :: []) := by
      refine g_istore (lv' := [(5, .int (graveT (m0 / 3))), (4, .int (gayT (m0 / 3))), (3, .int (m0 / 3)), (0, .int k0), (1, .int m0), (2, .int h0)]) cx dX0_tone_32 (by decide) rfl ?_
      refine g_iload_n cx dX0_tone_34 3 rfl ?_
      refine g_tsw cx dX0_tone_35 103 (by decide) (fun j hj cs_3 => ?_) (fun cs_3 => ?_)
      · rcases j with _ | _ | _ | _ | _ | j
        · refine ⟨_, 68, rfl, by decide, ?_⟩
          have cs_3 : k0 = 1 := Int32.toInt_inj.mp (cs_3.trans (by decide))
          refine g_iload cx dX0_tone_68 1 rfl ?_
          exact g_iret cx gr (Nat.zero_le _) (Nat.zero_le _) dX0_tone_70 ⟨by first | rfl | (simp only [sTone, cs_3, if_true, if_false]; done) | simp [sTone, cs_3], rfl⟩
        · refine ⟨_, 71, rfl, by decide, ?_⟩
          have cs_3 : k0 = 2 := Int32.toInt_inj.mp (cs_3.trans (by decide))
          refine g_iload cx dX0_tone_71 0 rfl ?_
          exact g_iret cx gr (Nat.zero_le _) (Nat.zero_le _) dX0_tone_73 ⟨by first | rfl | (simp only [sTone, cs_3, if_true, if_false]; done) | simp [sTone, cs_3], rfl⟩
        · refine ⟨_, 74, rfl, by decide, ?_⟩
          have cs_3 : k0 = 3 := Int32.toInt_inj.mp (cs_3.trans (by decide))
          refine g_iconst (v := 3) cx dX0_tone_74 (by decide) ?_
          exact g_iret cx gr (Nat.zero_le _) (Nat.zero_le _) dX0_tone_75 ⟨by first | rfl | (simp only [sTone, cs_3, if_true, if_false]; done) | simp [sTone, cs_3], rfl⟩
        · refine ⟨_, 76, rfl, by decide, ?_⟩
          have cs_3 : k0 = 4 := Int32.toInt_inj.mp (cs_3.trans (by decide))
          refine g_iload_n cx dX0_tone_76 5 rfl ?_
          refine g_iconst (v := 3) cx dX0_tone_77 (by decide) ?_
          refine g_irem cx dX0_tone_78 (by decide) ?_
          refine g_iconst (v := 1) cx dX0_tone_79 (by decide) ?_
          refine g_icmp_ne (tgt := 87) cx dX0_tone_80 (by decide) (fun c_4 => ?_) (fun c_4 => ?_)
          · refine g_iload cx dX0_tone_87 1 rfl ?_
            exact g_iret cx gr (Nat.zero_le _) (Nat.zero_le _) dX0_tone_89 ⟨by first | rfl | (simp only [sTone, cs_3, c_4, if_true, if_false]; done) | simp [sTone, cs_3, c_4], rfl⟩
          · refine g_iconst (v := 0) cx dX0_tone_83 (by decide) ?_
            refine g_goto (tgt := 89) cx dX0_tone_84 (by decide) ?_
            exact g_iret cx gr (Nat.zero_le _) (Nat.zero_le _) dX0_tone_89 ⟨by first | rfl | (simp only [sTone, cs_3, c_4, if_true, if_false]; done) | simp [sTone, cs_3, c_4], rfl⟩
        · refine ⟨_, 90, rfl, by decide, ?_⟩
          have cs_3 : k0 = 5 := Int32.toInt_inj.mp (cs_3.trans (by decide))
          refine g_iload_n cx dX0_tone_90 4 rfl ?_
          refine g_bipush (v := 12) cx dX0_tone_91 (by decide) ?_
          refine g_icmp_ge (tgt := 100) cx dX0_tone_93 (by decide) (fun c_5 => ?_) (fun c_5 => ?_)
          · refine g_iload cx dX0_tone_100 0 rfl ?_
            exact g_iret cx gr (Nat.zero_le _) (Nat.zero_le _) dX0_tone_102 ⟨by first | rfl | (simp only [sTone, cs_3, c_5, if_true, if_false]; done) | simp [sTone, cs_3, c_5], rfl⟩
          · refine g_iconst (v := 0) cx dX0_tone_96 (by decide) ?_
            refine g_goto (tgt := 102) cx dX0_tone_97 (by decide) ?_
            exact g_iret cx gr (Nat.zero_le _) (Nat.zero_le _) dX0_tone_102 ⟨by first | rfl | (simp only [sTone, cs_3, c_5, if_true, if_false]; done) | simp [sTone, cs_3, c_5], rfl⟩
        · exact absurd hj (by omega)
      · have hsx := cs_3
        have cs_3_0 : ¬ k0 = 1 := sw_ne cs_3 (by decide)
        have cs_3_1 : ¬ k0 = 2 := sw_ne cs_3 (by decide)
        have cs_3_2 : ¬ k0 = 3 := sw_ne cs_3 (by decide)
        have cs_3_3 : ¬ k0 = 4 := sw_ne cs_3 (by decide)
        have cs_3_4 : ¬ k0 = 5 := sw_ne cs_3 (by decide)
        refine g_iload_n cx dX0_tone_103 2 rfl ?_
        exact g_iret cx gr (Nat.zero_le _) (Nat.zero_le _) dX0_tone_104 ⟨by first | rfl | (simp only [sTone, cs_3_0, cs_3_1, cs_3_2, cs_3_3, cs_3_4, if_true, if_false]; done) | simp [sTone, cs_3_0, cs_3_1, cs_3_2, cs_3_3, cs_3_4], rfl⟩
    refine g_icmp_le (tgt := 31) cx dX0_tone_22 (by decide) (fun c_6 => ?_) (fun c_6 => ?_)
    · refine g_iconst (v := 0) cx dX0_tone_31 (by decide) ?_
      exact g_top (show (0 : Int32) = graveT (m0 / 3) from by simp only [graveT, c_6, if_true, if_false, ite_true, ite_false, not_true_eq_false, not_false_eq_true] <;> rfl) J32_1
    · refine g_iload_n cx dX0_tone_25 1 rfl ?_
      refine g_iconst (v := 2) cx dX0_tone_26 (by decide) ?_
      refine g_isub cx dX0_tone_27 ?_
      refine g_goto (tgt := 32) cx dX0_tone_28 (by decide) ?_
      exact g_top (show ((m0 / 3) - 2 : Int32) = graveT (m0 / 3) from by simp only [graveT, c_6, if_true, if_false, ite_true, ite_false, not_true_eq_false, not_false_eq_true] <;> rfl) J32_1
  refine g_icmp_ge (tgt := 16) cx dX0_tone_7 (by decide) (fun c_7 => ?_) (fun c_7 => ?_)
  · refine g_bipush (v := 6) cx dX0_tone_16 (by decide) ?_
    exact g_top (show (6 : Int32) = gayT (m0 / 3) from by simp only [gayT, c_7, if_true, if_false, ite_true, ite_false, not_true_eq_false, not_false_eq_true] <;> rfl) J18_0
  · refine g_iload_n cx dX0_tone_10 0 rfl ?_
    refine g_iconst (v := 1) cx dX0_tone_11 (by decide) ?_
    refine g_iadd cx dX0_tone_12 ?_
    refine g_goto (tgt := 18) cx dX0_tone_13 (by decide) ?_
    exact g_top (show ((m0 / 3) + 1 : Int32) = gayT (m0 / 3) from by simp only [gayT, c_7, if_true, if_false, ite_true, ite_false, not_true_eq_false, not_false_eq_true] <;> rfl) J18_0

abbrev rmX0_minding : Room := { frames := 0, cells := 0, slots := 0, locals := 0 }
theorem hYX0_minding : gY yX0_minding wsX0_minding cX0_minding 5 (some .int) 3 := ⟨⟨_, rfl⟩, by decide +kernel, by decide +kernel, by decide +kernel⟩
set_option maxRecDepth 100000 in
set_option maxHeartbeats 4000000 in
theorem c_X0_minding (l : Launch) (E : gE) (k0 : Int32) (r0 : Int32) (o0 : Int32) : cti l yX0_minding wsX0_minding rmX0_minding E [.int k0, .int r0, .int o0] [] (fun r w => r = sMind k0 r0 o0 ∧ w = []) := by
  refine mt_i (cc := cX0_minding) (maxL := 5) (ret := some .int) (lv0 := [(0, .int k0), (1, .int r0), (2, .int o0)]) (by decide) rfl rfl (Nat.le_of_ble_eq_true rfl) (fun X cx gr hI => ?_)
  refine g_iload_n cx dX0_minding_0 1 rfl ?_
  refine g_iload_n cx dX0_minding_1 2 rfl ?_
  have J19_0 : gG X 0 0 [] 19 [(0, .int k0), (1, .int r0), (2, .int o0)] (.int (plainM r0 o0) :: []) := by
    refine g_istore_n (lv' := [(3, .int (plainM r0 o0)), (0, .int k0), (1, .int r0), (2, .int o0)]) cx dX0_minding_19 (by decide) rfl ?_
    refine g_iload_n cx dX0_minding_20 2 rfl ?_
    refine g_iconst (v := 3) cx dX0_minding_21 (by decide) ?_
    have J32_1 : gG X 0 0 [] 32 [(3, .int (plainM r0 o0)), (0, .int k0), (1, .int r0), (2, .int o0)] (.int (gayM r0 (plainM r0 o0)) :: []) := by
      refine g_istore (lv' := [(4, .int (gayM r0 (plainM r0 o0))), (3, .int (plainM r0 o0)), (0, .int k0), (1, .int r0), (2, .int o0)]) cx dX0_minding_32 (by decide) rfl ?_
      refine g_iload_n cx dX0_minding_34 2 rfl ?_
      refine g_tsw cx dX0_minding_35 102 (by decide) (fun j hj cs_3 => ?_) (fun cs_3 => ?_)
      · rcases j with _ | _ | _ | _ | _ | j
        · refine ⟨_, 68, rfl, by decide, ?_⟩
          have cs_3 : k0 = 1 := Int32.toInt_inj.mp (cs_3.trans (by decide))
          refine g_iload cx dX0_minding_68 0 rfl ?_
          exact g_iret cx gr (Nat.zero_le _) (Nat.zero_le _) dX0_minding_70 ⟨by first | rfl | (simp only [sMind, cs_3, if_true, if_false]; done) | simp [sMind, cs_3], rfl⟩
        · refine ⟨_, 71, rfl, by decide, ?_⟩
          have cs_3 : k0 = 2 := Int32.toInt_inj.mp (cs_3.trans (by decide))
          refine g_iconst (v := (-1)) cx dX0_minding_71 (by decide) ?_
          exact g_iret cx gr (Nat.zero_le _) (Nat.zero_le _) dX0_minding_72 ⟨by first | rfl | (simp only [sMind, cs_3, if_true, if_false]; done) | simp [sMind, cs_3], rfl⟩
        · refine ⟨_, 73, rfl, by decide, ?_⟩
          have cs_3 : k0 = 3 := Int32.toInt_inj.mp (cs_3.trans (by decide))
          refine g_iload_n cx dX0_minding_73 3 rfl ?_
          refine g_iconst (v := 2) cx dX0_minding_74 (by decide) ?_
          refine g_irem cx dX0_minding_75 (by decide) ?_
          refine g_iconst (v := 1) cx dX0_minding_76 (by decide) ?_
          refine g_icmp_ne (tgt := 85) cx dX0_minding_77 (by decide) (fun c_4 => ?_) (fun c_4 => ?_)
          · refine g_iconst (v := 1) cx dX0_minding_85 (by decide) ?_
            exact g_iret cx gr (Nat.zero_le _) (Nat.zero_le _) dX0_minding_86 ⟨by first | rfl | (simp only [sMind, cs_3, c_4, if_true, if_false]; done) | simp [sMind, cs_3, c_4], rfl⟩
          · refine g_bipush (v := (-2)) cx dX0_minding_80 (by decide) ?_
            refine g_goto (tgt := 86) cx dX0_minding_82 (by decide) ?_
            exact g_iret cx gr (Nat.zero_le _) (Nat.zero_le _) dX0_minding_86 ⟨by first | rfl | (simp only [sMind, cs_3, c_4, if_true, if_false]; done) | simp [sMind, cs_3, c_4], rfl⟩
        · refine ⟨_, 87, rfl, by decide, ?_⟩
          have cs_3 : k0 = 4 := Int32.toInt_inj.mp (cs_3.trans (by decide))
          refine g_iconst (v := 2) cx dX0_minding_87 (by decide) ?_
          refine g_iload cx dX0_minding_88 0 rfl ?_
          refine g_imul cx dX0_minding_90 ?_
          exact g_iret cx gr (Nat.zero_le _) (Nat.zero_le _) dX0_minding_91 ⟨by first | rfl | (simp only [sMind, cs_3, if_true, if_false]; done) | simp [sMind, cs_3], rfl⟩
        · refine ⟨_, 92, rfl, by decide, ?_⟩
          have cs_3 : k0 = 5 := Int32.toInt_inj.mp (cs_3.trans (by decide))
          refine g_iload_n cx dX0_minding_92 3 rfl ?_
          refine g_if_ne (tgt := 100) cx dX0_minding_93 (by decide) (fun c_5 => ?_) (fun c_5 => ?_)
          · refine g_iconst (v := (-1)) cx dX0_minding_100 (by decide) ?_
            exact g_iret cx gr (Nat.zero_le _) (Nat.zero_le _) dX0_minding_101 ⟨by first | rfl | (simp only [sMind, cs_3, c_5, if_true, if_false]; done) | simp [sMind, cs_3, c_5], rfl⟩
          · refine g_iconst (v := 0) cx dX0_minding_96 (by decide) ?_
            refine g_goto (tgt := 101) cx dX0_minding_97 (by decide) ?_
            exact g_iret cx gr (Nat.zero_le _) (Nat.zero_le _) dX0_minding_101 ⟨by first | rfl | (simp only [sMind, cs_3, c_5, if_true, if_false]; done) | simp [sMind, cs_3, c_5], rfl⟩
        · exact absurd hj (by omega)
      · have hsx := cs_3
        have cs_3_0 : ¬ k0 = 1 := sw_ne cs_3 (by decide)
        have cs_3_1 : ¬ k0 = 2 := sw_ne cs_3 (by decide)
        have cs_3_2 : ¬ k0 = 3 := sw_ne cs_3 (by decide)
        have cs_3_3 : ¬ k0 = 4 := sw_ne cs_3 (by decide)
        have cs_3_4 : ¬ k0 = 5 := sw_ne cs_3 (by decide)
        refine g_iload_n cx dX0_minding_102 1 rfl ?_
        exact g_iret cx gr (Nat.zero_le _) (Nat.zero_le _) dX0_minding_103 ⟨by first | rfl | (simp only [sMind, cs_3_0, cs_3_1, cs_3_2, cs_3_3, cs_3_4, if_true, if_false]; done) | simp [sMind, cs_3_0, cs_3_1, cs_3_2, cs_3_3, cs_3_4], rfl⟩
    refine g_icmp_le (tgt := 31) cx dX0_minding_22 (by decide) (fun c_6 => ?_) (fun c_6 => ?_)
    · refine g_iload_n cx dX0_minding_31 0 rfl ?_
      exact g_top (show (plainM r0 o0 : Int32) = gayM r0 (plainM r0 o0) from by simp only [gayM, c_6, if_true, if_false, ite_true, ite_false, not_true_eq_false, not_false_eq_true] <;> rfl) J32_1
    · refine g_iload_n cx dX0_minding_25 0 rfl ?_
      refine g_iconst (v := 1) cx dX0_minding_26 (by decide) ?_
      refine g_iadd cx dX0_minding_27 ?_
      refine g_goto (tgt := 32) cx dX0_minding_28 (by decide) ?_
      exact g_top (show ((plainM r0 o0) + 1 : Int32) = gayM r0 (plainM r0 o0) from by simp only [gayM, c_6, if_true, if_false, ite_true, ite_false, not_true_eq_false, not_false_eq_true] <;> rfl) J32_1
  refine g_icmp_le (tgt := 9) cx dX0_minding_2 (by decide) (fun c_7 => ?_) (fun c_7 => ?_)
  · refine g_iload_n cx dX0_minding_9 1 rfl ?_
    refine g_iload_n cx dX0_minding_10 2 rfl ?_
    refine g_icmp_ge (tgt := 18) cx dX0_minding_11 (by decide) (fun c_8 => ?_) (fun c_8 => ?_)
    · refine g_iconst (v := 0) cx dX0_minding_18 (by decide) ?_
      exact g_top (show (0 : Int32) = plainM r0 o0 from by simp only [plainM, c_7, c_8, if_true, if_false, ite_true, ite_false, not_true_eq_false, not_false_eq_true] <;> rfl) J19_0
    · refine g_iconst (v := (-1)) cx dX0_minding_14 (by decide) ?_
      refine g_goto (tgt := 19) cx dX0_minding_15 (by decide) ?_
      exact g_top (show ((-1) : Int32) = plainM r0 o0 from by simp only [plainM, c_7, c_8, if_true, if_false, ite_true, ite_false, not_true_eq_false, not_false_eq_true] <;> rfl) J19_0
  · refine g_iconst (v := 1) cx dX0_minding_5 (by decide) ?_
    refine g_goto (tgt := 19) cx dX0_minding_6 (by decide) ?_
    exact g_top (show (1 : Int32) = plainM r0 o0 from by simp only [plainM, c_7, if_true, if_false, ite_true, ite_false, not_true_eq_false, not_false_eq_true] <;> rfl) J19_0

abbrev rmX0_wanting : Room := { frames := 0, cells := 0, slots := 0, locals := 0 }
theorem hYX0_wanting : gY yX0_wanting wsX0_wanting cX0_wanting 5 (some .int) 2 := ⟨⟨_, rfl⟩, by decide +kernel, by decide +kernel, by decide +kernel⟩
set_option maxRecDepth 100000 in
set_option maxHeartbeats 4000000 in
theorem c_X0_wanting (l : Launch) (E : gE) (k0 : Int32) (r0 : Int32) : cti l yX0_wanting wsX0_wanting rmX0_wanting E [.int k0, .int r0] [] (fun r w => r = sWant k0 r0 ∧ w = []) := by
  refine mt_i (cc := cX0_wanting) (maxL := 5) (ret := some .int) (lv0 := [(0, .int k0), (1, .int r0)]) (by decide) rfl rfl (Nat.le_of_ble_eq_true rfl) (fun X cx gr hI => ?_)
  refine g_iconst (v := 1) cx dX0_wanting_0 (by decide) ?_
  refine g_istore_n (lv' := [(2, .int 1), (0, .int k0), (1, .int r0)]) cx dX0_wanting_1 (by decide) rfl ?_
  refine g_iload_n cx dX0_wanting_2 2 rfl ?_
  refine g_iconst (v := 4) cx dX0_wanting_3 (by decide) ?_
  have J14_0 : gG X 0 0 [] 14 [(2, .int 1), (0, .int k0), (1, .int r0)] (.int (gayW r0) :: []) := by
    refine g_istore_n (lv' := [(3, .int (gayW r0)), (2, .int 1), (0, .int k0), (1, .int r0)]) cx dX0_wanting_14 (by decide) rfl ?_
    refine g_iload_n cx dX0_wanting_15 3 rfl ?_
    refine g_iconst (v := 2) cx dX0_wanting_16 (by decide) ?_
    have J25_1 : gG X 0 0 [] 25 [(3, .int (gayW r0)), (2, .int 1), (0, .int k0), (1, .int r0)] (.int (graveW r0) :: []) := by
      refine g_istore (lv' := [(4, .int (graveW r0)), (3, .int (gayW r0)), (2, .int 1), (0, .int k0), (1, .int r0)]) cx dX0_wanting_25 (by decide) rfl ?_
      refine g_iload_n cx dX0_wanting_27 3 rfl ?_
      refine g_tsw cx dX0_wanting_28 91 (by decide) (fun j hj cs_3 => ?_) (fun cs_3 => ?_)
      · rcases j with _ | _ | _ | _ | _ | j
        · refine ⟨_, 64, rfl, by decide, ?_⟩
          have cs_3 : k0 = 1 := Int32.toInt_inj.mp (cs_3.trans (by decide))
          refine g_iload_n cx dX0_wanting_64 1 rfl ?_
          exact g_iret cx gr (Nat.zero_le _) (Nat.zero_le _) dX0_wanting_65 ⟨by first | rfl | (simp only [sWant, cs_3, if_true, if_false]; done) | simp [sWant, cs_3], rfl⟩
        · refine ⟨_, 66, rfl, by decide, ?_⟩
          have cs_3 : k0 = 2 := Int32.toInt_inj.mp (cs_3.trans (by decide))
          refine g_iload cx dX0_wanting_66 0 rfl ?_
          exact g_iret cx gr (Nat.zero_le _) (Nat.zero_le _) dX0_wanting_68 ⟨by first | rfl | (simp only [sWant, cs_3, if_true, if_false]; done) | simp [sWant, cs_3], rfl⟩
        · refine ⟨_, 69, rfl, by decide, ?_⟩
          have cs_3 : k0 = 3 := Int32.toInt_inj.mp (cs_3.trans (by decide))
          refine g_iload_n cx dX0_wanting_69 4 rfl ?_
          refine g_iconst (v := 2) cx dX0_wanting_70 (by decide) ?_
          refine g_irem cx dX0_wanting_71 (by decide) ?_
          refine g_iconst (v := 1) cx dX0_wanting_72 (by decide) ?_
          refine g_icmp_ne (tgt := 80) cx dX0_wanting_73 (by decide) (fun c_4 => ?_) (fun c_4 => ?_)
          · refine g_iload_n cx dX0_wanting_80 2 rfl ?_
            exact g_iret cx gr (Nat.zero_le _) (Nat.zero_le _) dX0_wanting_81 ⟨by first | rfl | (simp only [sWant, cs_3, c_4, if_true, if_false]; done) | simp [sWant, cs_3, c_4], rfl⟩
          · refine g_iconst (v := 0) cx dX0_wanting_76 (by decide) ?_
            refine g_goto (tgt := 81) cx dX0_wanting_77 (by decide) ?_
            exact g_iret cx gr (Nat.zero_le _) (Nat.zero_le _) dX0_wanting_81 ⟨by first | rfl | (simp only [sWant, cs_3, c_4, if_true, if_false]; done) | simp [sWant, cs_3, c_4], rfl⟩
        · refine ⟨_, 82, rfl, by decide, ?_⟩
          have cs_3 : k0 = 4 := Int32.toInt_inj.mp (cs_3.trans (by decide))
          refine g_iload_n cx dX0_wanting_82 1 rfl ?_
          refine g_iconst (v := 1) cx dX0_wanting_83 (by decide) ?_
          refine g_iadd cx dX0_wanting_84 ?_
          exact g_iret cx gr (Nat.zero_le _) (Nat.zero_le _) dX0_wanting_85 ⟨by first | rfl | (simp only [sWant, cs_3, if_true, if_false]; done) | simp [sWant, cs_3], rfl⟩
        · refine ⟨_, 86, rfl, by decide, ?_⟩
          have cs_3 : k0 = 5 := Int32.toInt_inj.mp (cs_3.trans (by decide))
          refine g_iconst (v := 2) cx dX0_wanting_86 (by decide) ?_
          refine g_iload cx dX0_wanting_87 0 rfl ?_
          refine g_imul cx dX0_wanting_89 ?_
          exact g_iret cx gr (Nat.zero_le _) (Nat.zero_le _) dX0_wanting_90 ⟨by first | rfl | (simp only [sWant, cs_3, if_true, if_false]; done) | simp [sWant, cs_3], rfl⟩
        · exact absurd hj (by omega)
      · have hsx := cs_3
        have cs_3_0 : ¬ k0 = 1 := sw_ne cs_3 (by decide)
        have cs_3_1 : ¬ k0 = 2 := sw_ne cs_3 (by decide)
        have cs_3_2 : ¬ k0 = 3 := sw_ne cs_3 (by decide)
        have cs_3_3 : ¬ k0 = 4 := sw_ne cs_3 (by decide)
        have cs_3_4 : ¬ k0 = 5 := sw_ne cs_3 (by decide)
        refine g_iload_n cx dX0_wanting_91 2 rfl ?_
        exact g_iret cx gr (Nat.zero_le _) (Nat.zero_le _) dX0_wanting_92 ⟨by first | rfl | (simp only [sWant, cs_3_0, cs_3_1, cs_3_2, cs_3_3, cs_3_4, if_true, if_false]; done) | simp [sWant, cs_3_0, cs_3_1, cs_3_2, cs_3_3, cs_3_4], rfl⟩
    refine g_icmp_ge (tgt := 24) cx dX0_wanting_17 (by decide) (fun c_5 => ?_) (fun c_5 => ?_)
    · refine g_iload_n cx dX0_wanting_24 1 rfl ?_
      exact g_top (show (1 : Int32) = graveW r0 from by simp only [graveW, c_5, if_true, if_false, ite_true, ite_false, not_true_eq_false, not_false_eq_true] <;> rfl) J25_1
    · refine g_iconst (v := 3) cx dX0_wanting_20 (by decide) ?_
      refine g_goto (tgt := 25) cx dX0_wanting_21 (by decide) ?_
      exact g_top (show (3 : Int32) = graveW r0 from by simp only [graveW, c_5, if_true, if_false, ite_true, ite_false, not_true_eq_false, not_false_eq_true] <;> rfl) J25_1
  refine g_icmp_le (tgt := 13) cx dX0_wanting_4 (by decide) (fun c_6 => ?_) (fun c_6 => ?_)
  · refine g_iload_n cx dX0_wanting_13 0 rfl ?_
    exact g_top (show (1 : Int32) = gayW r0 from by simp only [gayW, c_6, if_true, if_false, ite_true, ite_false, not_true_eq_false, not_false_eq_true] <;> rfl) J14_0
  · refine g_iload_n cx dX0_wanting_7 0 rfl ?_
    refine g_iconst (v := 1) cx dX0_wanting_8 (by decide) ?_
    refine g_iadd cx dX0_wanting_9 ?_
    refine g_goto (tgt := 14) cx dX0_wanting_10 (by decide) ?_
    exact g_top (show (1 + 1 : Int32) = gayW r0 from by simp only [gayW, c_6, if_true, if_false, ite_true, ite_false, not_true_eq_false, not_false_eq_true] <;> rfl) J14_0

abbrev rmX0_isOneOf : Room := { frames := 1, cells := 0, slots := 0, locals := 20 }
theorem hYX0_isOneOf : gY yX0_isOneOf wsX0_isOneOf cX0_isOneOf 4 (some .boolean) 2 := ⟨⟨_, rfl⟩, by decide +kernel, by decide +kernel, by decide +kernel⟩
set_option maxRecDepth 100000 in
set_option maxHeartbeats 4000000 in
theorem c_X0_isOneOf (l : Launch) (E : gE) (k0 : Int32) (w0 : Int32) : cti l yX0_isOneOf wsX0_isOneOf rmX0_isOneOf E [.int k0, .int w0] [] (fun r w => r = oneOf 6 k0 w0 ∧ w = []) := by
  refine mt_i (cc := cX0_isOneOf) (maxL := 4) (ret := some .boolean) (lv0 := [(0, .int k0), (1, .int w0)]) (by decide) rfl rfl (Nat.le_of_ble_eq_true rfl) (fun X cx gr hI => ?_)
  refine g_iload_n cx dX0_isOneOf_0 0 rfl ?_
  refine g_istore_n (lv' := [(2, .int k0), (0, .int k0), (1, .int w0)]) cx dX0_isOneOf_1 (by decide) rfl ?_
  refine g_iconst (v := 0) cx dX0_isOneOf_2 (by decide) ?_
  refine g_istore_n (lv' := [(3, .int 0), (2, .int k0), (0, .int k0), (1, .int w0)]) cx dX0_isOneOf_3 (by decide) rfl ?_
  have LP4 : ∀ (d : Nat) (i : Nat) (x : Int32) (k : Int32), i + d = 7 → i ≤ 6 → x = nI i → oneOf 6 k0 w0 = oneOf (6 - i) k w0 → gG X 0 0 [] 4 [(1, .int w0), (2, .int k), (3, .int x)] [] := by
    intro d
    induction d with
    | zero =>
      intro i x k hi hi6 hx hk
      omega
    | succ d ih =>
      intro i x k hi hi6 hx hk
      refine g_iload_n cx dX0_isOneOf_4 2 rfl ?_
      refine g_bipush (v := 6) cx dX0_isOneOf_5 (by decide) ?_
      refine g_icmp_ge (tgt := 33) cx dX0_isOneOf_7 (by decide) (fun c_1 => ?_) (fun c_1 => ?_)
      · refine g_iconst (v := 0) cx dX0_isOneOf_33 (by decide) ?_
        exact g_zret cx gr rfl (Nat.zero_le _) (Nat.zero_le _) dX0_isOneOf_34 ⟨by rw [hk, show 6 - i = 0 by have := ge_of 6 hx c_1 (by omega) (by decide); omega]; rfl, rfl⟩
      · refine g_iload_n cx dX0_isOneOf_10 1 rfl ?_
        refine g_iconst (v := (-1)) cx dX0_isOneOf_11 (by decide) ?_
        refine g_icmp_eq (tgt := 33) cx dX0_isOneOf_12 (by decide) (fun c_2 => ?_) (fun c_2 => ?_)
        · refine g_iconst (v := 0) cx dX0_isOneOf_33 (by decide) ?_
          exact g_zret cx gr rfl (Nat.zero_le _) (Nat.zero_le _) dX0_isOneOf_34 ⟨by rw [hk, show 6 - i = (6 - (i + 1)) + 1 by have := lt_of 6 hx c_1 (by omega) (by decide); omega, oneOf, if_pos c_2], rfl⟩
        · refine g_iload_n cx dX0_isOneOf_15 1 rfl ?_
          refine g_iload_n cx dX0_isOneOf_16 0 rfl ?_
          refine g_icmp_ne (tgt := 22) cx dX0_isOneOf_17 (by decide) (fun c_3 => ?_) (fun c_3 => ?_)
          · refine g_iload_n cx dX0_isOneOf_22 1 rfl ?_
            refine g_SPi (rest := []) (As := [.int k]) cx hYX0_above gX0_isOneOf_X0_above (c_X0_above l E k ) ⟨Nat.le_of_ble_eq_true rfl, Nat.le_of_ble_eq_true rfl⟩ rfl rfl (Nat.le_of_ble_eq_true rfl) ⟨Nat.le_of_ble_eq_true rfl, Nat.le_of_ble_eq_true rfl⟩ dX0_isOneOf_23 ?_
            refine g_istore_n (lv' := [(2, .int (sAbove k)), (1, .int w0), (3, .int x)]) cx dX0_isOneOf_26 (by decide) rfl ?_
            refine g_iinc (v := x + 1) (lv' := [(3, .int (x + 1)), (2, .int (sAbove k)), (1, .int w0)]) cx dX0_isOneOf_27 2 rfl rfl (by decide) rfl ?_
            refine g_goto (tgt := 4) cx dX0_isOneOf_30 (by decide) ?_
            exact g_lv [2, 1, 0] rfl (ih (i + 1) (x + 1) (sAbove k) (by omega) (by have := lt_of 6 hx c_1 (by omega) (by decide); omega) (by rw [hx]; exact nI_1 i) (by rw [hk, show 6 - i = (6 - (i + 1)) + 1 by have := lt_of 6 hx c_1 (by omega) (by decide); omega, oneOf, if_neg c_2, if_neg c_3]))
          · refine g_iconst (v := 1) cx dX0_isOneOf_20 (by decide) ?_
            exact g_zret cx gr rfl (Nat.zero_le _) (Nat.zero_le _) dX0_isOneOf_21 ⟨by rw [hk, show 6 - i = (6 - (i + 1)) + 1 by have := lt_of 6 hx c_1 (by omega) (by decide); omega, oneOf, if_neg c_2, if_pos c_3], rfl⟩
  exact g_lv [3, 1, 0] rfl (LP4 7 0 0 k0 (by omega) (by omega) rfl rfl)
