theorem sp_eta {p q : Int32 × Cor} (h : p = q) : p = (q.1, q.2) := h

theorem c_X6_fa1 (l : Launch) (E : gE) (a : Nat → Nat) (c : Cor) (h : Mar) (v0 : Int32) (hat : vp_in (tAt c.1) 8) : cti l yX6_firstAs wsX6_firstAs rmX6_firstAs E [.ref (a 0), .int 1, .int v0] (mW E a c h) (fun r w => ∃ h', r = (cF 1 v0 c).1 ∧ w = mW E a (cF 1 v0 c).2 h') := by
  have q := c_X6_firstAs l E a c h 1 v0 hat (by unfold vp_in; decide +kernel)
  rw [show (1 : Int32).toNatClampNeg = 1 from rfl] at q
  exact q

theorem c_X6_fa3 (l : Launch) (E : gE) (a : Nat → Nat) (c : Cor) (h : Mar) (v0 : Int32) (hat : vp_in (tAt c.1) 8) : cti l yX6_firstAs wsX6_firstAs rmX6_firstAs E [.ref (a 0), .int 3, .int v0] (mW E a c h) (fun r w => ∃ h', r = (cF 3 v0 c).1 ∧ w = mW E a (cF 3 v0 c).2 h') := by
  have q := c_X6_firstAs l E a c h 3 v0 hat (by unfold vp_in; decide +kernel)
  rw [show (3 : Int32).toNatClampNeg = 3 from rfl] at q
  exact q

theorem c_X6_fa4 (l : Launch) (E : gE) (a : Nat → Nat) (c : Cor) (h : Mar) (v0 : Int32) (hat : vp_in (tAt c.1) 8) : cti l yX6_firstAs wsX6_firstAs rmX6_firstAs E [.ref (a 0), .int 4, .int v0] (mW E a c h) (fun r w => ∃ h', r = (cF 4 v0 c).1 ∧ w = mW E a (cF 4 v0 c).2 h') := by
  have q := c_X6_firstAs l E a c h 4 v0 hat (by unfold vp_in; decide +kernel)
  rw [show (4 : Int32).toNatClampNeg = 4 from rfl] at q
  exact q

abbrev rmX6_empty : Room := { frames := 7, cells := 0, slots := 0, locals := 160 }
theorem hYX6_empty : gY yX6_empty wsX6_empty cX6_empty 1 (some .int) 0 := ⟨⟨_, rfl⟩, by decide +kernel, by decide +kernel, by decide +kernel⟩
set_option maxRecDepth 100000 in
set_option maxHeartbeats 4000000 in
theorem c_X6_empty (l : Launch) (E : gE) (a : Nat → Nat) (c : Cor) (h : Mar) (hok : cOk c) : cti l yX6_empty wsX6_empty rmX6_empty E [.ref (a 0)] (mW E a c h) (fun r w => ∃ h', r = (sp_empty c).1 ∧ w = mW E a (sp_empty c).2 h') := by
  refine mt_i (cc := cX6_empty) (maxL := 1) (ret := some .int) (lv0 := [(0, .ref (a 0))]) (by decide) rfl rfl (Nat.le_of_ble_eq_true rfl) (fun X cx gr hI => ?_)
  refine g_aload_n cx dX6_empty_0 0 rfl ?_
  refine g_iconst (v := 3) cx dX6_empty_1 (by decide) ?_
  refine g_iconst (v := 0) cx dX6_empty_2 (by decide) ?_
  refine g_VSi (rest := []) (As := [.int 3, .int 0]) cx hYX6_firstAs gX6_empty_X6_firstAs (c_X6_fa3 l E a c h 0 hok.1.1) rfl rfl rfl ⟨Nat.le_of_ble_eq_true rfl, Nat.le_of_ble_eq_true rfl⟩ rfl rfl (Nat.le_of_ble_eq_true rfl) ⟨Nat.le_of_ble_eq_true rfl, Nat.le_of_ble_eq_true rfl⟩ dX6_empty_3 (fun r w1 hp => ?_)
  obtain ⟨h1, rfl, rfl⟩ := hp
  exact g_iret cx gr (Nat.zero_le _) (Nat.zero_le _) dX6_empty_6 (mleaf (sp_eta (by rw [sp_empty])))

abbrev rmX6_comes : Room := { frames := 7, cells := 0, slots := 0, locals := 160 }
theorem hYX6_comes : gY yX6_comes wsX6_comes cX6_comes 2 (some .int) 1 := ⟨⟨_, rfl⟩, by decide +kernel, by decide +kernel, by decide +kernel⟩
theorem m1X6_comes_c45 : Cond.constant RX6 45 (-1000000001) ∈ wsX6_comes := by decide +kernel
set_option maxRecDepth 100000 in
set_option maxHeartbeats 4000000 in
theorem c_X6_comes (l : Launch) (E : gE) (a : Nat → Nat) (c : Cor) (h : Mar) (h0 : Int32) (hok : cOk c) : cti l yX6_comes wsX6_comes rmX6_comes E [.ref (a 0), .int h0] (mW E a c h) (fun r w => ∃ h', r = (sp_comes c h0).1 ∧ w = mW E a (sp_comes c h0).2 h') := by
  refine mt_i (cc := cX6_comes) (maxL := 2) (ret := some .int) (lv0 := [(0, .ref (a 0)), (1, .int h0)]) (by decide) rfl rfl (Nat.le_of_ble_eq_true rfl) (fun X cx gr hI => ?_)
  refine g_iload_n cx dX6_comes_0 1 rfl ?_
  refine g_SPi (rest := []) (As := [.int h0]) cx hYX6_isHouse gX6_comes_X6_isHouse (c_X6_isHouse l E h0 ) ⟨Nat.le_of_ble_eq_true rfl, Nat.le_of_ble_eq_true rfl⟩ rfl rfl (Nat.le_of_ble_eq_true rfl) ⟨Nat.le_of_ble_eq_true rfl, Nat.le_of_ble_eq_true rfl⟩ dX6_comes_1 ?_
  refine g_if_eq (tgt := 16) cx dX6_comes_4 (by decide) (fun c_1 => ?_) (fun c_1 => ?_)
  · refine g_aload_n cx dX6_comes_16 0 rfl ?_
    refine g_ldc cx m1X6_comes_c45 dX6_comes_17 ?_
    refine g_VSi (rest := []) (As := [.int (-1000000001)]) cx hYX6_finds gX6_comes_X6_finds (c_X6_finds l E a c h (-1000000001) (by unfold vp_in; decide +kernel)) rfl rfl rfl ⟨Nat.le_of_ble_eq_true rfl, Nat.le_of_ble_eq_true rfl⟩ rfl rfl (Nat.le_of_ble_eq_true rfl) ⟨Nat.le_of_ble_eq_true rfl, Nat.le_of_ble_eq_true rfl⟩ dX6_comes_19 (fun r w1 hp => ?_)
    obtain ⟨rfl, rfl⟩ := hp
    exact g_iret cx gr (Nat.zero_le _) (Nat.zero_le _) dX6_comes_22 (mleaf (by first | (simp only [sp_comes, tKind, tMood, tPen, tAte, tHour, tTray, tAt, tRang, tCrack, tTak, tWay, cB, c_1, if_true, if_false]; done) | (simp only [sp_comes, tKind, tMood, tPen, tAte, tHour, tTray, tAt, tRang, tCrack, tTak, tWay, cB, c_1, if_true, if_false] <;> rfl) | (simp [sp_comes, tKind, tMood, tPen, tAte, tHour, tTray, tAt, tRang, tCrack, tTak, tWay, cB, c_1] <;> rfl)))
  · refine g_aload_n cx dX6_comes_7 0 rfl ?_
    refine g_iconst (v := 1) cx dX6_comes_8 (by decide) ?_
    refine g_iload_n cx dX6_comes_9 1 rfl ?_
    refine g_VSi (rest := []) (As := [.int 1, .int h0]) cx hYX6_firstAs gX6_comes_X6_firstAs (c_X6_fa1 l E a c h h0 hok.1.1) rfl rfl rfl ⟨Nat.le_of_ble_eq_true rfl, Nat.le_of_ble_eq_true rfl⟩ rfl rfl (Nat.le_of_ble_eq_true rfl) ⟨Nat.le_of_ble_eq_true rfl, Nat.le_of_ble_eq_true rfl⟩ dX6_comes_10 (fun r w1 hp => ?_)
    obtain ⟨h1, rfl, rfl⟩ := hp
    refine g_goto (tgt := 22) cx dX6_comes_13 (by decide) ?_
    exact g_iret cx gr (Nat.zero_le _) (Nat.zero_le _) dX6_comes_22 (mleaf (sp_eta (by rw [sp_comes, if_neg c_1])))

abbrev rmX6_when : Room := { frames := 7, cells := 0, slots := 0, locals := 160 }
theorem hYX6_when : gY yX6_when wsX6_when cX6_when 2 (some .int) 1 := ⟨⟨_, rfl⟩, by decide +kernel, by decide +kernel, by decide +kernel⟩
theorem m1X6_when_c45 : Cond.constant RX6 45 (-1000000001) ∈ wsX6_when := by decide +kernel
set_option maxRecDepth 100000 in
set_option maxHeartbeats 4000000 in
theorem c_X6_when (l : Launch) (E : gE) (a : Nat → Nat) (c : Cor) (h : Mar) (t0 : Int32) (hok : cOk c) : cti l yX6_when wsX6_when rmX6_when E [.ref (a 0), .int t0] (mW E a c h) (fun r w => ∃ h', r = (sp_when c t0).1 ∧ w = mW E a (sp_when c t0).2 h') := by
  refine mt_i (cc := cX6_when) (maxL := 2) (ret := some .int) (lv0 := [(0, .ref (a 0)), (1, .int t0)]) (by decide) rfl rfl (Nat.le_of_ble_eq_true rfl) (fun X cx gr hI => ?_)
  refine g_iload_n cx dX6_when_0 1 rfl ?_
  refine g_SPi (rest := []) (As := [.int t0]) cx hYX6_isTone gX6_when_X6_isTone (c_X6_isTone l E t0 ) ⟨Nat.le_of_ble_eq_true rfl, Nat.le_of_ble_eq_true rfl⟩ rfl rfl (Nat.le_of_ble_eq_true rfl) ⟨Nat.le_of_ble_eq_true rfl, Nat.le_of_ble_eq_true rfl⟩ dX6_when_1 ?_
  refine g_if_eq (tgt := 16) cx dX6_when_4 (by decide) (fun c_1 => ?_) (fun c_1 => ?_)
  · refine g_aload_n cx dX6_when_16 0 rfl ?_
    refine g_ldc cx m1X6_when_c45 dX6_when_17 ?_
    refine g_VSi (rest := []) (As := [.int (-1000000001)]) cx hYX6_finds gX6_when_X6_finds (c_X6_finds l E a c h (-1000000001) (by unfold vp_in; decide +kernel)) rfl rfl rfl ⟨Nat.le_of_ble_eq_true rfl, Nat.le_of_ble_eq_true rfl⟩ rfl rfl (Nat.le_of_ble_eq_true rfl) ⟨Nat.le_of_ble_eq_true rfl, Nat.le_of_ble_eq_true rfl⟩ dX6_when_19 (fun r w1 hp => ?_)
    obtain ⟨rfl, rfl⟩ := hp
    exact g_iret cx gr (Nat.zero_le _) (Nat.zero_le _) dX6_when_22 (mleaf (by first | (simp only [sp_when, tKind, tMood, tPen, tAte, tHour, tTray, tAt, tRang, tCrack, tTak, tWay, cB, c_1, if_true, if_false]; done) | (simp only [sp_when, tKind, tMood, tPen, tAte, tHour, tTray, tAt, tRang, tCrack, tTak, tWay, cB, c_1, if_true, if_false] <;> rfl) | (simp [sp_when, tKind, tMood, tPen, tAte, tHour, tTray, tAt, tRang, tCrack, tTak, tWay, cB, c_1] <;> rfl)))
  · refine g_aload_n cx dX6_when_7 0 rfl ?_
    refine g_iconst (v := 4) cx dX6_when_8 (by decide) ?_
    refine g_iload_n cx dX6_when_9 1 rfl ?_
    refine g_VSi (rest := []) (As := [.int 4, .int t0]) cx hYX6_firstAs gX6_when_X6_firstAs (c_X6_fa4 l E a c h t0 hok.1.1) rfl rfl rfl ⟨Nat.le_of_ble_eq_true rfl, Nat.le_of_ble_eq_true rfl⟩ rfl rfl (Nat.le_of_ble_eq_true rfl) ⟨Nat.le_of_ble_eq_true rfl, Nat.le_of_ble_eq_true rfl⟩ dX6_when_10 (fun r w1 hp => ?_)
    obtain ⟨h1, rfl, rfl⟩ := hp
    refine g_goto (tgt := 22) cx dX6_when_13 (by decide) ?_
    exact g_iret cx gr (Nat.zero_le _) (Nat.zero_le _) dX6_when_22 (mleaf (sp_eta (by rw [sp_when, if_neg c_1])))
