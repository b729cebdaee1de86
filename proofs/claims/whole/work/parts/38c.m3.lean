theorem mb_at1 (t : Ter) (v : Int32) : tAt (tPut t 1 v) = v := by rw [put_1]
theorem mb_beg (t : Ter) (N : Nat) : mbV t 1 6 N = fun v => tTak (goHs N (tPut t 1 (nI v))) := funext (fun v => by rw [mbV, if_pos (by decide)]; rfl)
theorem mb_way (t : Ter) (N : Nat) : mbV t 2 (-1) N = fun v => sumN (tMood (goHs N (tPut t 2 (nI v)))) 8 := funext (fun v => by rw [mbV, if_neg (by decide)]; rfl)
theorem mb_mood (t : Ter) (h : Int32) (N : Nat) : mbV t (spot h 1) 6 N = fun v => tTak (goHs N (tPut t (spot h 1).toNatClampNeg (nI v))) := funext (fun v => by rw [mbV, if_pos (by decide)]; rfl)
theorem spot_pos {h : Int32} (hh : vp_in h 8) : 0 ≤ spot h 3 := by
  obtain ⟨j, hj, rfl⟩ := vp_in_of hh (by decide)
  rw [show (3 : Int32) = nI 3 from rfl, spot_nI]
  exact nI_pos' (by omega)
theorem mb_kind (t : Ter) {h : Int32} (hh : vp_in h 8) (N : Nat) : mbV t (spot h 0) (spot h 3) N = fun v => tAte (goHs N (tPut t (spot h 0).toNatClampNeg (nI v))) h.toNatClampNeg := funext (fun v => by rw [mbV, if_pos (spot_pos hh), sp_A hh])

abbrev rmX6_begin : Room := { frames := 9, cells := 0, slots := 0, locals := 209 }
theorem hYX6_begin : gY yX6_begin wsX6_begin cX6_begin 2 (some .int) 1 := ⟨⟨_, rfl⟩, by decide +kernel, by decide +kernel, by decide +kernel⟩
theorem m1X6_begin_c45 : Cond.constant RX6 45 (-1000000001) ∈ wsX6_begin := by decide +kernel
set_option maxRecDepth 100000 in
set_option maxHeartbeats 4000000 in
theorem c_X6_begin (l : Launch) (E : gE) (a : Nat → Nat) (c : Cor) (h : Mar) (n0 : Int32) (hok : cOk c) : cti l yX6_begin wsX6_begin rmX6_begin E [.ref (a 0), .int n0] (mW E a c h) (fun r w => ∃ h', r = (sp_begin c n0).1 ∧ w = mW E a (sp_begin c n0).2 h') := by
  refine mt_i (cc := cX6_begin) (maxL := 2) (ret := some .int) (lv0 := [(0, .ref (a 0)), (1, .int n0)]) (by decide) rfl rfl (Nat.le_of_ble_eq_true rfl) (fun X cx gr hI => ?_)
  refine g_iload_n cx dX6_begin_0 1 rfl ?_
  refine g_SPi (rest := []) (As := [.int n0]) cx hYX6_isSoon gX6_begin_X6_isSoon (c_X6_isSoon l E n0 ) ⟨Nat.le_of_ble_eq_true rfl, Nat.le_of_ble_eq_true rfl⟩ rfl rfl (Nat.le_of_ble_eq_true rfl) ⟨Nat.le_of_ble_eq_true rfl, Nat.le_of_ble_eq_true rfl⟩ dX6_begin_1 ?_
  refine g_if_eq (tgt := 20) cx dX6_begin_4 (by decide) (fun c_1 => ?_) (fun c_1 => ?_)
  · refine g_aload_n cx dX6_begin_20 0 rfl ?_
    refine g_ldc cx m1X6_begin_c45 dX6_begin_21 ?_
    refine g_VSi (rest := []) (As := [.int (-1000000001)]) cx hYX6_finds gX6_begin_X6_finds (c_X6_finds l E a c h (-1000000001) (by unfold vp_in; decide +kernel)) rfl rfl rfl ⟨Nat.le_of_ble_eq_true rfl, Nat.le_of_ble_eq_true rfl⟩ rfl rfl (Nat.le_of_ble_eq_true rfl) ⟨Nat.le_of_ble_eq_true rfl, Nat.le_of_ble_eq_true rfl⟩ dX6_begin_23 (fun r w1 hp => ?_)
    obtain ⟨rfl, rfl⟩ := hp
    exact g_iret cx gr (Nat.zero_le _) (Nat.zero_le _) dX6_begin_26 (mleaf (by first | (simp only [sp_begin, tKind, tMood, tPen, tAte, tHour, tTray, tAt, tRang, tCrack, tTak, tWay, cB, c_1, if_true, if_false]; done) | (simp only [sp_begin, tKind, tMood, tPen, tAte, tHour, tTray, tAt, tRang, tCrack, tTak, tWay, cB, c_1, if_true, if_false] <;> rfl) | (simp [sp_begin, tKind, tMood, tPen, tAte, tHour, tTray, tAt, tRang, tCrack, tTak, tWay, cB, c_1] <;> rfl)))
  · obtain ⟨N, hN1, hN, rfl⟩ := isW_nI1 60 c_1 (by decide)
    have hNc : (nI N).toNatClampNeg = N := nI_clamp (by omega)
    refine g_aload_n cx dX6_begin_7 0 rfl ?_
    refine g_iconst (v := 1) cx dX6_begin_8 (by decide) ?_
    refine g_bipush (v := 7) cx dX6_begin_9 (by decide) ?_
    refine g_bipush (v := 6) cx dX6_begin_11 (by decide) ?_
    refine g_iload_n cx dX6_begin_13 1 rfl ?_
    refine g_VSi (rest := []) (As := [.int 1, .int 7, .int 6, .int (nI N)]) cx hYX6_mostBy gX6_begin_X6_mostBy (c_X6_mostBy l E a c h 1 7 6 N (fun v hv => by rw [show (1 : Int32).toNatClampNeg = 1 from rfl, mb_at1]; exact vp_in_nI (by omega) (by decide)) (by unfold vp_in; decide +kernel) (by decide) (by omega) (fun _ => (by unfold vp_in; decide +kernel)) 8 rfl) rfl rfl rfl ⟨Nat.le_of_ble_eq_true rfl, Nat.le_of_ble_eq_true rfl⟩ rfl rfl (Nat.le_of_ble_eq_true rfl) ⟨Nat.le_of_ble_eq_true rfl, Nat.le_of_ble_eq_true rfl⟩ dX6_begin_14 (fun r w1 hp => ?_)
    obtain ⟨h1, hr, rfl⟩ := hp
    rw [hr]
    refine g_goto (tgt := 26) cx dX6_begin_17 (by decide) ?_
    exact g_iret cx gr (Nat.zero_le _) (Nat.zero_le _) dX6_begin_26 (mleaf (by rw [sp_begin, if_neg c_1, hNc]; exact congrArg (fun F => ((bst F 8).1, c)) (mb_beg c.1 N).symm))

abbrev rmX6_way : Room := { frames := 9, cells := 0, slots := 0, locals := 209 }
theorem hYX6_way : gY yX6_way wsX6_way cX6_way 2 (some .int) 1 := ⟨⟨_, rfl⟩, by decide +kernel, by decide +kernel, by decide +kernel⟩
theorem m1X6_way_c45 : Cond.constant RX6 45 (-1000000001) ∈ wsX6_way := by decide +kernel
set_option maxRecDepth 100000 in
set_option maxHeartbeats 4000000 in
theorem c_X6_way (l : Launch) (E : gE) (a : Nat → Nat) (c : Cor) (h : Mar) (n0 : Int32) (hok : cOk c) : cti l yX6_way wsX6_way rmX6_way E [.ref (a 0), .int n0] (mW E a c h) (fun r w => ∃ h', r = (sp_way c n0).1 ∧ w = mW E a (sp_way c n0).2 h') := by
  refine mt_i (cc := cX6_way) (maxL := 2) (ret := some .int) (lv0 := [(0, .ref (a 0)), (1, .int n0)]) (by decide) rfl rfl (Nat.le_of_ble_eq_true rfl) (fun X cx gr hI => ?_)
  refine g_iload_n cx dX6_way_0 1 rfl ?_
  refine g_SPi (rest := []) (As := [.int n0]) cx hYX6_isSoon gX6_way_X6_isSoon (c_X6_isSoon l E n0 ) ⟨Nat.le_of_ble_eq_true rfl, Nat.le_of_ble_eq_true rfl⟩ rfl rfl (Nat.le_of_ble_eq_true rfl) ⟨Nat.le_of_ble_eq_true rfl, Nat.le_of_ble_eq_true rfl⟩ dX6_way_1 ?_
  refine g_if_eq (tgt := 18) cx dX6_way_4 (by decide) (fun c_1 => ?_) (fun c_1 => ?_)
  · refine g_aload_n cx dX6_way_18 0 rfl ?_
    refine g_ldc cx m1X6_way_c45 dX6_way_19 ?_
    refine g_VSi (rest := []) (As := [.int (-1000000001)]) cx hYX6_finds gX6_way_X6_finds (c_X6_finds l E a c h (-1000000001) (by unfold vp_in; decide +kernel)) rfl rfl rfl ⟨Nat.le_of_ble_eq_true rfl, Nat.le_of_ble_eq_true rfl⟩ rfl rfl (Nat.le_of_ble_eq_true rfl) ⟨Nat.le_of_ble_eq_true rfl, Nat.le_of_ble_eq_true rfl⟩ dX6_way_21 (fun r w1 hp => ?_)
    obtain ⟨rfl, rfl⟩ := hp
    exact g_iret cx gr (Nat.zero_le _) (Nat.zero_le _) dX6_way_24 (mleaf (by first | (simp only [sp_way, tKind, tMood, tPen, tAte, tHour, tTray, tAt, tRang, tCrack, tTak, tWay, cB, c_1, if_true, if_false]; done) | (simp only [sp_way, tKind, tMood, tPen, tAte, tHour, tTray, tAt, tRang, tCrack, tTak, tWay, cB, c_1, if_true, if_false] <;> rfl) | (simp [sp_way, tKind, tMood, tPen, tAte, tHour, tTray, tAt, tRang, tCrack, tTak, tWay, cB, c_1] <;> rfl)))
  · obtain ⟨N, hN1, hN, rfl⟩ := isW_nI1 60 c_1 (by decide)
    have hNc : (nI N).toNatClampNeg = N := nI_clamp (by omega)
    refine g_aload_n cx dX6_way_7 0 rfl ?_
    refine g_iconst (v := 2) cx dX6_way_8 (by decide) ?_
    refine g_iconst (v := 1) cx dX6_way_9 (by decide) ?_
    refine g_iconst (v := (-1)) cx dX6_way_10 (by decide) ?_
    refine g_iload_n cx dX6_way_11 1 rfl ?_
    refine g_VSi (rest := []) (As := [.int 2, .int 1, .int (-1), .int (nI N)]) cx hYX6_mostBy gX6_way_X6_mostBy (c_X6_mostBy l E a c h 2 1 (-1) N (fun v hv => by rw [show (2 : Int32).toNatClampNeg = 2 from rfl, put_2]; exact hok.1.1) (by unfold vp_in; decide +kernel) (by decide) (by omega) (fun q => absurd q (by decide)) 2 rfl) rfl rfl rfl ⟨Nat.le_of_ble_eq_true rfl, Nat.le_of_ble_eq_true rfl⟩ rfl rfl (Nat.le_of_ble_eq_true rfl) ⟨Nat.le_of_ble_eq_true rfl, Nat.le_of_ble_eq_true rfl⟩ dX6_way_12 (fun r w1 hp => ?_)
    obtain ⟨h1, hr, rfl⟩ := hp
    rw [hr]
    refine g_goto (tgt := 24) cx dX6_way_15 (by decide) ?_
    exact g_iret cx gr (Nat.zero_le _) (Nat.zero_le _) dX6_way_24 (mleaf (by rw [sp_way, if_neg c_1, hNc]; exact congrArg (fun F => ((bst F 2).1, c)) (mb_way c.1 N).symm))

abbrev rmX6_mood : Room := { frames := 9, cells := 0, slots := 0, locals := 209 }
theorem hYX6_mood : gY yX6_mood wsX6_mood cX6_mood 3 (some .int) 2 := ⟨⟨_, rfl⟩, by decide +kernel, by decide +kernel, by decide +kernel⟩
theorem m1X6_mood_c45 : Cond.constant RX6 45 (-1000000001) ∈ wsX6_mood := by decide +kernel
set_option maxRecDepth 100000 in
set_option maxHeartbeats 4000000 in
theorem c_X6_mood (l : Launch) (E : gE) (a : Nat → Nat) (c : Cor) (h : Mar) (h0 : Int32) (n0 : Int32) (hok : cOk c) : cti l yX6_mood wsX6_mood rmX6_mood E [.ref (a 0), .int h0, .int n0] (mW E a c h) (fun r w => ∃ h', r = (sp_mood c h0 n0).1 ∧ w = mW E a (sp_mood c h0 n0).2 h') := by
  refine mt_i (cc := cX6_mood) (maxL := 3) (ret := some .int) (lv0 := [(0, .ref (a 0)), (1, .int h0), (2, .int n0)]) (by decide) rfl rfl (Nat.le_of_ble_eq_true rfl) (fun X cx gr hI => ?_)
  refine g_iload_n cx dX6_mood_0 1 rfl ?_
  refine g_SPi (rest := []) (As := [.int h0]) cx hYX6_isHouse gX6_mood_X6_isHouse (c_X6_isHouse l E h0 ) ⟨Nat.le_of_ble_eq_true rfl, Nat.le_of_ble_eq_true rfl⟩ rfl rfl (Nat.le_of_ble_eq_true rfl) ⟨Nat.le_of_ble_eq_true rfl, Nat.le_of_ble_eq_true rfl⟩ dX6_mood_1 ?_
  refine g_if_eq (tgt := 31) cx dX6_mood_4 (by decide) (fun c_1 => ?_) (fun c_1 => ?_)
  · refine g_aload_n cx dX6_mood_31 0 rfl ?_
    refine g_ldc cx m1X6_mood_c45 dX6_mood_32 ?_
    refine g_VSi (rest := []) (As := [.int (-1000000001)]) cx hYX6_finds gX6_mood_X6_finds (c_X6_finds l E a c h (-1000000001) (by unfold vp_in; decide +kernel)) rfl rfl rfl ⟨Nat.le_of_ble_eq_true rfl, Nat.le_of_ble_eq_true rfl⟩ rfl rfl (Nat.le_of_ble_eq_true rfl) ⟨Nat.le_of_ble_eq_true rfl, Nat.le_of_ble_eq_true rfl⟩ dX6_mood_34 (fun r w1 hp => ?_)
    obtain ⟨rfl, rfl⟩ := hp
    exact g_iret cx gr (Nat.zero_le _) (Nat.zero_le _) dX6_mood_37 (mleaf (by first | (simp only [sp_mood, tKind, tMood, tPen, tAte, tHour, tTray, tAt, tRang, tCrack, tTak, tWay, cB, c_1, if_true, if_false]; done) | (simp only [sp_mood, tKind, tMood, tPen, tAte, tHour, tTray, tAt, tRang, tCrack, tTak, tWay, cB, c_1, if_true, if_false] <;> rfl) | (simp [sp_mood, tKind, tMood, tPen, tAte, tHour, tTray, tAt, tRang, tCrack, tTak, tWay, cB, c_1] <;> rfl)))
  · refine g_iload_n cx dX6_mood_7 2 rfl ?_
    refine g_SPi (rest := []) (As := [.int n0]) cx hYX6_isSoon gX6_mood_X6_isSoon (c_X6_isSoon l E n0 ) ⟨Nat.le_of_ble_eq_true rfl, Nat.le_of_ble_eq_true rfl⟩ rfl rfl (Nat.le_of_ble_eq_true rfl) ⟨Nat.le_of_ble_eq_true rfl, Nat.le_of_ble_eq_true rfl⟩ dX6_mood_8 ?_
    refine g_if_eq (tgt := 31) cx dX6_mood_11 (by decide) (fun c_2 => ?_) (fun c_2 => ?_)
    · refine g_aload_n cx dX6_mood_31 0 rfl ?_
      refine g_ldc cx m1X6_mood_c45 dX6_mood_32 ?_
      refine g_VSi (rest := []) (As := [.int (-1000000001)]) cx hYX6_finds gX6_mood_X6_finds (c_X6_finds l E a c h (-1000000001) (by unfold vp_in; decide +kernel)) rfl rfl rfl ⟨Nat.le_of_ble_eq_true rfl, Nat.le_of_ble_eq_true rfl⟩ rfl rfl (Nat.le_of_ble_eq_true rfl) ⟨Nat.le_of_ble_eq_true rfl, Nat.le_of_ble_eq_true rfl⟩ dX6_mood_34 (fun r w1 hp => ?_)
      obtain ⟨rfl, rfl⟩ := hp
      exact g_iret cx gr (Nat.zero_le _) (Nat.zero_le _) dX6_mood_37 (mleaf (by first | (simp only [sp_mood, tKind, tMood, tPen, tAte, tHour, tTray, tAt, tRang, tCrack, tTak, tWay, cB, c_1, c_2, if_true, if_false]; done) | (simp only [sp_mood, tKind, tMood, tPen, tAte, tHour, tTray, tAt, tRang, tCrack, tTak, tWay, cB, c_1, c_2, if_true, if_false] <;> rfl) | (simp [sp_mood, tKind, tMood, tPen, tAte, tHour, tTray, tAt, tRang, tCrack, tTak, tWay, cB, c_1, c_2] <;> rfl)))
    · obtain ⟨N, hN1, hN, rfl⟩ := isW_nI1 60 c_2 (by decide)
      have hNc : (nI N).toNatClampNeg = N := nI_clamp (by omega)
      refine g_aload_n cx dX6_mood_14 0 rfl ?_
      refine g_iload_n cx dX6_mood_15 1 rfl ?_
      refine g_iconst (v := 1) cx dX6_mood_16 (by decide) ?_
      refine g_SPi (rest := [.ref (a 0)]) (As := [.int h0, .int 1]) cx hYX6_spotOf gX6_mood_X6_spotOf (c_X6_spotOf l E h0 1 ) ⟨Nat.le_of_ble_eq_true rfl, Nat.le_of_ble_eq_true rfl⟩ rfl rfl (Nat.le_of_ble_eq_true rfl) ⟨Nat.le_of_ble_eq_true rfl, Nat.le_of_ble_eq_true rfl⟩ dX6_mood_17 ?_
      refine g_bipush (v := 20) cx dX6_mood_20 (by decide) ?_
      refine g_bipush (v := 6) cx dX6_mood_22 (by decide) ?_
      refine g_iload_n cx dX6_mood_24 2 rfl ?_
      refine g_VSi (rest := []) (As := [.int (spot h0 1), .int 20, .int 6, .int (nI N)]) cx hYX6_mostBy gX6_mood_X6_mostBy (c_X6_mostBy l E a c h (spot h0 1) 20 6 N (fun v hv => by rw [tput_M (isW_vp 7 c_1 (by decide))]; exact hok.1.1) (si_M (isW_vp 7 c_1 (by decide))) (by decide) (by omega) (fun _ => (by unfold vp_in; decide +kernel)) 21 rfl) rfl rfl rfl ⟨Nat.le_of_ble_eq_true rfl, Nat.le_of_ble_eq_true rfl⟩ rfl rfl (Nat.le_of_ble_eq_true rfl) ⟨Nat.le_of_ble_eq_true rfl, Nat.le_of_ble_eq_true rfl⟩ dX6_mood_25 (fun r w1 hp => ?_)
      obtain ⟨h1, hr, rfl⟩ := hp
      rw [hr]
      refine g_goto (tgt := 37) cx dX6_mood_28 (by decide) ?_
      exact g_iret cx gr (Nat.zero_le _) (Nat.zero_le _) dX6_mood_37 (mleaf (by rw [sp_mood, if_neg c_1, if_neg c_2, hNc]; exact congrArg (fun F => ((bst F 21).1, c)) (mb_mood c.1 h0 N).symm))

abbrev rmX6_kind : Room := { frames := 9, cells := 0, slots := 0, locals := 209 }
theorem hYX6_kind : gY yX6_kind wsX6_kind cX6_kind 3 (some .int) 2 := ⟨⟨_, rfl⟩, by decide +kernel, by decide +kernel, by decide +kernel⟩
theorem m1X6_kind_c45 : Cond.constant RX6 45 (-1000000001) ∈ wsX6_kind := by decide +kernel
set_option maxRecDepth 100000 in
set_option maxHeartbeats 4000000 in
theorem c_X6_kind (l : Launch) (E : gE) (a : Nat → Nat) (c : Cor) (h : Mar) (h0 : Int32) (n0 : Int32) (hok : cOk c) : cti l yX6_kind wsX6_kind rmX6_kind E [.ref (a 0), .int h0, .int n0] (mW E a c h) (fun r w => ∃ h', r = (sp_kind c h0 n0).1 ∧ w = mW E a (sp_kind c h0 n0).2 h') := by
  refine mt_i (cc := cX6_kind) (maxL := 3) (ret := some .int) (lv0 := [(0, .ref (a 0)), (1, .int h0), (2, .int n0)]) (by decide) rfl rfl (Nat.le_of_ble_eq_true rfl) (fun X cx gr hI => ?_)
  refine g_iload_n cx dX6_kind_0 1 rfl ?_
  refine g_SPi (rest := []) (As := [.int h0]) cx hYX6_isHouse gX6_kind_X6_isHouse (c_X6_isHouse l E h0 ) ⟨Nat.le_of_ble_eq_true rfl, Nat.le_of_ble_eq_true rfl⟩ rfl rfl (Nat.le_of_ble_eq_true rfl) ⟨Nat.le_of_ble_eq_true rfl, Nat.le_of_ble_eq_true rfl⟩ dX6_kind_1 ?_
  refine g_if_eq (tgt := 33) cx dX6_kind_4 (by decide) (fun c_1 => ?_) (fun c_1 => ?_)
  · refine g_aload_n cx dX6_kind_33 0 rfl ?_
    refine g_ldc cx m1X6_kind_c45 dX6_kind_34 ?_
    refine g_VSi (rest := []) (As := [.int (-1000000001)]) cx hYX6_finds gX6_kind_X6_finds (c_X6_finds l E a c h (-1000000001) (by unfold vp_in; decide +kernel)) rfl rfl rfl ⟨Nat.le_of_ble_eq_true rfl, Nat.le_of_ble_eq_true rfl⟩ rfl rfl (Nat.le_of_ble_eq_true rfl) ⟨Nat.le_of_ble_eq_true rfl, Nat.le_of_ble_eq_true rfl⟩ dX6_kind_36 (fun r w1 hp => ?_)
    obtain ⟨rfl, rfl⟩ := hp
    exact g_iret cx gr (Nat.zero_le _) (Nat.zero_le _) dX6_kind_39 (mleaf (by first | (simp only [sp_kind, tKind, tMood, tPen, tAte, tHour, tTray, tAt, tRang, tCrack, tTak, tWay, cB, c_1, if_true, if_false]; done) | (simp only [sp_kind, tKind, tMood, tPen, tAte, tHour, tTray, tAt, tRang, tCrack, tTak, tWay, cB, c_1, if_true, if_false] <;> rfl) | (simp [sp_kind, tKind, tMood, tPen, tAte, tHour, tTray, tAt, tRang, tCrack, tTak, tWay, cB, c_1] <;> rfl)))
  · refine g_iload_n cx dX6_kind_7 2 rfl ?_
    refine g_SPi (rest := []) (As := [.int n0]) cx hYX6_isSoon gX6_kind_X6_isSoon (c_X6_isSoon l E n0 ) ⟨Nat.le_of_ble_eq_true rfl, Nat.le_of_ble_eq_true rfl⟩ rfl rfl (Nat.le_of_ble_eq_true rfl) ⟨Nat.le_of_ble_eq_true rfl, Nat.le_of_ble_eq_true rfl⟩ dX6_kind_8 ?_
    refine g_if_eq (tgt := 33) cx dX6_kind_11 (by decide) (fun c_2 => ?_) (fun c_2 => ?_)
    · refine g_aload_n cx dX6_kind_33 0 rfl ?_
      refine g_ldc cx m1X6_kind_c45 dX6_kind_34 ?_
      refine g_VSi (rest := []) (As := [.int (-1000000001)]) cx hYX6_finds gX6_kind_X6_finds (c_X6_finds l E a c h (-1000000001) (by unfold vp_in; decide +kernel)) rfl rfl rfl ⟨Nat.le_of_ble_eq_true rfl, Nat.le_of_ble_eq_true rfl⟩ rfl rfl (Nat.le_of_ble_eq_true rfl) ⟨Nat.le_of_ble_eq_true rfl, Nat.le_of_ble_eq_true rfl⟩ dX6_kind_36 (fun r w1 hp => ?_)
      obtain ⟨rfl, rfl⟩ := hp
      exact g_iret cx gr (Nat.zero_le _) (Nat.zero_le _) dX6_kind_39 (mleaf (by first | (simp only [sp_kind, tKind, tMood, tPen, tAte, tHour, tTray, tAt, tRang, tCrack, tTak, tWay, cB, c_1, c_2, if_true, if_false]; done) | (simp only [sp_kind, tKind, tMood, tPen, tAte, tHour, tTray, tAt, tRang, tCrack, tTak, tWay, cB, c_1, c_2, if_true, if_false] <;> rfl) | (simp [sp_kind, tKind, tMood, tPen, tAte, tHour, tTray, tAt, tRang, tCrack, tTak, tWay, cB, c_1, c_2] <;> rfl)))
    · obtain ⟨N, hN1, hN, rfl⟩ := isW_nI1 60 c_2 (by decide)
      have hNc : (nI N).toNatClampNeg = N := nI_clamp (by omega)
      refine g_aload_n cx dX6_kind_14 0 rfl ?_
      refine g_iload_n cx dX6_kind_15 1 rfl ?_
      refine g_iconst (v := 0) cx dX6_kind_16 (by decide) ?_
      refine g_SPi (rest := [.ref (a 0)]) (As := [.int h0, .int 0]) cx hYX6_spotOf gX6_kind_X6_spotOf (c_X6_spotOf l E h0 0 ) ⟨Nat.le_of_ble_eq_true rfl, Nat.le_of_ble_eq_true rfl⟩ rfl rfl (Nat.le_of_ble_eq_true rfl) ⟨Nat.le_of_ble_eq_true rfl, Nat.le_of_ble_eq_true rfl⟩ dX6_kind_17 ?_
      refine g_iconst (v := 5) cx dX6_kind_20 (by decide) ?_
      refine g_iload_n cx dX6_kind_21 1 rfl ?_
      refine g_iconst (v := 3) cx dX6_kind_22 (by decide) ?_
      refine g_SPi (rest := [.int 5, .int (spot h0 0), .ref (a 0)]) (As := [.int h0, .int 3]) cx hYX6_spotOf gX6_kind_X6_spotOf (c_X6_spotOf l E h0 3 ) ⟨Nat.le_of_ble_eq_true rfl, Nat.le_of_ble_eq_true rfl⟩ rfl rfl (Nat.le_of_ble_eq_true rfl) ⟨Nat.le_of_ble_eq_true rfl, Nat.le_of_ble_eq_true rfl⟩ dX6_kind_23 ?_
      refine g_iload_n cx dX6_kind_26 2 rfl ?_
      refine g_VSi (rest := []) (As := [.int (spot h0 0), .int 5, .int (spot h0 3), .int (nI N)]) cx hYX6_mostBy gX6_kind_X6_mostBy (c_X6_mostBy l E a c h (spot h0 0) 5 (spot h0 3) N (fun v hv => by rw [tput_K (isW_vp 7 c_1 (by decide))]; exact hok.1.1) (si_K (isW_vp 7 c_1 (by decide))) (by decide) (by omega) (fun _ => si_A (isW_vp 7 c_1 (by decide))) 6 rfl) rfl rfl rfl ⟨Nat.le_of_ble_eq_true rfl, Nat.le_of_ble_eq_true rfl⟩ rfl rfl (Nat.le_of_ble_eq_true rfl) ⟨Nat.le_of_ble_eq_true rfl, Nat.le_of_ble_eq_true rfl⟩ dX6_kind_27 (fun r w1 hp => ?_)
      obtain ⟨h1, hr, rfl⟩ := hp
      rw [hr]
      refine g_goto (tgt := 39) cx dX6_kind_30 (by decide) ?_
      exact g_iret cx gr (Nat.zero_le _) (Nat.zero_le _) dX6_kind_39 (mleaf (by rw [sp_kind, if_neg c_1, if_neg c_2, hNc]; exact congrArg (fun F => ((bst F 6).1, c)) (mb_kind c.1 (isW_vp 7 c_1 (by decide)) N).symm))
