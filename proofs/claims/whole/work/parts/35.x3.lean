abbrev rmX5_begin : Room := { frames := 5, cells := 0, slots := 0, locals := 112 }
theorem hYX5_begin : gY yX5_begin wsX5_begin cX5_begin 5 (some .int) 1 := ⟨⟨_, rfl⟩, by decide +kernel, by decide +kernel, by decide +kernel⟩
theorem iwX5_begin_X5 : ∀ w ∈ u_ws RX5 TX5 8, w ∈ wsX5_begin := by decide +kernel
theorem lkX5_begin_16 : Cond.fieldLink RX5 16 "MuffinBells" "trial" "LMuffinBells$Terrace;" ∈ wsX5_begin := by decide +kernel
theorem lkX5_begin_10 : Cond.fieldLink RX5 10 "MuffinBells" "present" "LMuffinBells$Terrace;" ∈ wsX5_begin := by decide +kernel
theorem iwX5_begin_X3 : ∀ w ∈ u_ws RX3 TX3 11, w ∈ wsX5_begin := by decide +kernel
theorem lkX5_begin_88 : Cond.fieldLink RX5 88 "MuffinBells$Terrace" "at" "I" ∈ wsX5_begin := by decide +kernel
theorem lkX5_begin_103 : Cond.fieldLink RX5 103 "MuffinBells$Terrace" "takings" "I" ∈ wsX5_begin := by decide +kernel
theorem m1X5_begin_c61 : Cond.constant RX5 61 (-1000000001) ∈ wsX5_begin := by decide +kernel
set_option maxRecDepth 100000 in
set_option maxHeartbeats 4000000 in
theorem c_X5_begin (l : Launch) (E : gE) (a : Nat → Nat) (c : Cor) (g : Gar) (n0 : Int32) (hok : cOk c) : cti l yX5_begin wsX5_begin rmX5_begin E [.ref (a 0), .int n0] (xW E a c g) (fun r w => ∃ g', r = (sp_begin c n0).1 ∧ w = xW E a (sp_begin c n0).2 g') := by
  refine mt_i (cc := cX5_begin) (maxL := 5) (ret := some .int) (lv0 := [(0, .ref (a 0)), (1, .int n0)]) (by decide) rfl rfl (Nat.le_of_ble_eq_true rfl) (fun X cx gr hI => ?_)
  refine g_iload_n cx dX5_begin_0 1 rfl ?_
  refine g_SPi (rest := []) (As := [.int n0]) cx hYX5_isHoursWeighed gX5_begin_X5_isHoursWeighed (c_X5_isHoursWeighed l E n0 ) ⟨Nat.le_of_ble_eq_true rfl, Nat.le_of_ble_eq_true rfl⟩ rfl rfl (Nat.le_of_ble_eq_true rfl) ⟨Nat.le_of_ble_eq_true rfl, Nat.le_of_ble_eq_true rfl⟩ dX5_begin_1 ?_
  refine g_if_ne (tgt := 14) cx dX5_begin_4 (by decide) (fun c_1 => ?_) (fun c_1 => ?_)
  · obtain ⟨N, hN1, hN, rfl⟩ := isW_nI1 60 c_1 (by decide)
    have hNc : (nI N).toNatClampNeg = N := nI_clamp (by omega)
    refine g_iconst (v := 0) cx dX5_begin_14 (by decide) ?_
    refine g_istore_n (lv' := [(2, .int 0), (0, .ref (a 0)), (1, .int (nI N))]) cx dX5_begin_15 (by decide) rfl ?_
    refine g_iconst (v := (-1)) cx dX5_begin_16 (by decide) ?_
    refine g_istore_n (lv' := [(3, .int (-1)), (2, .int 0), (0, .ref (a 0)), (1, .int (nI N))]) cx dX5_begin_17 (by decide) rfl ?_
    refine g_iconst (v := 0) cx dX5_begin_18 (by decide) ?_
    refine g_istore (lv' := [(4, .int 0), (3, .int (-1)), (2, .int 0), (0, .ref (a 0)), (1, .int (nI N))]) cx dX5_begin_19 (by decide) rfl ?_
    have LP21 : ∀ (d : Nat) (i : Nat) (x : Int32) (b : Int32) (y : Int32) (u : Ter), i + d = 9 → i ≤ 8 → x = nI i → (b, y) = bst (fun v => tTak (goHs N (tPut c.1 1 (nI v)))) i → gG X 0 0 (xW E a c (u, g.2.1, g.2.2.1, g.2.2.2.1, g.2.2.2.2)) 21 [(0, .ref (a 0)), (1, .int (nI N)), (2, .int b), (3, .int y), (4, .int x)] [] := by
      intro d
      induction d with
      | zero =>
        intro i x b y u hi hiN hx hb
        omega
      | succ d ih =>
        intro i x b y u hi hiN hx hb
        refine g_iload cx dX5_begin_21 4 rfl ?_
        refine g_bipush (v := 8) cx dX5_begin_23 (by decide) ?_
        refine g_icmp_ge (tgt := 84) cx dX5_begin_25 (by decide) (fun c_2 => ?_) (fun c_2 => ?_)
        · refine g_iload_n cx dX5_begin_84 2 rfl ?_
          exact g_iret cx gr (Nat.zero_le _) (Nat.zero_le _) dX5_begin_85 (xleaf (by rw [show i = 8 by have := ge_of 8 hx c_2 (by omega) (by decide); omega] at hb; rw [sp_begin, if_neg c_1, hNc, ← hb]))
        · refine g_aload_n cx dX5_begin_28 0 rfl ?_
          refine g_get (C := RX5) (T := TX5) (N := 8) (v := .ref (a 6)) cx iwX5_begin_X5 0 1 rfl rfl (by decide) lkX5_begin_16 rfl dX5_begin_29 ?_
          refine g_aload_n cx dX5_begin_32 0 rfl ?_
          refine g_get (C := RX5) (T := TX5) (N := 8) (v := .ref (a 1)) cx iwX5_begin_X5 0 0 rfl rfl (by decide) lkX5_begin_10 rfl dX5_begin_33 ?_
          refine g_XBtp cx gX5_begin_X3_become ⟨Nat.le_of_ble_eq_true rfl, Nat.le_of_ble_eq_true rfl⟩ (Nat.le_of_ble_eq_true rfl) dX5_begin_36 ?_ (Nat.zero_le _) (Nat.zero_le _)
          refine g_aload_n cx dX5_begin_39 0 rfl ?_
          refine g_get (C := RX5) (T := TX5) (N := 8) (v := .ref (a 6)) cx iwX5_begin_X5 0 1 rfl rfl (by decide) lkX5_begin_16 rfl dX5_begin_40 ?_
          refine g_iload cx dX5_begin_43 4 rfl ?_
          refine g_put (C := RX3) (T := TX3) (N := 11) (ws' := (xW E a c ((c.1.1, x, c.1.2.2.1, c.1.2.2.2.1, c.1.2.2.2.2.1, c.1.2.2.2.2.2.1, c.1.2.2.2.2.2.2.1, c.1.2.2.2.2.2.2.2.1, c.1.2.2.2.2.2.2.2.2.1, c.1.2.2.2.2.2.2.2.2.2.1, c.1.2.2.2.2.2.2.2.2.2.2), g.2.1, g.2.2.1, g.2.2.2.1, g.2.2.2.2))) cx iwX5_begin_X3 tyX3 tyX3_ok nmX3 6 1 rfl rfl (by decide) lkX5_begin_88 rfl rfl rfl (Nat.le_of_ble_eq_true rfl) dX5_begin_45 rfl ?_
          refine g_aload_n cx dX5_begin_48 0 rfl ?_
          refine g_get (C := RX5) (T := TX5) (N := 8) (v := .ref (a 6)) cx iwX5_begin_X5 0 1 rfl rfl (by decide) lkX5_begin_16 rfl dX5_begin_49 ?_
          refine g_iload_n cx dX5_begin_52 1 rfl ?_
          refine g_Xtv (rest := []) (As := [.int (nI N)]) cx hYX3_goHours gX5_begin_X3_goHours (c_X3_goHours l E (fun i => a (6 + i)) (c.1.1, x, c.1.2.2.1, c.1.2.2.2.1, c.1.2.2.2.2.1, c.1.2.2.2.2.2.1, c.1.2.2.2.2.2.2.1, c.1.2.2.2.2.2.2.2.1, c.1.2.2.2.2.2.2.2.2.1, c.1.2.2.2.2.2.2.2.2.2.1, c.1.2.2.2.2.2.2.2.2.2.2) N (vp_of_nI hx (lt_of 8 hx c_2 (by omega) (by decide)) (by decide)) (by omega)) rfl ⟨Nat.le_of_ble_eq_true rfl, Nat.le_of_ble_eq_true rfl⟩ rfl rfl (Nat.le_of_ble_eq_true rfl) ⟨Nat.le_of_ble_eq_true rfl, Nat.le_of_ble_eq_true rfl⟩ dX5_begin_53 ?_
          refine g_aload_n cx dX5_begin_56 0 rfl ?_
          refine g_get (C := RX5) (T := TX5) (N := 8) (v := .ref (a 6)) cx iwX5_begin_X5 0 1 rfl rfl (by decide) lkX5_begin_16 rfl dX5_begin_57 ?_
          refine g_get (C := RX3) (T := TX3) (N := 11) (v := .int ((goHs N (c.1.1, x, c.1.2.2.1, c.1.2.2.2.1, c.1.2.2.2.2.1, c.1.2.2.2.2.2.1, c.1.2.2.2.2.2.2.1, c.1.2.2.2.2.2.2.2.1, c.1.2.2.2.2.2.2.2.2.1, c.1.2.2.2.2.2.2.2.2.2.1, c.1.2.2.2.2.2.2.2.2.2.2)).2.2.2.2.2.2.1)) cx iwX5_begin_X3 6 6 rfl rfl (by decide) lkX5_begin_103 rfl dX5_begin_60 ?_
          refine g_iload_n cx dX5_begin_63 3 rfl ?_
          refine g_icmp_le (tgt := 78) cx dX5_begin_64 (by decide) (fun c_3 => ?_) (fun c_3 => ?_)
          · refine g_iinc (v := x + 1) (lv' := [(4, .int (x + 1)), (0, .ref (a 0)), (1, .int (nI N)), (2, .int b), (3, .int y)]) cx dX5_begin_78 4 rfl rfl (by decide) rfl ?_
            refine g_goto (tgt := 21) cx dX5_begin_81 (by decide) ?_
            exact g_lv [1, 2, 3, 4, 0] rfl (ih (i + 1) (x + 1) b y (goHs N (c.1.1, x, c.1.2.2.1, c.1.2.2.2.1, c.1.2.2.2.2.1, c.1.2.2.2.2.2.1, c.1.2.2.2.2.2.2.1, c.1.2.2.2.2.2.2.2.1, c.1.2.2.2.2.2.2.2.2.1, c.1.2.2.2.2.2.2.2.2.2.1, c.1.2.2.2.2.2.2.2.2.2.2)) (by omega) (by have := lt_of 8 hx c_2 (by omega) (by decide); omega) (by rw [hx]; exact nI_1 i) (bst_le hb (by rw [put_1, ← hx]) c_3))
          · refine g_aload_n cx dX5_begin_67 0 rfl ?_
            refine g_get (C := RX5) (T := TX5) (N := 8) (v := .ref (a 6)) cx iwX5_begin_X5 0 1 rfl rfl (by decide) lkX5_begin_16 rfl dX5_begin_68 ?_
            refine g_get (C := RX3) (T := TX3) (N := 11) (v := .int ((goHs N (c.1.1, x, c.1.2.2.1, c.1.2.2.2.1, c.1.2.2.2.2.1, c.1.2.2.2.2.2.1, c.1.2.2.2.2.2.2.1, c.1.2.2.2.2.2.2.2.1, c.1.2.2.2.2.2.2.2.2.1, c.1.2.2.2.2.2.2.2.2.2.1, c.1.2.2.2.2.2.2.2.2.2.2)).2.2.2.2.2.2.1)) cx iwX5_begin_X3 6 6 rfl rfl (by decide) lkX5_begin_103 rfl dX5_begin_71 ?_
            refine g_istore_n (lv' := [(3, .int ((goHs N (c.1.1, x, c.1.2.2.1, c.1.2.2.2.1, c.1.2.2.2.2.1, c.1.2.2.2.2.2.1, c.1.2.2.2.2.2.2.1, c.1.2.2.2.2.2.2.2.1, c.1.2.2.2.2.2.2.2.2.1, c.1.2.2.2.2.2.2.2.2.2.1, c.1.2.2.2.2.2.2.2.2.2.2)).2.2.2.2.2.2.1)), (0, .ref (a 0)), (1, .int (nI N)), (2, .int b), (4, .int x)]) cx dX5_begin_74 (by decide) rfl ?_
            refine g_iload cx dX5_begin_75 4 rfl ?_
            refine g_istore_n (lv' := [(2, .int x), (3, .int ((goHs N (c.1.1, x, c.1.2.2.1, c.1.2.2.2.1, c.1.2.2.2.2.1, c.1.2.2.2.2.2.1, c.1.2.2.2.2.2.2.1, c.1.2.2.2.2.2.2.2.1, c.1.2.2.2.2.2.2.2.2.1, c.1.2.2.2.2.2.2.2.2.2.1, c.1.2.2.2.2.2.2.2.2.2.2)).2.2.2.2.2.2.1)), (0, .ref (a 0)), (1, .int (nI N)), (4, .int x)]) cx dX5_begin_77 (by decide) rfl ?_
            refine g_iinc (v := x + 1) (lv' := [(4, .int (x + 1)), (2, .int x), (3, .int ((goHs N (c.1.1, x, c.1.2.2.1, c.1.2.2.2.1, c.1.2.2.2.2.1, c.1.2.2.2.2.2.1, c.1.2.2.2.2.2.2.1, c.1.2.2.2.2.2.2.2.1, c.1.2.2.2.2.2.2.2.2.1, c.1.2.2.2.2.2.2.2.2.2.1, c.1.2.2.2.2.2.2.2.2.2.2)).2.2.2.2.2.2.1)), (0, .ref (a 0)), (1, .int (nI N))]) cx dX5_begin_78 4 rfl rfl (by decide) rfl ?_
            refine g_goto (tgt := 21) cx dX5_begin_81 (by decide) ?_
            exact g_lv [3, 4, 1, 2, 0] rfl (ih (i + 1) (x + 1) x ((goHs N (c.1.1, x, c.1.2.2.1, c.1.2.2.2.1, c.1.2.2.2.2.1, c.1.2.2.2.2.2.1, c.1.2.2.2.2.2.2.1, c.1.2.2.2.2.2.2.2.1, c.1.2.2.2.2.2.2.2.2.1, c.1.2.2.2.2.2.2.2.2.2.1, c.1.2.2.2.2.2.2.2.2.2.2)).2.2.2.2.2.2.1) (goHs N (c.1.1, x, c.1.2.2.1, c.1.2.2.2.1, c.1.2.2.2.2.1, c.1.2.2.2.2.2.1, c.1.2.2.2.2.2.2.1, c.1.2.2.2.2.2.2.2.1, c.1.2.2.2.2.2.2.2.2.1, c.1.2.2.2.2.2.2.2.2.2.1, c.1.2.2.2.2.2.2.2.2.2.2)) (by omega) (by have := lt_of 8 hx c_2 (by omega) (by decide); omega) (by rw [hx]; exact nI_1 i) (bst_gt hb (by rw [put_1, ← hx]) c_3 hx))
    exact g_lv [3, 4, 2, 1, 0] rfl (LP21 9 0 0 0 (-1) g.1 (by omega) (by omega) rfl rfl)
  · refine g_aload_n cx dX5_begin_7 0 rfl ?_
    refine g_ldc cx m1X5_begin_c61 dX5_begin_8 ?_
    refine g_VSi (rest := []) (As := [.int (-1000000001)]) cx hYX5_finding gX5_begin_X5_finding (c_X5_finding l E a c g (-1000000001) (by unfold vp_in; decide +kernel)) rfl rfl rfl ⟨Nat.le_of_ble_eq_true rfl, Nat.le_of_ble_eq_true rfl⟩ rfl rfl (Nat.le_of_ble_eq_true rfl) ⟨Nat.le_of_ble_eq_true rfl, Nat.le_of_ble_eq_true rfl⟩ dX5_begin_10 (fun r w1 hp => ?_)
    obtain ⟨rfl, rfl⟩ := hp
    exact g_iret cx gr (Nat.zero_le _) (Nat.zero_le _) dX5_begin_13 (xleaf (by first | (simp only [sp_begin, tKind, tMood, tPen, tAte, tHour, tTray, tAt, tRang, tCrack, tTak, tWay, cB, c_1, if_true, if_false]; done) | (simp only [sp_begin, tKind, tMood, tPen, tAte, tHour, tTray, tAt, tRang, tCrack, tTak, tWay, cB, c_1, if_true, if_false] <;> rfl) | (simp [sp_begin, tKind, tMood, tPen, tAte, tHour, tTray, tAt, tRang, tCrack, tTak, tWay, cB, c_1] <;> rfl)))

abbrev rmX5_mood : Room := { frames := 5, cells := 0, slots := 0, locals := 112 }
theorem hYX5_mood : gY yX5_mood wsX5_mood cX5_mood 6 (some .int) 2 := ⟨⟨_, rfl⟩, by decide +kernel, by decide +kernel, by decide +kernel⟩
theorem m1X5_mood_c61 : Cond.constant RX5 61 (-1000000001) ∈ wsX5_mood := by decide +kernel
theorem iwX5_mood_X5 : ∀ w ∈ u_ws RX5 TX5 8, w ∈ wsX5_mood := by decide +kernel
theorem lkX5_mood_16 : Cond.fieldLink RX5 16 "MuffinBells" "trial" "LMuffinBells$Terrace;" ∈ wsX5_mood := by decide +kernel
theorem lkX5_mood_10 : Cond.fieldLink RX5 10 "MuffinBells" "present" "LMuffinBells$Terrace;" ∈ wsX5_mood := by decide +kernel
theorem iwX5_mood_X3 : ∀ w ∈ u_ws RX3 TX3 11, w ∈ wsX5_mood := by decide +kernel
theorem lkX5_mood_113 : Cond.fieldLink RX5 113 "MuffinBells$Terrace" "moods" "[I" ∈ wsX5_mood := by decide +kernel
theorem lkX5_mood_103 : Cond.fieldLink RX5 103 "MuffinBells$Terrace" "takings" "I" ∈ wsX5_mood := by decide +kernel
set_option maxRecDepth 100000 in
set_option maxHeartbeats 4000000 in
theorem c_X5_mood (l : Launch) (E : gE) (a : Nat → Nat) (c : Cor) (g : Gar) (h0 : Int32) (n0 : Int32) (hok : cOk c) : cti l yX5_mood wsX5_mood rmX5_mood E [.ref (a 0), .int h0, .int n0] (xW E a c g) (fun r w => ∃ g', r = (sp_mood c h0 n0).1 ∧ w = xW E a (sp_mood c h0 n0).2 g') := by
  refine mt_i (cc := cX5_mood) (maxL := 6) (ret := some .int) (lv0 := [(0, .ref (a 0)), (1, .int h0), (2, .int n0)]) (by decide) rfl rfl (Nat.le_of_ble_eq_true rfl) (fun X cx gr hI => ?_)
  refine g_iload_n cx dX5_mood_0 1 rfl ?_
  refine g_SPi (rest := []) (As := [.int h0]) cx hYX5_isHouse gX5_mood_X5_isHouse (c_X5_isHouse l E h0 ) ⟨Nat.le_of_ble_eq_true rfl, Nat.le_of_ble_eq_true rfl⟩ rfl rfl (Nat.le_of_ble_eq_true rfl) ⟨Nat.le_of_ble_eq_true rfl, Nat.le_of_ble_eq_true rfl⟩ dX5_mood_1 ?_
  refine g_if_eq (tgt := 14) cx dX5_mood_4 (by decide) (fun c_1 => ?_) (fun c_1 => ?_)
  · refine g_aload_n cx dX5_mood_14 0 rfl ?_
    refine g_ldc cx m1X5_mood_c61 dX5_mood_15 ?_
    refine g_VSi (rest := []) (As := [.int (-1000000001)]) cx hYX5_finding gX5_mood_X5_finding (c_X5_finding l E a c g (-1000000001) (by unfold vp_in; decide +kernel)) rfl rfl rfl ⟨Nat.le_of_ble_eq_true rfl, Nat.le_of_ble_eq_true rfl⟩ rfl rfl (Nat.le_of_ble_eq_true rfl) ⟨Nat.le_of_ble_eq_true rfl, Nat.le_of_ble_eq_true rfl⟩ dX5_mood_17 (fun r w1 hp => ?_)
    obtain ⟨rfl, rfl⟩ := hp
    exact g_iret cx gr (Nat.zero_le _) (Nat.zero_le _) dX5_mood_20 (xleaf (by first | (simp only [sp_mood, tKind, tMood, tPen, tAte, tHour, tTray, tAt, tRang, tCrack, tTak, tWay, cB, c_1, if_true, if_false]; done) | (simp only [sp_mood, tKind, tMood, tPen, tAte, tHour, tTray, tAt, tRang, tCrack, tTak, tWay, cB, c_1, if_true, if_false] <;> rfl) | (simp [sp_mood, tKind, tMood, tPen, tAte, tHour, tTray, tAt, tRang, tCrack, tTak, tWay, cB, c_1] <;> rfl)))
  · refine g_iload_n cx dX5_mood_7 2 rfl ?_
    refine g_SPi (rest := []) (As := [.int n0]) cx hYX5_isHoursWeighed gX5_mood_X5_isHoursWeighed (c_X5_isHoursWeighed l E n0 ) ⟨Nat.le_of_ble_eq_true rfl, Nat.le_of_ble_eq_true rfl⟩ rfl rfl (Nat.le_of_ble_eq_true rfl) ⟨Nat.le_of_ble_eq_true rfl, Nat.le_of_ble_eq_true rfl⟩ dX5_mood_8 ?_
    refine g_if_ne (tgt := 21) cx dX5_mood_11 (by decide) (fun c_2 => ?_) (fun c_2 => ?_)
    · have hhv := (isW_vp 7 c_1 (by decide))
      obtain ⟨N, hN1, hN, rfl⟩ := isW_nI1 60 c_2 (by decide)
      have hNc : (nI N).toNatClampNeg = N := nI_clamp (by omega)
      refine g_iconst (v := 0) cx dX5_mood_21 (by decide) ?_
      refine g_istore_n (lv' := [(3, .int 0), (0, .ref (a 0)), (1, .int h0), (2, .int (nI N))]) cx dX5_mood_22 (by decide) rfl ?_
      refine g_iconst (v := (-1)) cx dX5_mood_23 (by decide) ?_
      refine g_istore (lv' := [(4, .int (-1)), (3, .int 0), (0, .ref (a 0)), (1, .int h0), (2, .int (nI N))]) cx dX5_mood_24 (by decide) rfl ?_
      refine g_iconst (v := 0) cx dX5_mood_26 (by decide) ?_
      refine g_istore (lv' := [(5, .int 0), (4, .int (-1)), (3, .int 0), (0, .ref (a 0)), (1, .int h0), (2, .int (nI N))]) cx dX5_mood_27 (by decide) rfl ?_
      have LP29 : ∀ (d : Nat) (i : Nat) (x : Int32) (b : Int32) (y : Int32) (u : Ter), i + d = 22 → i ≤ 21 → x = nI i → (b, y) = bst (fun v => tTak (goHs N (tPut c.1 (spot h0 1).toNatClampNeg (nI v)))) i → gG X 0 0 (xW E a c (u, g.2.1, g.2.2.1, g.2.2.2.1, g.2.2.2.2)) 29 [(0, .ref (a 0)), (1, .int h0), (2, .int (nI N)), (3, .int b), (4, .int y), (5, .int x)] [] := by
        intro d
        induction d with
        | zero =>
          intro i x b y u hi hiN hx hb
          omega
        | succ d ih =>
          intro i x b y u hi hiN hx hb
          refine g_iload cx dX5_mood_29 5 rfl ?_
          refine g_bipush (v := 20) cx dX5_mood_31 (by decide) ?_
          refine g_icmp_gt (tgt := 96) cx dX5_mood_33 (by decide) (fun c_3 => ?_) (fun c_3 => ?_)
          · refine g_iload_n cx dX5_mood_96 3 rfl ?_
            exact g_iret cx gr (Nat.zero_le _) (Nat.zero_le _) dX5_mood_97 (xleaf (by rw [show i = 21 by have := gt_of 20 hx c_3 (by omega) (by decide); omega] at hb; rw [sp_mood, if_neg c_1, if_neg c_2, hNc, ← hb]))
          · refine g_aload_n cx dX5_mood_36 0 rfl ?_
            refine g_get (C := RX5) (T := TX5) (N := 8) (v := .ref (a 6)) cx iwX5_mood_X5 0 1 rfl rfl (by decide) lkX5_mood_16 rfl dX5_mood_37 ?_
            refine g_aload_n cx dX5_mood_40 0 rfl ?_
            refine g_get (C := RX5) (T := TX5) (N := 8) (v := .ref (a 1)) cx iwX5_mood_X5 0 0 rfl rfl (by decide) lkX5_mood_10 rfl dX5_mood_41 ?_
            refine g_XBtp cx gX5_mood_X3_become ⟨Nat.le_of_ble_eq_true rfl, Nat.le_of_ble_eq_true rfl⟩ (Nat.le_of_ble_eq_true rfl) dX5_mood_44 ?_ (Nat.zero_le _) (Nat.zero_le _)
            refine g_aload_n cx dX5_mood_47 0 rfl ?_
            refine g_get (C := RX5) (T := TX5) (N := 8) (v := .ref (a 6)) cx iwX5_mood_X5 0 1 rfl rfl (by decide) lkX5_mood_16 rfl dX5_mood_48 ?_
            refine g_get (C := RX3) (T := TX3) (N := 11) (v := .ref (a 8)) cx iwX5_mood_X3 6 8 rfl rfl (by decide) lkX5_mood_113 rfl dX5_mood_51 ?_
            refine g_iload_n cx dX5_mood_54 1 rfl ?_
            refine g_iload cx dX5_mood_55 5 rfl ?_
            refine g_iast (ws' := (xW E a c ((c.1.1, c.1.2.1, c.1.2.2.1, c.1.2.2.2.1, c.1.2.2.2.2.1, c.1.2.2.2.2.2.1, c.1.2.2.2.2.2.2.1, c.1.2.2.2.2.2.2.2.1, upd c.1.2.2.2.2.2.2.2.2.1 h0.toNatClampNeg x, c.1.2.2.2.2.2.2.2.2.2.1, c.1.2.2.2.2.2.2.2.2.2.2), g.2.1, g.2.2.1, g.2.2.2.1, g.2.2.2.2))) cx 8 rfl rfl hhv dX5_mood_57 rfl ?_
            refine g_aload_n cx dX5_mood_58 0 rfl ?_
            refine g_get (C := RX5) (T := TX5) (N := 8) (v := .ref (a 6)) cx iwX5_mood_X5 0 1 rfl rfl (by decide) lkX5_mood_16 rfl dX5_mood_59 ?_
            refine g_iload_n cx dX5_mood_62 2 rfl ?_
            refine g_Xtv (rest := []) (As := [.int (nI N)]) cx hYX3_goHours gX5_mood_X3_goHours (c_X3_goHours l E (fun i => a (6 + i)) (c.1.1, c.1.2.1, c.1.2.2.1, c.1.2.2.2.1, c.1.2.2.2.2.1, c.1.2.2.2.2.2.1, c.1.2.2.2.2.2.2.1, c.1.2.2.2.2.2.2.2.1, upd c.1.2.2.2.2.2.2.2.2.1 h0.toNatClampNeg x, c.1.2.2.2.2.2.2.2.2.2.1, c.1.2.2.2.2.2.2.2.2.2.2) N hok.1.1 (by omega)) rfl ⟨Nat.le_of_ble_eq_true rfl, Nat.le_of_ble_eq_true rfl⟩ rfl rfl (Nat.le_of_ble_eq_true rfl) ⟨Nat.le_of_ble_eq_true rfl, Nat.le_of_ble_eq_true rfl⟩ dX5_mood_63 ?_
            refine g_aload_n cx dX5_mood_66 0 rfl ?_
            refine g_get (C := RX5) (T := TX5) (N := 8) (v := .ref (a 6)) cx iwX5_mood_X5 0 1 rfl rfl (by decide) lkX5_mood_16 rfl dX5_mood_67 ?_
            refine g_get (C := RX3) (T := TX3) (N := 11) (v := .int ((goHs N (c.1.1, c.1.2.1, c.1.2.2.1, c.1.2.2.2.1, c.1.2.2.2.2.1, c.1.2.2.2.2.2.1, c.1.2.2.2.2.2.2.1, c.1.2.2.2.2.2.2.2.1, upd c.1.2.2.2.2.2.2.2.2.1 h0.toNatClampNeg x, c.1.2.2.2.2.2.2.2.2.2.1, c.1.2.2.2.2.2.2.2.2.2.2)).2.2.2.2.2.2.1)) cx iwX5_mood_X3 6 6 rfl rfl (by decide) lkX5_mood_103 rfl dX5_mood_70 ?_
            refine g_iload cx dX5_mood_73 4 rfl ?_
            refine g_icmp_le (tgt := 90) cx dX5_mood_75 (by decide) (fun c_4 => ?_) (fun c_4 => ?_)
            · refine g_iinc (v := x + 1) (lv' := [(5, .int (x + 1)), (0, .ref (a 0)), (1, .int h0), (2, .int (nI N)), (3, .int b), (4, .int y)]) cx dX5_mood_90 5 rfl rfl (by decide) rfl ?_
              refine g_goto (tgt := 29) cx dX5_mood_93 (by decide) ?_
              exact g_lv [1, 2, 3, 4, 5, 0] rfl (ih (i + 1) (x + 1) b y (goHs N (c.1.1, c.1.2.1, c.1.2.2.1, c.1.2.2.2.1, c.1.2.2.2.2.1, c.1.2.2.2.2.2.1, c.1.2.2.2.2.2.2.1, c.1.2.2.2.2.2.2.2.1, upd c.1.2.2.2.2.2.2.2.2.1 h0.toNatClampNeg x, c.1.2.2.2.2.2.2.2.2.2.1, c.1.2.2.2.2.2.2.2.2.2.2)) (by omega) (by have := le_of 20 hx c_3 (by omega) (by decide); omega) (by rw [hx]; exact nI_1 i) (bst_le hb (by rw [tput_M hhv, ← hx]) c_4))
            · refine g_aload_n cx dX5_mood_78 0 rfl ?_
              refine g_get (C := RX5) (T := TX5) (N := 8) (v := .ref (a 6)) cx iwX5_mood_X5 0 1 rfl rfl (by decide) lkX5_mood_16 rfl dX5_mood_79 ?_
              refine g_get (C := RX3) (T := TX3) (N := 11) (v := .int ((goHs N (c.1.1, c.1.2.1, c.1.2.2.1, c.1.2.2.2.1, c.1.2.2.2.2.1, c.1.2.2.2.2.2.1, c.1.2.2.2.2.2.2.1, c.1.2.2.2.2.2.2.2.1, upd c.1.2.2.2.2.2.2.2.2.1 h0.toNatClampNeg x, c.1.2.2.2.2.2.2.2.2.2.1, c.1.2.2.2.2.2.2.2.2.2.2)).2.2.2.2.2.2.1)) cx iwX5_mood_X3 6 6 rfl rfl (by decide) lkX5_mood_103 rfl dX5_mood_82 ?_
              refine g_istore (lv' := [(4, .int ((goHs N (c.1.1, c.1.2.1, c.1.2.2.1, c.1.2.2.2.1, c.1.2.2.2.2.1, c.1.2.2.2.2.2.1, c.1.2.2.2.2.2.2.1, c.1.2.2.2.2.2.2.2.1, upd c.1.2.2.2.2.2.2.2.2.1 h0.toNatClampNeg x, c.1.2.2.2.2.2.2.2.2.2.1, c.1.2.2.2.2.2.2.2.2.2.2)).2.2.2.2.2.2.1)), (0, .ref (a 0)), (1, .int h0), (2, .int (nI N)), (3, .int b), (5, .int x)]) cx dX5_mood_85 (by decide) rfl ?_
              refine g_iload cx dX5_mood_87 5 rfl ?_
              refine g_istore_n (lv' := [(3, .int x), (4, .int ((goHs N (c.1.1, c.1.2.1, c.1.2.2.1, c.1.2.2.2.1, c.1.2.2.2.2.1, c.1.2.2.2.2.2.1, c.1.2.2.2.2.2.2.1, c.1.2.2.2.2.2.2.2.1, upd c.1.2.2.2.2.2.2.2.2.1 h0.toNatClampNeg x, c.1.2.2.2.2.2.2.2.2.2.1, c.1.2.2.2.2.2.2.2.2.2.2)).2.2.2.2.2.2.1)), (0, .ref (a 0)), (1, .int h0), (2, .int (nI N)), (5, .int x)]) cx dX5_mood_89 (by decide) rfl ?_
              refine g_iinc (v := x + 1) (lv' := [(5, .int (x + 1)), (3, .int x), (4, .int ((goHs N (c.1.1, c.1.2.1, c.1.2.2.1, c.1.2.2.2.1, c.1.2.2.2.2.1, c.1.2.2.2.2.2.1, c.1.2.2.2.2.2.2.1, c.1.2.2.2.2.2.2.2.1, upd c.1.2.2.2.2.2.2.2.2.1 h0.toNatClampNeg x, c.1.2.2.2.2.2.2.2.2.2.1, c.1.2.2.2.2.2.2.2.2.2.2)).2.2.2.2.2.2.1)), (0, .ref (a 0)), (1, .int h0), (2, .int (nI N))]) cx dX5_mood_90 5 rfl rfl (by decide) rfl ?_
              refine g_goto (tgt := 29) cx dX5_mood_93 (by decide) ?_
              exact g_lv [3, 4, 5, 1, 2, 0] rfl (ih (i + 1) (x + 1) x ((goHs N (c.1.1, c.1.2.1, c.1.2.2.1, c.1.2.2.2.1, c.1.2.2.2.2.1, c.1.2.2.2.2.2.1, c.1.2.2.2.2.2.2.1, c.1.2.2.2.2.2.2.2.1, upd c.1.2.2.2.2.2.2.2.2.1 h0.toNatClampNeg x, c.1.2.2.2.2.2.2.2.2.2.1, c.1.2.2.2.2.2.2.2.2.2.2)).2.2.2.2.2.2.1) (goHs N (c.1.1, c.1.2.1, c.1.2.2.1, c.1.2.2.2.1, c.1.2.2.2.2.1, c.1.2.2.2.2.2.1, c.1.2.2.2.2.2.2.1, c.1.2.2.2.2.2.2.2.1, upd c.1.2.2.2.2.2.2.2.2.1 h0.toNatClampNeg x, c.1.2.2.2.2.2.2.2.2.2.1, c.1.2.2.2.2.2.2.2.2.2.2)) (by omega) (by have := le_of 20 hx c_3 (by omega) (by decide); omega) (by rw [hx]; exact nI_1 i) (bst_gt hb (by rw [tput_M hhv, ← hx]) c_4 hx))
      exact g_lv [3, 4, 5, 2, 1, 0] rfl (LP29 22 0 0 0 (-1) g.1 (by omega) (by omega) rfl rfl)
    · refine g_aload_n cx dX5_mood_14 0 rfl ?_
      refine g_ldc cx m1X5_mood_c61 dX5_mood_15 ?_
      refine g_VSi (rest := []) (As := [.int (-1000000001)]) cx hYX5_finding gX5_mood_X5_finding (c_X5_finding l E a c g (-1000000001) (by unfold vp_in; decide +kernel)) rfl rfl rfl ⟨Nat.le_of_ble_eq_true rfl, Nat.le_of_ble_eq_true rfl⟩ rfl rfl (Nat.le_of_ble_eq_true rfl) ⟨Nat.le_of_ble_eq_true rfl, Nat.le_of_ble_eq_true rfl⟩ dX5_mood_17 (fun r w1 hp => ?_)
      obtain ⟨rfl, rfl⟩ := hp
      exact g_iret cx gr (Nat.zero_le _) (Nat.zero_le _) dX5_mood_20 (xleaf (by first | (simp only [sp_mood, tKind, tMood, tPen, tAte, tHour, tTray, tAt, tRang, tCrack, tTak, tWay, cB, c_1, c_2, if_true, if_false]; done) | (simp only [sp_mood, tKind, tMood, tPen, tAte, tHour, tTray, tAt, tRang, tCrack, tTak, tWay, cB, c_1, c_2, if_true, if_false] <;> rfl) | (simp [sp_mood, tKind, tMood, tPen, tAte, tHour, tTray, tAt, tRang, tCrack, tTak, tWay, cB, c_1, c_2] <;> rfl)))

abbrev rmX5_kind : Room := { frames := 5, cells := 0, slots := 0, locals := 112 }
theorem hYX5_kind : gY yX5_kind wsX5_kind cX5_kind 6 (some .int) 2 := ⟨⟨_, rfl⟩, by decide +kernel, by decide +kernel, by decide +kernel⟩
theorem m1X5_kind_c61 : Cond.constant RX5 61 (-1000000001) ∈ wsX5_kind := by decide +kernel
theorem iwX5_kind_X5 : ∀ w ∈ u_ws RX5 TX5 8, w ∈ wsX5_kind := by decide +kernel
theorem lkX5_kind_16 : Cond.fieldLink RX5 16 "MuffinBells" "trial" "LMuffinBells$Terrace;" ∈ wsX5_kind := by decide +kernel
theorem lkX5_kind_10 : Cond.fieldLink RX5 10 "MuffinBells" "present" "LMuffinBells$Terrace;" ∈ wsX5_kind := by decide +kernel
theorem iwX5_kind_X3 : ∀ w ∈ u_ws RX3 TX3 11, w ∈ wsX5_kind := by decide +kernel
theorem lkX5_kind_110 : Cond.fieldLink RX5 110 "MuffinBells$Terrace" "kinds" "[I" ∈ wsX5_kind := by decide +kernel
theorem lkX5_kind_119 : Cond.fieldLink RX5 119 "MuffinBells$Terrace" "ate" "[I" ∈ wsX5_kind := by decide +kernel
set_option maxRecDepth 100000 in
set_option maxHeartbeats 4000000 in
theorem c_X5_kind (l : Launch) (E : gE) (a : Nat → Nat) (c : Cor) (g : Gar) (h0 : Int32) (n0 : Int32) (hok : cOk c) : cti l yX5_kind wsX5_kind rmX5_kind E [.ref (a 0), .int h0, .int n0] (xW E a c g) (fun r w => ∃ g', r = (sp_kind c h0 n0).1 ∧ w = xW E a (sp_kind c h0 n0).2 g') := by
  refine mt_i (cc := cX5_kind) (maxL := 6) (ret := some .int) (lv0 := [(0, .ref (a 0)), (1, .int h0), (2, .int n0)]) (by decide) rfl rfl (Nat.le_of_ble_eq_true rfl) (fun X cx gr hI => ?_)
  refine g_iload_n cx dX5_kind_0 1 rfl ?_
  refine g_SPi (rest := []) (As := [.int h0]) cx hYX5_isHouse gX5_kind_X5_isHouse (c_X5_isHouse l E h0 ) ⟨Nat.le_of_ble_eq_true rfl, Nat.le_of_ble_eq_true rfl⟩ rfl rfl (Nat.le_of_ble_eq_true rfl) ⟨Nat.le_of_ble_eq_true rfl, Nat.le_of_ble_eq_true rfl⟩ dX5_kind_1 ?_
  refine g_if_eq (tgt := 14) cx dX5_kind_4 (by decide) (fun c_1 => ?_) (fun c_1 => ?_)
  · refine g_aload_n cx dX5_kind_14 0 rfl ?_
    refine g_ldc cx m1X5_kind_c61 dX5_kind_15 ?_
    refine g_VSi (rest := []) (As := [.int (-1000000001)]) cx hYX5_finding gX5_kind_X5_finding (c_X5_finding l E a c g (-1000000001) (by unfold vp_in; decide +kernel)) rfl rfl rfl ⟨Nat.le_of_ble_eq_true rfl, Nat.le_of_ble_eq_true rfl⟩ rfl rfl (Nat.le_of_ble_eq_true rfl) ⟨Nat.le_of_ble_eq_true rfl, Nat.le_of_ble_eq_true rfl⟩ dX5_kind_17 (fun r w1 hp => ?_)
    obtain ⟨rfl, rfl⟩ := hp
    exact g_iret cx gr (Nat.zero_le _) (Nat.zero_le _) dX5_kind_20 (xleaf (by first | (simp only [sp_kind, tKind, tMood, tPen, tAte, tHour, tTray, tAt, tRang, tCrack, tTak, tWay, cB, c_1, if_true, if_false]; done) | (simp only [sp_kind, tKind, tMood, tPen, tAte, tHour, tTray, tAt, tRang, tCrack, tTak, tWay, cB, c_1, if_true, if_false] <;> rfl) | (simp [sp_kind, tKind, tMood, tPen, tAte, tHour, tTray, tAt, tRang, tCrack, tTak, tWay, cB, c_1] <;> rfl)))
  · refine g_iload_n cx dX5_kind_7 2 rfl ?_
    refine g_SPi (rest := []) (As := [.int n0]) cx hYX5_isHoursWeighed gX5_kind_X5_isHoursWeighed (c_X5_isHoursWeighed l E n0 ) ⟨Nat.le_of_ble_eq_true rfl, Nat.le_of_ble_eq_true rfl⟩ rfl rfl (Nat.le_of_ble_eq_true rfl) ⟨Nat.le_of_ble_eq_true rfl, Nat.le_of_ble_eq_true rfl⟩ dX5_kind_8 ?_
    refine g_if_ne (tgt := 21) cx dX5_kind_11 (by decide) (fun c_2 => ?_) (fun c_2 => ?_)
    · have hhv := (isW_vp 7 c_1 (by decide))
      obtain ⟨N, hN1, hN, rfl⟩ := isW_nI1 60 c_2 (by decide)
      have hNc : (nI N).toNatClampNeg = N := nI_clamp (by omega)
      refine g_iconst (v := 0) cx dX5_kind_21 (by decide) ?_
      refine g_istore_n (lv' := [(3, .int 0), (0, .ref (a 0)), (1, .int h0), (2, .int (nI N))]) cx dX5_kind_22 (by decide) rfl ?_
      refine g_iconst (v := (-1)) cx dX5_kind_23 (by decide) ?_
      refine g_istore (lv' := [(4, .int (-1)), (3, .int 0), (0, .ref (a 0)), (1, .int h0), (2, .int (nI N))]) cx dX5_kind_24 (by decide) rfl ?_
      refine g_iconst (v := 0) cx dX5_kind_26 (by decide) ?_
      refine g_istore (lv' := [(5, .int 0), (4, .int (-1)), (3, .int 0), (0, .ref (a 0)), (1, .int h0), (2, .int (nI N))]) cx dX5_kind_27 (by decide) rfl ?_
      have LP29 : ∀ (d : Nat) (i : Nat) (x : Int32) (b : Int32) (y : Int32) (u : Ter), i + d = 7 → i ≤ 6 → x = nI i → (b, y) = bst (fun v => tAte (goHs N (tPut c.1 (spot h0 0).toNatClampNeg (nI v))) h0.toNatClampNeg) i → gG X 0 0 (xW E a c (u, g.2.1, g.2.2.1, g.2.2.2.1, g.2.2.2.2)) 29 [(0, .ref (a 0)), (1, .int h0), (2, .int (nI N)), (3, .int b), (4, .int y), (5, .int x)] [] := by
        intro d
        induction d with
        | zero =>
          intro i x b y u hi hiN hx hb
          omega
        | succ d ih =>
          intro i x b y u hi hiN hx hb
          refine g_iload cx dX5_kind_29 5 rfl ?_
          refine g_bipush (v := 6) cx dX5_kind_31 (by decide) ?_
          refine g_icmp_ge (tgt := 100) cx dX5_kind_33 (by decide) (fun c_3 => ?_) (fun c_3 => ?_)
          · refine g_iload_n cx dX5_kind_100 3 rfl ?_
            exact g_iret cx gr (Nat.zero_le _) (Nat.zero_le _) dX5_kind_101 (xleaf (by rw [show i = 6 by have := ge_of 6 hx c_3 (by omega) (by decide); omega] at hb; rw [sp_kind, if_neg c_1, if_neg c_2, hNc, ← hb]))
          · refine g_aload_n cx dX5_kind_36 0 rfl ?_
            refine g_get (C := RX5) (T := TX5) (N := 8) (v := .ref (a 6)) cx iwX5_kind_X5 0 1 rfl rfl (by decide) lkX5_kind_16 rfl dX5_kind_37 ?_
            refine g_aload_n cx dX5_kind_40 0 rfl ?_
            refine g_get (C := RX5) (T := TX5) (N := 8) (v := .ref (a 1)) cx iwX5_kind_X5 0 0 rfl rfl (by decide) lkX5_kind_10 rfl dX5_kind_41 ?_
            refine g_XBtp cx gX5_kind_X3_become ⟨Nat.le_of_ble_eq_true rfl, Nat.le_of_ble_eq_true rfl⟩ (Nat.le_of_ble_eq_true rfl) dX5_kind_44 ?_ (Nat.zero_le _) (Nat.zero_le _)
            refine g_aload_n cx dX5_kind_47 0 rfl ?_
            refine g_get (C := RX5) (T := TX5) (N := 8) (v := .ref (a 6)) cx iwX5_kind_X5 0 1 rfl rfl (by decide) lkX5_kind_16 rfl dX5_kind_48 ?_
            refine g_get (C := RX3) (T := TX3) (N := 11) (v := .ref (a 7)) cx iwX5_kind_X3 6 7 rfl rfl (by decide) lkX5_kind_110 rfl dX5_kind_51 ?_
            refine g_iload_n cx dX5_kind_54 1 rfl ?_
            refine g_iload cx dX5_kind_55 5 rfl ?_
            refine g_iast (ws' := (xW E a c ((c.1.1, c.1.2.1, c.1.2.2.1, c.1.2.2.2.1, c.1.2.2.2.2.1, c.1.2.2.2.2.2.1, c.1.2.2.2.2.2.2.1, upd c.1.2.2.2.2.2.2.2.1 h0.toNatClampNeg x, c.1.2.2.2.2.2.2.2.2.1, c.1.2.2.2.2.2.2.2.2.2.1, c.1.2.2.2.2.2.2.2.2.2.2), g.2.1, g.2.2.1, g.2.2.2.1, g.2.2.2.2))) cx 7 rfl rfl hhv dX5_kind_57 rfl ?_
            refine g_aload_n cx dX5_kind_58 0 rfl ?_
            refine g_get (C := RX5) (T := TX5) (N := 8) (v := .ref (a 6)) cx iwX5_kind_X5 0 1 rfl rfl (by decide) lkX5_kind_16 rfl dX5_kind_59 ?_
            refine g_iload_n cx dX5_kind_62 2 rfl ?_
            refine g_Xtv (rest := []) (As := [.int (nI N)]) cx hYX3_goHours gX5_kind_X3_goHours (c_X3_goHours l E (fun i => a (6 + i)) (c.1.1, c.1.2.1, c.1.2.2.1, c.1.2.2.2.1, c.1.2.2.2.2.1, c.1.2.2.2.2.2.1, c.1.2.2.2.2.2.2.1, upd c.1.2.2.2.2.2.2.2.1 h0.toNatClampNeg x, c.1.2.2.2.2.2.2.2.2.1, c.1.2.2.2.2.2.2.2.2.2.1, c.1.2.2.2.2.2.2.2.2.2.2) N hok.1.1 (by omega)) rfl ⟨Nat.le_of_ble_eq_true rfl, Nat.le_of_ble_eq_true rfl⟩ rfl rfl (Nat.le_of_ble_eq_true rfl) ⟨Nat.le_of_ble_eq_true rfl, Nat.le_of_ble_eq_true rfl⟩ dX5_kind_63 ?_
            refine g_aload_n cx dX5_kind_66 0 rfl ?_
            refine g_get (C := RX5) (T := TX5) (N := 8) (v := .ref (a 6)) cx iwX5_kind_X5 0 1 rfl rfl (by decide) lkX5_kind_16 rfl dX5_kind_67 ?_
            refine g_get (C := RX3) (T := TX3) (N := 11) (v := .ref (a 10)) cx iwX5_kind_X3 6 10 rfl rfl (by decide) lkX5_kind_119 rfl dX5_kind_70 ?_
            refine g_iload_n cx dX5_kind_73 1 rfl ?_
            refine g_iald cx 10 rfl rfl hhv dX5_kind_74 ?_
            refine g_iload cx dX5_kind_75 4 rfl ?_
            refine g_icmp_le (tgt := 94) cx dX5_kind_77 (by decide) (fun c_4 => ?_) (fun c_4 => ?_)
            · refine g_iinc (v := x + 1) (lv' := [(5, .int (x + 1)), (0, .ref (a 0)), (1, .int h0), (2, .int (nI N)), (3, .int b), (4, .int y)]) cx dX5_kind_94 5 rfl rfl (by decide) rfl ?_
              refine g_goto (tgt := 29) cx dX5_kind_97 (by decide) ?_
              exact g_lv [1, 2, 3, 4, 5, 0] rfl (ih (i + 1) (x + 1) b y (goHs N (c.1.1, c.1.2.1, c.1.2.2.1, c.1.2.2.2.1, c.1.2.2.2.2.1, c.1.2.2.2.2.2.1, c.1.2.2.2.2.2.2.1, upd c.1.2.2.2.2.2.2.2.1 h0.toNatClampNeg x, c.1.2.2.2.2.2.2.2.2.1, c.1.2.2.2.2.2.2.2.2.2.1, c.1.2.2.2.2.2.2.2.2.2.2)) (by omega) (by have := lt_of 6 hx c_3 (by omega) (by decide); omega) (by rw [hx]; exact nI_1 i) (bst_le hb (by rw [tput_K hhv, ← hx]) c_4))
            · refine g_aload_n cx dX5_kind_80 0 rfl ?_
              refine g_get (C := RX5) (T := TX5) (N := 8) (v := .ref (a 6)) cx iwX5_kind_X5 0 1 rfl rfl (by decide) lkX5_kind_16 rfl dX5_kind_81 ?_
              refine g_get (C := RX3) (T := TX3) (N := 11) (v := .ref (a 10)) cx iwX5_kind_X3 6 10 rfl rfl (by decide) lkX5_kind_119 rfl dX5_kind_84 ?_
              refine g_iload_n cx dX5_kind_87 1 rfl ?_
              refine g_iald cx 10 rfl rfl hhv dX5_kind_88 ?_
              refine g_istore (lv' := [(4, .int (((goHs N (c.1.1, c.1.2.1, c.1.2.2.1, c.1.2.2.2.1, c.1.2.2.2.2.1, c.1.2.2.2.2.2.1, c.1.2.2.2.2.2.2.1, upd c.1.2.2.2.2.2.2.2.1 h0.toNatClampNeg x, c.1.2.2.2.2.2.2.2.2.1, c.1.2.2.2.2.2.2.2.2.2.1, c.1.2.2.2.2.2.2.2.2.2.2)).2.2.2.2.2.2.2.2.2.2) (h0.toNatClampNeg))), (0, .ref (a 0)), (1, .int h0), (2, .int (nI N)), (3, .int b), (5, .int x)]) cx dX5_kind_89 (by decide) rfl ?_
              refine g_iload cx dX5_kind_91 5 rfl ?_
              refine g_istore_n (lv' := [(3, .int x), (4, .int (((goHs N (c.1.1, c.1.2.1, c.1.2.2.1, c.1.2.2.2.1, c.1.2.2.2.2.1, c.1.2.2.2.2.2.1, c.1.2.2.2.2.2.2.1, upd c.1.2.2.2.2.2.2.2.1 h0.toNatClampNeg x, c.1.2.2.2.2.2.2.2.2.1, c.1.2.2.2.2.2.2.2.2.2.1, c.1.2.2.2.2.2.2.2.2.2.2)).2.2.2.2.2.2.2.2.2.2) (h0.toNatClampNeg))), (0, .ref (a 0)), (1, .int h0), (2, .int (nI N)), (5, .int x)]) cx dX5_kind_93 (by decide) rfl ?_
              refine g_iinc (v := x + 1) (lv' := [(5, .int (x + 1)), (3, .int x), (4, .int (((goHs N (c.1.1, c.1.2.1, c.1.2.2.1, c.1.2.2.2.1, c.1.2.2.2.2.1, c.1.2.2.2.2.2.1, c.1.2.2.2.2.2.2.1, upd c.1.2.2.2.2.2.2.2.1 h0.toNatClampNeg x, c.1.2.2.2.2.2.2.2.2.1, c.1.2.2.2.2.2.2.2.2.2.1, c.1.2.2.2.2.2.2.2.2.2.2)).2.2.2.2.2.2.2.2.2.2) (h0.toNatClampNeg))), (0, .ref (a 0)), (1, .int h0), (2, .int (nI N))]) cx dX5_kind_94 5 rfl rfl (by decide) rfl ?_
              refine g_goto (tgt := 29) cx dX5_kind_97 (by decide) ?_
              exact g_lv [3, 4, 5, 1, 2, 0] rfl (ih (i + 1) (x + 1) x (((goHs N (c.1.1, c.1.2.1, c.1.2.2.1, c.1.2.2.2.1, c.1.2.2.2.2.1, c.1.2.2.2.2.2.1, c.1.2.2.2.2.2.2.1, upd c.1.2.2.2.2.2.2.2.1 h0.toNatClampNeg x, c.1.2.2.2.2.2.2.2.2.1, c.1.2.2.2.2.2.2.2.2.2.1, c.1.2.2.2.2.2.2.2.2.2.2)).2.2.2.2.2.2.2.2.2.2) (h0.toNatClampNeg)) (goHs N (c.1.1, c.1.2.1, c.1.2.2.1, c.1.2.2.2.1, c.1.2.2.2.2.1, c.1.2.2.2.2.2.1, c.1.2.2.2.2.2.2.1, upd c.1.2.2.2.2.2.2.2.1 h0.toNatClampNeg x, c.1.2.2.2.2.2.2.2.2.1, c.1.2.2.2.2.2.2.2.2.2.1, c.1.2.2.2.2.2.2.2.2.2.2)) (by omega) (by have := lt_of 6 hx c_3 (by omega) (by decide); omega) (by rw [hx]; exact nI_1 i) (bst_gt hb (by rw [tput_K hhv, ← hx]) c_4 hx))
      exact g_lv [3, 4, 5, 2, 1, 0] rfl (LP29 7 0 0 0 (-1) g.1 (by omega) (by omega) rfl rfl)
    · refine g_aload_n cx dX5_kind_14 0 rfl ?_
      refine g_ldc cx m1X5_kind_c61 dX5_kind_15 ?_
      refine g_VSi (rest := []) (As := [.int (-1000000001)]) cx hYX5_finding gX5_kind_X5_finding (c_X5_finding l E a c g (-1000000001) (by unfold vp_in; decide +kernel)) rfl rfl rfl ⟨Nat.le_of_ble_eq_true rfl, Nat.le_of_ble_eq_true rfl⟩ rfl rfl (Nat.le_of_ble_eq_true rfl) ⟨Nat.le_of_ble_eq_true rfl, Nat.le_of_ble_eq_true rfl⟩ dX5_kind_17 (fun r w1 hp => ?_)
      obtain ⟨rfl, rfl⟩ := hp
      exact g_iret cx gr (Nat.zero_le _) (Nat.zero_le _) dX5_kind_20 (xleaf (by first | (simp only [sp_kind, tKind, tMood, tPen, tAte, tHour, tTray, tAt, tRang, tCrack, tTak, tWay, cB, c_1, c_2, if_true, if_false]; done) | (simp only [sp_kind, tKind, tMood, tPen, tAte, tHour, tTray, tAt, tRang, tCrack, tTak, tWay, cB, c_1, c_2, if_true, if_false] <;> rfl) | (simp [sp_kind, tKind, tMood, tPen, tAte, tHour, tTray, tAt, tRang, tCrack, tTak, tWay, cB, c_1, c_2] <;> rfl)))

theorem way_k {c : Cor} {N : Nat} (hok : cOk c) : (bst (fun v => sumN (tMood (goHs N (tPut c.1 2 (nI v)))) 8) 2).1 = if sumN (tMood (goHs N (c.1.1, c.1.2.1, 1, c.1.2.2.2))) 8 ≤ sumN (tMood (goHs N (c.1.1, c.1.2.1, 0, c.1.2.2.2))) 8 then 0 else 1 := by
  have e : ∀ v, tPut c.1 2 (nI v) = (c.1.1, c.1.2.1, nI v, c.1.2.2.2) := fun v => put_2 c.1 (nI v)
  rw [bst_2]
  · show (if sumN (tMood (goHs N (tPut c.1 2 (nI 1)))) 8 ≤ sumN (tMood (goHs N (tPut c.1 2 (nI 0)))) 8 then (0 : Int32) else 1) = _
    rw [e, e]
    rfl
  · show ¬ sumN (tMood (goHs N (tPut c.1 2 (nI 0)))) 8 ≤ -1
    rw [e]
    exact sum_pos (goHs_mood N (t := (c.1.1, c.1.2.1, nI 0, c.1.2.2.2)) hok.1.2.2.1)

abbrev rmX5_way : Room := { frames := 6, cells := 0, slots := 0, locals := 134 }
theorem hYX5_way : gY yX5_way wsX5_way cX5_way 2 (some .int) 1 := ⟨⟨_, rfl⟩, by decide +kernel, by decide +kernel, by decide +kernel⟩
theorem m1X5_way_c61 : Cond.constant RX5 61 (-1000000001) ∈ wsX5_way := by decide +kernel
set_option maxRecDepth 100000 in
set_option maxHeartbeats 4000000 in
theorem c_X5_way (l : Launch) (E : gE) (a : Nat → Nat) (c : Cor) (g : Gar) (n0 : Int32) (hok : cOk c) : cti l yX5_way wsX5_way rmX5_way E [.ref (a 0), .int n0] (xW E a c g) (fun r w => ∃ g', r = (sp_way c n0).1 ∧ w = xW E a (sp_way c n0).2 g') := by
  refine mt_i (cc := cX5_way) (maxL := 2) (ret := some .int) (lv0 := [(0, .ref (a 0)), (1, .int n0)]) (by decide) rfl rfl (Nat.le_of_ble_eq_true rfl) (fun X cx gr hI => ?_)
  refine g_iload_n cx dX5_way_0 1 rfl ?_
  refine g_SPi (rest := []) (As := [.int n0]) cx hYX5_isHoursWeighed gX5_way_X5_isHoursWeighed (c_X5_isHoursWeighed l E n0 ) ⟨Nat.le_of_ble_eq_true rfl, Nat.le_of_ble_eq_true rfl⟩ rfl rfl (Nat.le_of_ble_eq_true rfl) ⟨Nat.le_of_ble_eq_true rfl, Nat.le_of_ble_eq_true rfl⟩ dX5_way_1 ?_
  refine g_if_ne (tgt := 14) cx dX5_way_4 (by decide) (fun c_1 => ?_) (fun c_1 => ?_)
  · obtain ⟨N, hN1, hN, rfl⟩ := isW_nI1 60 c_1 (by decide)
    have hNc : (nI N).toNatClampNeg = N := nI_clamp (by omega)
    refine g_aload_n cx dX5_way_14 0 rfl ?_
    refine g_iconst (v := 1) cx dX5_way_15 (by decide) ?_
    refine g_iload_n cx dX5_way_16 1 rfl ?_
    refine g_VSi (rest := []) (As := [.int 1, .int (nI N)]) cx hYX5_moodsGoing gX5_way_X5_moodsGoing (c_X5_moodsGoing l E a c g 1 N hok.1.1 (by omega)) rfl rfl rfl ⟨Nat.le_of_ble_eq_true rfl, Nat.le_of_ble_eq_true rfl⟩ rfl rfl (Nat.le_of_ble_eq_true rfl) ⟨Nat.le_of_ble_eq_true rfl, Nat.le_of_ble_eq_true rfl⟩ dX5_way_17 (fun r w1 hp => ?_)
    obtain ⟨rfl, rfl⟩ := hp
    refine g_aload_n cx dX5_way_20 0 rfl ?_
    refine g_iconst (v := 0) cx dX5_way_21 (by decide) ?_
    refine g_iload_n cx dX5_way_22 1 rfl ?_
    refine g_VSi (rest := [.int (sumN (goHs N (c.1.1, c.1.2.1, 1, c.1.2.2.2.1, c.1.2.2.2.2.1, c.1.2.2.2.2.2.1, c.1.2.2.2.2.2.2.1, c.1.2.2.2.2.2.2.2.1, c.1.2.2.2.2.2.2.2.2.1, c.1.2.2.2.2.2.2.2.2.2.1, c.1.2.2.2.2.2.2.2.2.2.2)).2.2.2.2.2.2.2.2.1 8)]) (As := [.int 0, .int (nI N)]) cx hYX5_moodsGoing gX5_way_X5_moodsGoing (c_X5_moodsGoing l E a c ((goHs N (c.1.1, c.1.2.1, 1, c.1.2.2.2.1, c.1.2.2.2.2.1, c.1.2.2.2.2.2.1, c.1.2.2.2.2.2.2.1, c.1.2.2.2.2.2.2.2.1, c.1.2.2.2.2.2.2.2.2.1, c.1.2.2.2.2.2.2.2.2.2.1, c.1.2.2.2.2.2.2.2.2.2.2)), g.2.1, g.2.2.1, g.2.2.2.1, g.2.2.2.2) 0 N hok.1.1 (by omega)) rfl rfl rfl ⟨Nat.le_of_ble_eq_true rfl, Nat.le_of_ble_eq_true rfl⟩ rfl rfl (Nat.le_of_ble_eq_true rfl) ⟨Nat.le_of_ble_eq_true rfl, Nat.le_of_ble_eq_true rfl⟩ dX5_way_23 (fun r w1 hp => ?_)
    obtain ⟨rfl, rfl⟩ := hp
    refine g_icmp_le (tgt := 33) cx dX5_way_26 (by decide) (fun c_2 => ?_) (fun c_2 => ?_)
    · refine g_iconst (v := 0) cx dX5_way_33 (by decide) ?_
      exact g_iret cx gr (Nat.zero_le _) (Nat.zero_le _) dX5_way_34 (xleaf (by rw [sp_way, if_neg c_1, hNc, way_k hok]; rw [if_pos c_2]))
    · refine g_iconst (v := 1) cx dX5_way_29 (by decide) ?_
      refine g_goto (tgt := 34) cx dX5_way_30 (by decide) ?_
      exact g_iret cx gr (Nat.zero_le _) (Nat.zero_le _) dX5_way_34 (xleaf (by rw [sp_way, if_neg c_1, hNc, way_k hok]; rw [if_neg c_2]))
  · refine g_aload_n cx dX5_way_7 0 rfl ?_
    refine g_ldc cx m1X5_way_c61 dX5_way_8 ?_
    refine g_VSi (rest := []) (As := [.int (-1000000001)]) cx hYX5_finding gX5_way_X5_finding (c_X5_finding l E a c g (-1000000001) (by unfold vp_in; decide +kernel)) rfl rfl rfl ⟨Nat.le_of_ble_eq_true rfl, Nat.le_of_ble_eq_true rfl⟩ rfl rfl (Nat.le_of_ble_eq_true rfl) ⟨Nat.le_of_ble_eq_true rfl, Nat.le_of_ble_eq_true rfl⟩ dX5_way_10 (fun r w1 hp => ?_)
    obtain ⟨rfl, rfl⟩ := hp
    exact g_iret cx gr (Nat.zero_le _) (Nat.zero_le _) dX5_way_13 (xleaf (by first | (simp only [sp_way, tKind, tMood, tPen, tAte, tHour, tTray, tAt, tRang, tCrack, tTak, tWay, cB, c_1, if_true, if_false]; done) | (simp only [sp_way, tKind, tMood, tPen, tAte, tHour, tTray, tAt, tRang, tCrack, tTak, tWay, cB, c_1, if_true, if_false] <;> rfl) | (simp [sp_way, tKind, tMood, tPen, tAte, tHour, tTray, tAt, tRang, tCrack, tTak, tWay, cB, c_1] <;> rfl)))

abbrev rmX5_enough : Room := { frames := 5, cells := 0, slots := 0, locals := 112 }
theorem hYX5_enough : gY yX5_enough wsX5_enough cX5_enough 3 (some .int) 1 := ⟨⟨_, rfl⟩, by decide +kernel, by decide +kernel, by decide +kernel⟩
theorem m1X5_enough_c173 : Cond.constant RX5 173 (-1000000004) ∈ wsX5_enough := by decide +kernel
theorem iwX5_enough_X5 : ∀ w ∈ u_ws RX5 TX5 8, w ∈ wsX5_enough := by decide +kernel
theorem lkX5_enough_16 : Cond.fieldLink RX5 16 "MuffinBells" "trial" "LMuffinBells$Terrace;" ∈ wsX5_enough := by decide +kernel
theorem lkX5_enough_10 : Cond.fieldLink RX5 10 "MuffinBells" "present" "LMuffinBells$Terrace;" ∈ wsX5_enough := by decide +kernel
theorem iwX5_enough_X3 : ∀ w ∈ u_ws RX3 TX3 11, w ∈ wsX5_enough := by decide +kernel
theorem lkX5_enough_94 : Cond.fieldLink RX5 94 "MuffinBells$Terrace" "tray" "I" ∈ wsX5_enough := by decide +kernel
theorem m1X5_enough_c61 : Cond.constant RX5 61 (-1000000001) ∈ wsX5_enough := by decide +kernel
set_option maxRecDepth 100000 in
set_option maxHeartbeats 4000000 in
theorem c_X5_enough (l : Launch) (E : gE) (a : Nat → Nat) (c : Cor) (g : Gar) (n0 : Int32) (hok : cOk c) : cti l yX5_enough wsX5_enough rmX5_enough E [.ref (a 0), .int n0] (xW E a c g) (fun r w => ∃ g', r = (sp_enough c n0).1 ∧ w = xW E a (sp_enough c n0).2 g') := by
  refine mt_i (cc := cX5_enough) (maxL := 3) (ret := some .int) (lv0 := [(0, .ref (a 0)), (1, .int n0)]) (by decide) rfl rfl (Nat.le_of_ble_eq_true rfl) (fun X cx gr hI => ?_)
  refine g_iload_n cx dX5_enough_0 1 rfl ?_
  refine g_SPi (rest := []) (As := [.int n0]) cx hYX5_isHoursWeighed gX5_enough_X5_isHoursWeighed (c_X5_isHoursWeighed l E n0 ) ⟨Nat.le_of_ble_eq_true rfl, Nat.le_of_ble_eq_true rfl⟩ rfl rfl (Nat.le_of_ble_eq_true rfl) ⟨Nat.le_of_ble_eq_true rfl, Nat.le_of_ble_eq_true rfl⟩ dX5_enough_1 ?_
  refine g_if_ne (tgt := 14) cx dX5_enough_4 (by decide) (fun c_1 => ?_) (fun c_1 => ?_)
  · obtain ⟨N, hN1, hN, rfl⟩ := isW_nI1 60 c_1 (by decide)
    have hNc : (nI N).toNatClampNeg = N := nI_clamp (by omega)
    refine g_iconst (v := 0) cx dX5_enough_14 (by decide) ?_
    refine g_istore_n (lv' := [(2, .int 0), (0, .ref (a 0)), (1, .int (nI N))]) cx dX5_enough_15 (by decide) rfl ?_
    have LP16 : ∀ (d : Nat) (i : Nat) (x : Int32) (u : Ter), i + d = 201 → i ≤ 200 → x = nI i → frst (enB c.1 N) 200 0 = frst (enB c.1 N) (200 - i) i → gG X 0 0 (xW E a c (u, g.2.1, g.2.2.1, g.2.2.2.1, g.2.2.2.2)) 16 [(0, .ref (a 0)), (1, .int (nI N)), (2, .int x)] [] := by
      intro d
      induction d with
      | zero =>
        intro i x u hi hiN hx hf
        omega
      | succ d ih =>
        intro i x u hi hiN hx hf
        refine g_iload_n cx dX5_enough_16 2 rfl ?_
        refine g_sipush (v := 199) cx dX5_enough_17 (by decide) ?_
        refine g_icmp_gt (tgt := 68) cx dX5_enough_20 (by decide) (fun c_2 => ?_) (fun c_2 => ?_)
        · refine g_aload_n cx dX5_enough_68 0 rfl ?_
          refine g_ldc cx m1X5_enough_c173 dX5_enough_69 ?_
          refine g_VSi (rest := []) (As := [.int (-1000000004)]) cx hYX5_finding gX5_enough_X5_finding (c_X5_finding l E a c (u, g.2.1, g.2.2.1, g.2.2.2.1, g.2.2.2.2) (-1000000004) (by unfold vp_in; decide +kernel)) rfl rfl rfl ⟨Nat.le_of_ble_eq_true rfl, Nat.le_of_ble_eq_true rfl⟩ rfl rfl (Nat.le_of_ble_eq_true rfl) ⟨Nat.le_of_ble_eq_true rfl, Nat.le_of_ble_eq_true rfl⟩ dX5_enough_71 (fun r w1 hp => ?_)
          obtain ⟨rfl, rfl⟩ := hp
          exact g_iret cx gr (Nat.zero_le _) (Nat.zero_le _) dX5_enough_74 (xleaf (by rw [sp_enough, if_neg c_1, hNc, hf, show 200 - i = 0 by have := gt_of 199 hx c_2 (by omega) (by decide); omega]; exact cN_n rfl))
        · refine g_aload_n cx dX5_enough_23 0 rfl ?_
          refine g_get (C := RX5) (T := TX5) (N := 8) (v := .ref (a 6)) cx iwX5_enough_X5 0 1 rfl rfl (by decide) lkX5_enough_16 rfl dX5_enough_24 ?_
          refine g_aload_n cx dX5_enough_27 0 rfl ?_
          refine g_get (C := RX5) (T := TX5) (N := 8) (v := .ref (a 1)) cx iwX5_enough_X5 0 0 rfl rfl (by decide) lkX5_enough_10 rfl dX5_enough_28 ?_
          refine g_XBtp cx gX5_enough_X3_become ⟨Nat.le_of_ble_eq_true rfl, Nat.le_of_ble_eq_true rfl⟩ (Nat.le_of_ble_eq_true rfl) dX5_enough_31 ?_ (Nat.zero_le _) (Nat.zero_le _)
          refine g_aload_n cx dX5_enough_34 0 rfl ?_
          refine g_get (C := RX5) (T := TX5) (N := 8) (v := .ref (a 6)) cx iwX5_enough_X5 0 1 rfl rfl (by decide) lkX5_enough_16 rfl dX5_enough_35 ?_
          refine g_iload_n cx dX5_enough_38 2 rfl ?_
          refine g_put (C := RX3) (T := TX3) (N := 11) (ws' := (xW E a c ((c.1.1, c.1.2.1, c.1.2.2.1, x, c.1.2.2.2.2.1, c.1.2.2.2.2.2.1, c.1.2.2.2.2.2.2.1, c.1.2.2.2.2.2.2.2.1, c.1.2.2.2.2.2.2.2.2.1, c.1.2.2.2.2.2.2.2.2.2.1, c.1.2.2.2.2.2.2.2.2.2.2), g.2.1, g.2.2.1, g.2.2.2.1, g.2.2.2.2))) cx iwX5_enough_X3 tyX3 tyX3_ok nmX3 6 3 rfl rfl (by decide) lkX5_enough_94 rfl rfl rfl (Nat.le_of_ble_eq_true rfl) dX5_enough_39 rfl ?_
          refine g_aload_n cx dX5_enough_42 0 rfl ?_
          refine g_get (C := RX5) (T := TX5) (N := 8) (v := .ref (a 6)) cx iwX5_enough_X5 0 1 rfl rfl (by decide) lkX5_enough_16 rfl dX5_enough_43 ?_
          refine g_iload_n cx dX5_enough_46 1 rfl ?_
          refine g_Xtv (rest := []) (As := [.int (nI N)]) cx hYX3_goHours gX5_enough_X3_goHours (c_X3_goHours l E (fun i => a (6 + i)) (c.1.1, c.1.2.1, c.1.2.2.1, x, c.1.2.2.2.2.1, c.1.2.2.2.2.2.1, c.1.2.2.2.2.2.2.1, c.1.2.2.2.2.2.2.2.1, c.1.2.2.2.2.2.2.2.2.1, c.1.2.2.2.2.2.2.2.2.2.1, c.1.2.2.2.2.2.2.2.2.2.2) N hok.1.1 (by omega)) rfl ⟨Nat.le_of_ble_eq_true rfl, Nat.le_of_ble_eq_true rfl⟩ rfl rfl (Nat.le_of_ble_eq_true rfl) ⟨Nat.le_of_ble_eq_true rfl, Nat.le_of_ble_eq_true rfl⟩ dX5_enough_47 ?_
          refine g_aload_n cx dX5_enough_50 0 rfl ?_
          refine g_get (C := RX5) (T := TX5) (N := 8) (v := .ref (a 6)) cx iwX5_enough_X5 0 1 rfl rfl (by decide) lkX5_enough_16 rfl dX5_enough_51 ?_
          refine g_get (C := RX3) (T := TX3) (N := 11) (v := .int ((goHs N (c.1.1, c.1.2.1, c.1.2.2.1, x, c.1.2.2.2.2.1, c.1.2.2.2.2.2.1, c.1.2.2.2.2.2.2.1, c.1.2.2.2.2.2.2.2.1, c.1.2.2.2.2.2.2.2.2.1, c.1.2.2.2.2.2.2.2.2.2.1, c.1.2.2.2.2.2.2.2.2.2.2)).2.2.2.1)) cx iwX5_enough_X3 6 3 rfl rfl (by decide) lkX5_enough_94 rfl dX5_enough_54 ?_
          refine g_if_le (tgt := 62) cx dX5_enough_57 (by decide) (fun c_3 => ?_) (fun c_3 => ?_)
          · refine g_iinc (v := x + 1) (lv' := [(2, .int (x + 1)), (0, .ref (a 0)), (1, .int (nI N))]) cx dX5_enough_62 2 rfl rfl (by decide) rfl ?_
            refine g_goto (tgt := 16) cx dX5_enough_65 (by decide) ?_
            exact g_lv [1, 2, 0] rfl (ih (i + 1) (x + 1) (goHs N (c.1.1, c.1.2.1, c.1.2.2.1, x, c.1.2.2.2.2.1, c.1.2.2.2.2.2.1, c.1.2.2.2.2.2.2.1, c.1.2.2.2.2.2.2.2.1, c.1.2.2.2.2.2.2.2.2.1, c.1.2.2.2.2.2.2.2.2.2.1, c.1.2.2.2.2.2.2.2.2.2.2)) (by omega) (by have := le_of 199 hx c_2 (by omega) (by decide); omega) (by rw [hx]; exact nI_1 i) (by rw [hf, show 200 - i = (200 - (i + 1)) + 1 by have := le_of 199 hx c_2 (by omega) (by decide); omega, frst_s (by rw [enB, put_3, ← hx, decide_eq_true_eq]; exact fun q => absurd c_3 (Int32.not_le.mpr q))]))
          · refine g_iload_n cx dX5_enough_60 2 rfl ?_
            exact g_iret cx gr (Nat.zero_le _) (Nat.zero_le _) dX5_enough_61 (xleaf (by rw [sp_enough, if_neg c_1, hNc, hf, show 200 - i = (199 - i) + 1 by have := le_of 199 hx c_2 (by omega) (by decide); omega, frst_k (by rw [enB, put_3, ← hx, decide_eq_true_eq]; exact Int32.not_le.mp c_3), hx]; exact cN_k rfl (by omega)))
    exact g_lv [1, 2, 0] rfl (LP16 201 0 0 g.1 (by omega) (by omega) rfl rfl)
  · refine g_aload_n cx dX5_enough_7 0 rfl ?_
    refine g_ldc cx m1X5_enough_c61 dX5_enough_8 ?_
    refine g_VSi (rest := []) (As := [.int (-1000000001)]) cx hYX5_finding gX5_enough_X5_finding (c_X5_finding l E a c g (-1000000001) (by unfold vp_in; decide +kernel)) rfl rfl rfl ⟨Nat.le_of_ble_eq_true rfl, Nat.le_of_ble_eq_true rfl⟩ rfl rfl (Nat.le_of_ble_eq_true rfl) ⟨Nat.le_of_ble_eq_true rfl, Nat.le_of_ble_eq_true rfl⟩ dX5_enough_10 (fun r w1 hp => ?_)
    obtain ⟨rfl, rfl⟩ := hp
    exact g_iret cx gr (Nat.zero_le _) (Nat.zero_le _) dX5_enough_13 (xleaf (by first | (simp only [sp_enough, tKind, tMood, tPen, tAte, tHour, tTray, tAt, tRang, tCrack, tTak, tWay, cB, c_1, if_true, if_false]; done) | (simp only [sp_enough, tKind, tMood, tPen, tAte, tHour, tTray, tAt, tRang, tCrack, tTak, tWay, cB, c_1, if_true, if_false] <;> rfl) | (simp [sp_enough, tKind, tMood, tPen, tAte, tHour, tTray, tAt, tRang, tCrack, tTak, tWay, cB, c_1] <;> rfl)))

theorem brs_0 {x : Int32} {k : Nat} (hx : x = nI k - 1) (hk : k ≤ 100) (c : x < 0) : k = 0 := by
  rcases k with _ | k
  · rfl
  · rw [hx, nI_pred] at c
    exact absurd c (nI_pos (by omega))

abbrev rmX5_bears : Room := { frames := 5, cells := 0, slots := 0, locals := 112 }
theorem hYX5_bears : gY yX5_bears wsX5_bears cX5_bears 4 (some .int) 2 := ⟨⟨_, rfl⟩, by decide +kernel, by decide +kernel, by decide +kernel⟩
theorem m1X5_bears_c61 : Cond.constant RX5 61 (-1000000001) ∈ wsX5_bears := by decide +kernel
theorem m1X5_bears_c150 : Cond.constant RX5 150 (99999) ∈ wsX5_bears := by decide +kernel
theorem m1X5_bears_c173 : Cond.constant RX5 173 (-1000000004) ∈ wsX5_bears := by decide +kernel
theorem iwX5_bears_X5 : ∀ w ∈ u_ws RX5 TX5 8, w ∈ wsX5_bears := by decide +kernel
theorem lkX5_bears_16 : Cond.fieldLink RX5 16 "MuffinBells" "trial" "LMuffinBells$Terrace;" ∈ wsX5_bears := by decide +kernel
theorem lkX5_bears_10 : Cond.fieldLink RX5 10 "MuffinBells" "present" "LMuffinBells$Terrace;" ∈ wsX5_bears := by decide +kernel
theorem iwX5_bears_X3 : ∀ w ∈ u_ws RX3 TX3 11, w ∈ wsX5_bears := by decide +kernel
theorem lkX5_bears_100 : Cond.fieldLink RX5 100 "MuffinBells$Terrace" "crack" "I" ∈ wsX5_bears := by decide +kernel
theorem lkX5_bears_103 : Cond.fieldLink RX5 103 "MuffinBells$Terrace" "takings" "I" ∈ wsX5_bears := by decide +kernel
set_option maxRecDepth 100000 in
set_option maxHeartbeats 4000000 in
theorem c_X5_bears (l : Launch) (E : gE) (a : Nat → Nat) (c : Cor) (g : Gar) (n0 : Int32) (v0 : Int32) (hok : cOk c) : cti l yX5_bears wsX5_bears rmX5_bears E [.ref (a 0), .int n0, .int v0] (xW E a c g) (fun r w => ∃ g', r = (sp_bears c n0 v0).1 ∧ w = xW E a (sp_bears c n0 v0).2 g') := by
  refine mt_i (cc := cX5_bears) (maxL := 4) (ret := some .int) (lv0 := [(0, .ref (a 0)), (1, .int n0), (2, .int v0)]) (by decide) rfl rfl (Nat.le_of_ble_eq_true rfl) (fun X cx gr hI => ?_)
  refine g_iload_n cx dX5_bears_0 1 rfl ?_
  refine g_SPi (rest := []) (As := [.int n0]) cx hYX5_isHoursWeighed gX5_bears_X5_isHoursWeighed (c_X5_isHoursWeighed l E n0 ) ⟨Nat.le_of_ble_eq_true rfl, Nat.le_of_ble_eq_true rfl⟩ rfl rfl (Nat.le_of_ble_eq_true rfl) ⟨Nat.le_of_ble_eq_true rfl, Nat.le_of_ble_eq_true rfl⟩ dX5_bears_1 ?_
  refine g_if_eq (tgt := 17) cx dX5_bears_4 (by decide) (fun c_1 => ?_) (fun c_1 => ?_)
  · refine g_aload_n cx dX5_bears_17 0 rfl ?_
    refine g_ldc cx m1X5_bears_c61 dX5_bears_18 ?_
    refine g_VSi (rest := []) (As := [.int (-1000000001)]) cx hYX5_finding gX5_bears_X5_finding (c_X5_finding l E a c g (-1000000001) (by unfold vp_in; decide +kernel)) rfl rfl rfl ⟨Nat.le_of_ble_eq_true rfl, Nat.le_of_ble_eq_true rfl⟩ rfl rfl (Nat.le_of_ble_eq_true rfl) ⟨Nat.le_of_ble_eq_true rfl, Nat.le_of_ble_eq_true rfl⟩ dX5_bears_20 (fun r w1 hp => ?_)
    obtain ⟨rfl, rfl⟩ := hp
    exact g_iret cx gr (Nat.zero_le _) (Nat.zero_le _) dX5_bears_23 (xleaf (by first | (simp only [sp_bears, tKind, tMood, tPen, tAte, tHour, tTray, tAt, tRang, tCrack, tTak, tWay, cB, c_1, if_true, if_false]; done) | (simp only [sp_bears, tKind, tMood, tPen, tAte, tHour, tTray, tAt, tRang, tCrack, tTak, tWay, cB, c_1, if_true, if_false] <;> rfl) | (simp [sp_bears, tKind, tMood, tPen, tAte, tHour, tTray, tAt, tRang, tCrack, tTak, tWay, cB, c_1] <;> rfl)))
  · refine g_iload_n cx dX5_bears_7 2 rfl ?_
    refine g_iconst (v := 0) cx dX5_bears_8 (by decide) ?_
    refine g_ldc cx m1X5_bears_c150 dX5_bears_9 ?_
    refine g_SPi (rest := []) (As := [.int v0, .int 0, .int 99999]) cx hYX5_isWithin gX5_bears_X5_isWithin (c_X5_isWithin l E v0 0 99999 ) ⟨Nat.le_of_ble_eq_true rfl, Nat.le_of_ble_eq_true rfl⟩ rfl rfl (Nat.le_of_ble_eq_true rfl) ⟨Nat.le_of_ble_eq_true rfl, Nat.le_of_ble_eq_true rfl⟩ dX5_bears_11 ?_
    refine g_if_ne (tgt := 24) cx dX5_bears_14 (by decide) (fun c_2 => ?_) (fun c_2 => ?_)
    · obtain ⟨N, hN1, hN, rfl⟩ := isW_nI1 60 c_1 (by decide)
      have hNc : (nI N).toNatClampNeg = N := nI_clamp (by omega)
      refine g_bipush (v := 99) cx dX5_bears_24 (by decide) ?_
      refine g_istore_n (lv' := [(3, .int 99), (0, .ref (a 0)), (1, .int (nI N)), (2, .int v0)]) cx dX5_bears_26 (by decide) rfl ?_
      have LP27 : ∀ (d : Nat) (k : Nat) (x : Int32) (u : Ter), d = k + 1 → k ≤ 100 → x = nI k - 1 → brst (beB c.1 N v0) 100 = brst (beB c.1 N v0) k → gG X 0 0 (xW E a c (u, g.2.1, g.2.2.1, g.2.2.2.1, g.2.2.2.2)) 27 [(0, .ref (a 0)), (1, .int (nI N)), (2, .int v0), (3, .int x)] [] := by
        intro d
        induction d with
        | zero =>
          intro k x u hi hk hx hf
          omega
        | succ d ih =>
          intro k x u hi hk hx hf
          refine g_iload_n cx dX5_bears_27 3 rfl ?_
          refine g_if_lt (tgt := 77) cx dX5_bears_28 (by decide) (fun c_3 => ?_) (fun c_3 => ?_)
          · refine g_aload_n cx dX5_bears_77 0 rfl ?_
            refine g_ldc cx m1X5_bears_c173 dX5_bears_78 ?_
            refine g_VSi (rest := []) (As := [.int (-1000000004)]) cx hYX5_finding gX5_bears_X5_finding (c_X5_finding l E a c (u, g.2.1, g.2.2.1, g.2.2.2.1, g.2.2.2.2) (-1000000004) (by unfold vp_in; decide +kernel)) rfl rfl rfl ⟨Nat.le_of_ble_eq_true rfl, Nat.le_of_ble_eq_true rfl⟩ rfl rfl (Nat.le_of_ble_eq_true rfl) ⟨Nat.le_of_ble_eq_true rfl, Nat.le_of_ble_eq_true rfl⟩ dX5_bears_80 (fun r w1 hp => ?_)
            obtain ⟨rfl, rfl⟩ := hp
            exact g_iret cx gr (Nat.zero_le _) (Nat.zero_le _) dX5_bears_83 (xleaf (by rw [sp_bears, if_neg c_1, if_neg c_2, hNc, hf, show k = 0 from brs_0 hx hk c_3]; exact cN_n rfl))
          · obtain ⟨j, rfl⟩ : ∃ j, k = j + 1 := by
              rcases k with _ | k
              · exact absurd (by rw [hx]; decide) c_3
              · exact ⟨k, rfl⟩
            have hxj : x = nI j := by rw [hx, nI_pred]
            refine g_aload_n cx dX5_bears_31 0 rfl ?_
            refine g_get (C := RX5) (T := TX5) (N := 8) (v := .ref (a 6)) cx iwX5_bears_X5 0 1 rfl rfl (by decide) lkX5_bears_16 rfl dX5_bears_32 ?_
            refine g_aload_n cx dX5_bears_35 0 rfl ?_
            refine g_get (C := RX5) (T := TX5) (N := 8) (v := .ref (a 1)) cx iwX5_bears_X5 0 0 rfl rfl (by decide) lkX5_bears_10 rfl dX5_bears_36 ?_
            refine g_XBtp cx gX5_bears_X3_become ⟨Nat.le_of_ble_eq_true rfl, Nat.le_of_ble_eq_true rfl⟩ (Nat.le_of_ble_eq_true rfl) dX5_bears_39 ?_ (Nat.zero_le _) (Nat.zero_le _)
            refine g_aload_n cx dX5_bears_42 0 rfl ?_
            refine g_get (C := RX5) (T := TX5) (N := 8) (v := .ref (a 6)) cx iwX5_bears_X5 0 1 rfl rfl (by decide) lkX5_bears_16 rfl dX5_bears_43 ?_
            refine g_iload_n cx dX5_bears_46 3 rfl ?_
            refine g_put (C := RX3) (T := TX3) (N := 11) (ws' := (xW E a c ((c.1.1, c.1.2.1, c.1.2.2.1, c.1.2.2.2.1, c.1.2.2.2.2.1, x, c.1.2.2.2.2.2.2.1, c.1.2.2.2.2.2.2.2.1, c.1.2.2.2.2.2.2.2.2.1, c.1.2.2.2.2.2.2.2.2.2.1, c.1.2.2.2.2.2.2.2.2.2.2), g.2.1, g.2.2.1, g.2.2.2.1, g.2.2.2.2))) cx iwX5_bears_X3 tyX3 tyX3_ok nmX3 6 5 rfl rfl (by decide) lkX5_bears_100 rfl rfl rfl (Nat.le_of_ble_eq_true rfl) dX5_bears_47 rfl ?_
            refine g_aload_n cx dX5_bears_50 0 rfl ?_
            refine g_get (C := RX5) (T := TX5) (N := 8) (v := .ref (a 6)) cx iwX5_bears_X5 0 1 rfl rfl (by decide) lkX5_bears_16 rfl dX5_bears_51 ?_
            refine g_iload_n cx dX5_bears_54 1 rfl ?_
            refine g_Xtv (rest := []) (As := [.int (nI N)]) cx hYX3_goHours gX5_bears_X3_goHours (c_X3_goHours l E (fun i => a (6 + i)) (c.1.1, c.1.2.1, c.1.2.2.1, c.1.2.2.2.1, c.1.2.2.2.2.1, x, c.1.2.2.2.2.2.2.1, c.1.2.2.2.2.2.2.2.1, c.1.2.2.2.2.2.2.2.2.1, c.1.2.2.2.2.2.2.2.2.2.1, c.1.2.2.2.2.2.2.2.2.2.2) N hok.1.1 (by omega)) rfl ⟨Nat.le_of_ble_eq_true rfl, Nat.le_of_ble_eq_true rfl⟩ rfl rfl (Nat.le_of_ble_eq_true rfl) ⟨Nat.le_of_ble_eq_true rfl, Nat.le_of_ble_eq_true rfl⟩ dX5_bears_55 ?_
            refine g_aload_n cx dX5_bears_58 0 rfl ?_
            refine g_get (C := RX5) (T := TX5) (N := 8) (v := .ref (a 6)) cx iwX5_bears_X5 0 1 rfl rfl (by decide) lkX5_bears_16 rfl dX5_bears_59 ?_
            refine g_get (C := RX3) (T := TX3) (N := 11) (v := .int ((goHs N (c.1.1, c.1.2.1, c.1.2.2.1, c.1.2.2.2.1, c.1.2.2.2.2.1, x, c.1.2.2.2.2.2.2.1, c.1.2.2.2.2.2.2.2.1, c.1.2.2.2.2.2.2.2.2.1, c.1.2.2.2.2.2.2.2.2.2.1, c.1.2.2.2.2.2.2.2.2.2.2)).2.2.2.2.2.2.1)) cx iwX5_bears_X3 6 6 rfl rfl (by decide) lkX5_bears_103 rfl dX5_bears_62 ?_
            refine g_iload_n cx dX5_bears_65 2 rfl ?_
            refine g_icmp_lt (tgt := 71) cx dX5_bears_66 (by decide) (fun c_4 => ?_) (fun c_4 => ?_)
            · refine g_iinc (v := x + (-1)) (lv' := [(3, .int (x + (-1))), (0, .ref (a 0)), (1, .int (nI N)), (2, .int v0)]) cx dX5_bears_71 3 rfl rfl (by decide) rfl ?_
              refine g_goto (tgt := 27) cx dX5_bears_74 (by decide) ?_
              exact g_lv [1, 2, 3, 0] rfl (ih j (x + (-1)) (goHs N (c.1.1, c.1.2.1, c.1.2.2.1, c.1.2.2.2.1, c.1.2.2.2.2.1, x, c.1.2.2.2.2.2.2.1, c.1.2.2.2.2.2.2.2.1, c.1.2.2.2.2.2.2.2.2.1, c.1.2.2.2.2.2.2.2.2.2.1, c.1.2.2.2.2.2.2.2.2.2.2)) (by omega) (by omega) (by rw [hxj]; exact sub1 j) (by rw [hf, brst, if_neg (by rw [beB, put_5, ← hxj, decide_eq_true_eq]; exact fun q => absurd c_4 (Int32.not_lt.mpr q))]))
            · refine g_iload_n cx dX5_bears_69 3 rfl ?_
              exact g_iret cx gr (Nat.zero_le _) (Nat.zero_le _) dX5_bears_70 (xleaf (by rw [sp_bears, if_neg c_1, if_neg c_2, hNc, hf, brst, if_pos (by rw [beB, put_5, ← hxj, decide_eq_true_eq]; exact Int32.not_lt.mp c_4), hxj]; exact cN_k rfl (by omega)))
      exact g_lv [1, 2, 3, 0] rfl (LP27 101 100 99 g.1 (by omega) (by omega) (by decide) rfl)
    · refine g_aload_n cx dX5_bears_17 0 rfl ?_
      refine g_ldc cx m1X5_bears_c61 dX5_bears_18 ?_
      refine g_VSi (rest := []) (As := [.int (-1000000001)]) cx hYX5_finding gX5_bears_X5_finding (c_X5_finding l E a c g (-1000000001) (by unfold vp_in; decide +kernel)) rfl rfl rfl ⟨Nat.le_of_ble_eq_true rfl, Nat.le_of_ble_eq_true rfl⟩ rfl rfl (Nat.le_of_ble_eq_true rfl) ⟨Nat.le_of_ble_eq_true rfl, Nat.le_of_ble_eq_true rfl⟩ dX5_bears_20 (fun r w1 hp => ?_)
      obtain ⟨rfl, rfl⟩ := hp
      exact g_iret cx gr (Nat.zero_le _) (Nat.zero_le _) dX5_bears_23 (xleaf (by first | (simp only [sp_bears, tKind, tMood, tPen, tAte, tHour, tTray, tAt, tRang, tCrack, tTak, tWay, cB, c_1, c_2, if_true, if_false]; done) | (simp only [sp_bears, tKind, tMood, tPen, tAte, tHour, tTray, tAt, tRang, tCrack, tTak, tWay, cB, c_1, c_2, if_true, if_false] <;> rfl) | (simp [sp_bears, tKind, tMood, tPen, tAte, tHour, tTray, tAt, tRang, tCrack, tTak, tWay, cB, c_1, c_2] <;> rfl)))

abbrev rmX5_saddest : Room := { frames := 6, cells := 0, slots := 0, locals := 133 }
theorem hYX5_saddest : gY yX5_saddest wsX5_saddest cX5_saddest 4 (some .int) 1 := ⟨⟨_, rfl⟩, by decide +kernel, by decide +kernel, by decide +kernel⟩
theorem iwX5_saddest_X5 : ∀ w ∈ u_ws RX5 TX5 8, w ∈ wsX5_saddest := by decide +kernel
theorem lkX5_saddest_16 : Cond.fieldLink RX5 16 "MuffinBells" "trial" "LMuffinBells$Terrace;" ∈ wsX5_saddest := by decide +kernel
theorem iwX5_saddest_X3 : ∀ w ∈ u_ws RX3 TX3 11, w ∈ wsX5_saddest := by decide +kernel
theorem lkX5_saddest_113 : Cond.fieldLink RX5 113 "MuffinBells$Terrace" "moods" "[I" ∈ wsX5_saddest := by decide +kernel
theorem m1X5_saddest_c61 : Cond.constant RX5 61 (-1000000001) ∈ wsX5_saddest := by decide +kernel
set_option maxRecDepth 100000 in
set_option maxHeartbeats 4000000 in
theorem c_X5_saddest (l : Launch) (E : gE) (a : Nat → Nat) (c : Cor) (g : Gar) (n0 : Int32) (hok : cOk c) : cti l yX5_saddest wsX5_saddest rmX5_saddest E [.ref (a 0), .int n0] (xW E a c g) (fun r w => ∃ g', r = (sp_saddest c n0).1 ∧ w = xW E a (sp_saddest c n0).2 g') := by
  refine mt_i (cc := cX5_saddest) (maxL := 4) (ret := some .int) (lv0 := [(0, .ref (a 0)), (1, .int n0)]) (by decide) rfl rfl (Nat.le_of_ble_eq_true rfl) (fun X cx gr hI => ?_)
  refine g_iload_n cx dX5_saddest_0 1 rfl ?_
  refine g_SPi (rest := []) (As := [.int n0]) cx hYX5_isHoursOn gX5_saddest_X5_isHoursOn (c_X5_isHoursOn l E n0 ) ⟨Nat.le_of_ble_eq_true rfl, Nat.le_of_ble_eq_true rfl⟩ rfl rfl (Nat.le_of_ble_eq_true rfl) ⟨Nat.le_of_ble_eq_true rfl, Nat.le_of_ble_eq_true rfl⟩ dX5_saddest_1 ?_
  refine g_if_ne (tgt := 14) cx dX5_saddest_4 (by decide) (fun c_1 => ?_) (fun c_1 => ?_)
  · obtain ⟨N, hN, rfl⟩ := isW_nI 200 c_1 (by decide)
    have hNc : (nI N).toNatClampNeg = N := nI_clamp (by omega)
    refine g_aload_n cx dX5_saddest_14 0 rfl ?_
    refine g_iload_n cx dX5_saddest_15 1 rfl ?_
    refine g_VSv (rest := []) (As := [.int (nI N)]) cx hYX5_goOn gX5_saddest_X5_goOn (c_X5_goOn l E a c g N hok.1.1 (by omega)) rfl rfl rfl ⟨Nat.le_of_ble_eq_true rfl, Nat.le_of_ble_eq_true rfl⟩ rfl rfl (Nat.le_of_ble_eq_true rfl) ⟨Nat.le_of_ble_eq_true rfl, Nat.le_of_ble_eq_true rfl⟩ dX5_saddest_16 (fun w1 hp => ?_)
    obtain rfl := hp
    refine g_iconst (v := 0) cx dX5_saddest_19 (by decide) ?_
    refine g_istore_n (lv' := [(2, .int 0), (0, .ref (a 0)), (1, .int (nI N))]) cx dX5_saddest_20 (by decide) rfl ?_
    refine g_iconst (v := 1) cx dX5_saddest_21 (by decide) ?_
    refine g_istore_n (lv' := [(3, .int 1), (2, .int 0), (0, .ref (a 0)), (1, .int (nI N))]) cx dX5_saddest_22 (by decide) rfl ?_
    have LP23 : ∀ (d : Nat) (i : Nat) (x : Int32) (y : Int32) (q : Nat), i + d = 9 → i ≤ 8 → 1 ≤ i → x = nI i → y = nI q → q < 8 → sadL (goHs N c.1).2.2.2.2.2.2.2.2.1 7 1 0 = sadL (goHs N c.1).2.2.2.2.2.2.2.2.1 (8 - i) i q → gG X 0 0 (xW E a c ((goHs N c.1), g.2.1, g.2.2.1, g.2.2.2.1, g.2.2.2.2)) 23 [(0, .ref (a 0)), (2, .int y), (3, .int x)] [] := by
      intro d
      induction d with
      | zero =>
        intro i x y q hi hiN hi1 hx hy hq hs
        omega
      | succ d ih =>
        intro i x y q hi hiN hi1 hx hy hq hs
        refine g_iload_n cx dX5_saddest_23 2 rfl ?_
        refine g_bipush (v := 8) cx dX5_saddest_24 (by decide) ?_
        refine g_icmp_ge (tgt := 58) cx dX5_saddest_26 (by decide) (fun c_2 => ?_) (fun c_2 => ?_)
        · refine g_iload_n cx dX5_saddest_58 1 rfl ?_
          exact g_iret cx gr (Nat.zero_le _) (Nat.zero_le _) dX5_saddest_59 (xleaf (by rw [sp_saddest, if_neg c_1, hNc, hs, show 8 - i = 0 by have := ge_of 8 hx c_2 (by omega) (by decide); omega, hy]; rfl))
        · refine g_aload_n cx dX5_saddest_29 0 rfl ?_
          refine g_get (C := RX5) (T := TX5) (N := 8) (v := .ref (a 6)) cx iwX5_saddest_X5 0 1 rfl rfl (by decide) lkX5_saddest_16 rfl dX5_saddest_30 ?_
          refine g_get (C := RX3) (T := TX3) (N := 11) (v := .ref (a 8)) cx iwX5_saddest_X3 6 8 rfl rfl (by decide) lkX5_saddest_113 rfl dX5_saddest_33 ?_
          refine g_iload_n cx dX5_saddest_36 2 rfl ?_
          refine g_iald cx 8 rfl rfl (vp_of_nI hx (lt_of 8 hx c_2 (by omega) (by decide)) (by decide)) dX5_saddest_37 ?_
          refine g_aload_n cx dX5_saddest_38 0 rfl ?_
          refine g_get (C := RX5) (T := TX5) (N := 8) (v := .ref (a 6)) cx iwX5_saddest_X5 0 1 rfl rfl (by decide) lkX5_saddest_16 rfl dX5_saddest_39 ?_
          refine g_get (C := RX3) (T := TX3) (N := 11) (v := .ref (a 8)) cx iwX5_saddest_X3 6 8 rfl rfl (by decide) lkX5_saddest_113 rfl dX5_saddest_42 ?_
          refine g_iload_n cx dX5_saddest_45 1 rfl ?_
          refine g_iald cx 8 rfl rfl (vp_of_nI hy hq (by decide)) dX5_saddest_46 ?_
          refine g_icmp_ge (tgt := 52) cx dX5_saddest_47 (by decide) (fun c_3 => ?_) (fun c_3 => ?_)
          · refine g_iinc (v := x + 1) (lv' := [(3, .int (x + 1)), (0, .ref (a 0)), (2, .int y)]) cx dX5_saddest_52 2 rfl rfl (by decide) rfl ?_
            refine g_goto (tgt := 23) cx dX5_saddest_55 (by decide) ?_
            exact g_lv [1, 2, 0] rfl (ih (i + 1) (x + 1) y q (by omega) (by have := (lt_of 8 hx c_2 (by omega) (by decide)); omega) (by omega) (by rw [hx]; exact nI_1 i) hy hq (by rw [hs, show 8 - i = (8 - (i + 1)) + 1 by have := (lt_of 8 hx c_2 (by omega) (by decide)); omega, sadL, if_pos (by rw [hx, hy, nI_clamp (by omega), nI_clamp (by omega)] at c_3; exact c_3)]))
          · refine g_iload_n cx dX5_saddest_50 2 rfl ?_
            refine g_istore_n (lv' := [(2, .int x), (0, .ref (a 0)), (3, .int x)]) cx dX5_saddest_51 (by decide) rfl ?_
            refine g_iinc (v := x + 1) (lv' := [(3, .int (x + 1)), (2, .int x), (0, .ref (a 0))]) cx dX5_saddest_52 2 rfl rfl (by decide) rfl ?_
            refine g_goto (tgt := 23) cx dX5_saddest_55 (by decide) ?_
            exact g_lv [2, 1, 0] rfl (ih (i + 1) (x + 1) x i (by omega) (by have := (lt_of 8 hx c_2 (by omega) (by decide)); omega) (by omega) (by rw [hx]; exact nI_1 i) hx (lt_of 8 hx c_2 (by omega) (by decide)) (by rw [hs, show 8 - i = (8 - (i + 1)) + 1 by have := (lt_of 8 hx c_2 (by omega) (by decide)); omega, sadL, if_neg (by rw [hx, hy, nI_clamp (by omega), nI_clamp (by omega)] at c_3; exact c_3)]))
    exact g_lv [2, 1, 0] rfl (LP23 8 1 1 0 0 (by omega) (by omega) (by omega) rfl rfl (by omega) rfl)
  · refine g_aload_n cx dX5_saddest_7 0 rfl ?_
    refine g_ldc cx m1X5_saddest_c61 dX5_saddest_8 ?_
    refine g_VSi (rest := []) (As := [.int (-1000000001)]) cx hYX5_finding gX5_saddest_X5_finding (c_X5_finding l E a c g (-1000000001) (by unfold vp_in; decide +kernel)) rfl rfl rfl ⟨Nat.le_of_ble_eq_true rfl, Nat.le_of_ble_eq_true rfl⟩ rfl rfl (Nat.le_of_ble_eq_true rfl) ⟨Nat.le_of_ble_eq_true rfl, Nat.le_of_ble_eq_true rfl⟩ dX5_saddest_10 (fun r w1 hp => ?_)
    obtain ⟨rfl, rfl⟩ := hp
    exact g_iret cx gr (Nat.zero_le _) (Nat.zero_le _) dX5_saddest_13 (xleaf (by first | (simp only [sp_saddest, tKind, tMood, tPen, tAte, tHour, tTray, tAt, tRang, tCrack, tTak, tWay, cB, c_1, if_true, if_false]; done) | (simp only [sp_saddest, tKind, tMood, tPen, tAte, tHour, tTray, tAt, tRang, tCrack, tTak, tWay, cB, c_1, if_true, if_false] <;> rfl) | (simp [sp_saddest, tKind, tMood, tPen, tAte, tHour, tTray, tAt, tRang, tCrack, tTak, tWay, cB, c_1] <;> rfl)))

abbrev rmX5_swap : Room := { frames := 6, cells := 0, slots := 0, locals := 135 }
theorem hYX5_swap : gY yX5_swap wsX5_swap cX5_swap 7 (some .int) 1 := ⟨⟨_, rfl⟩, by decide +kernel, by decide +kernel, by decide +kernel⟩
theorem iwX5_swap_X5 : ∀ w ∈ u_ws RX5 TX5 8, w ∈ wsX5_swap := by decide +kernel
theorem lkX5_swap_16 : Cond.fieldLink RX5 16 "MuffinBells" "trial" "LMuffinBells$Terrace;" ∈ wsX5_swap := by decide +kernel
theorem iwX5_swap_X3 : ∀ w ∈ u_ws RX3 TX3 11, w ∈ wsX5_swap := by decide +kernel
theorem lkX5_swap_113 : Cond.fieldLink RX5 113 "MuffinBells$Terrace" "moods" "[I" ∈ wsX5_swap := by decide +kernel
theorem m1X5_swap_c173 : Cond.constant RX5 173 (-1000000004) ∈ wsX5_swap := by decide +kernel
theorem m1X5_swap_c61 : Cond.constant RX5 61 (-1000000001) ∈ wsX5_swap := by decide +kernel
set_option maxRecDepth 100000 in
set_option maxHeartbeats 4000000 in
theorem c_X5_swap (l : Launch) (E : gE) (a : Nat → Nat) (c : Cor) (g : Gar) (n0 : Int32) (hok : cOk c) : cti l yX5_swap wsX5_swap rmX5_swap E [.ref (a 0), .int n0] (xW E a c g) (fun r w => ∃ g', r = (sp_swap c n0).1 ∧ w = xW E a (sp_swap c n0).2 g') := by
  refine mt_i (cc := cX5_swap) (maxL := 7) (ret := some .int) (lv0 := [(0, .ref (a 0)), (1, .int n0)]) (by decide) rfl rfl (Nat.le_of_ble_eq_true rfl) (fun X cx gr hI => ?_)
  refine g_iload_n cx dX5_swap_0 1 rfl ?_
  refine g_SPi (rest := []) (As := [.int n0]) cx hYX5_isHoursWeighed gX5_swap_X5_isHoursWeighed (c_X5_isHoursWeighed l E n0 ) ⟨Nat.le_of_ble_eq_true rfl, Nat.le_of_ble_eq_true rfl⟩ rfl rfl (Nat.le_of_ble_eq_true rfl) ⟨Nat.le_of_ble_eq_true rfl, Nat.le_of_ble_eq_true rfl⟩ dX5_swap_1 ?_
  refine g_if_ne (tgt := 14) cx dX5_swap_4 (by decide) (fun c_1 => ?_) (fun c_1 => ?_)
  · obtain ⟨N, hN1, hN, rfl⟩ := isW_nI1 60 c_1 (by decide)
    have hNc : (nI N).toNatClampNeg = N := nI_clamp (by omega)
    refine g_aload_n cx dX5_swap_14 0 rfl ?_
    refine g_iload_n cx dX5_swap_15 1 rfl ?_
    refine g_VSv (rest := []) (As := [.int (nI N)]) cx hYX5_goOn gX5_swap_X5_goOn (c_X5_goOn l E a c g N hok.1.1 (by omega)) rfl rfl rfl ⟨Nat.le_of_ble_eq_true rfl, Nat.le_of_ble_eq_true rfl⟩ rfl rfl (Nat.le_of_ble_eq_true rfl) ⟨Nat.le_of_ble_eq_true rfl, Nat.le_of_ble_eq_true rfl⟩ dX5_swap_16 (fun w1 hp => ?_)
    obtain rfl := hp
    refine g_aload_n cx dX5_swap_19 0 rfl ?_
    refine g_get (C := RX5) (T := TX5) (N := 8) (v := .ref (a 6)) cx iwX5_swap_X5 0 1 rfl rfl (by decide) lkX5_swap_16 rfl dX5_swap_20 ?_
    refine g_get (C := RX3) (T := TX3) (N := 11) (v := .ref (a 8)) cx iwX5_swap_X3 6 8 rfl rfl (by decide) lkX5_swap_113 rfl dX5_swap_23 ?_
    refine g_Si (rest := []) (As := [.ref (a 8)]) (wr := (xW E a c ((goHs N c.1), g.2.1, g.2.2.1, g.2.2.2.1, g.2.2.2.2)).eraseIdx 8) cx hYX5_sum gX5_swap_X5_sum (c_X5_sum l E (a 8) 8 ((goHs N c.1).2.2.2.2.2.2.2.2.1) (by decide)) [8] [0, 1, 2, 3, 4, 5, 6, 7, 9, 10, 11, 12, 13, 14, 15, 16, 17, 18, 19, 20, 21, 22, 23, 24, 25, 26, 27, 28] rfl rfl rfl rfl (by decide) ⟨Nat.le_of_ble_eq_true rfl, Nat.le_of_ble_eq_true rfl⟩ rfl rfl (Nat.le_of_ble_eq_true rfl) ⟨Nat.le_of_ble_eq_true rfl, Nat.le_of_ble_eq_true rfl⟩ dX5_swap_26 (fun r w1 hp => ?_)
    obtain ⟨rfl, rfl⟩ := hp
    refine g_ws (ws' := (xW E a c ((goHs N c.1), g.2.1, g.2.2.1, g.2.2.2.1, g.2.2.2.2))) [0, 1, 2, 3, 4, 5, 6, 7, 28, 8, 9, 10, 11, 12, 13, 14, 15, 16, 17, 18, 19, 20, 21, 22, 23, 24, 25, 26, 27] rfl rfl ?_
    refine g_istore_n (lv' := [(2, .int (sumN ((goHs N c.1).2.2.2.2.2.2.2.2.1) 8)), (0, .ref (a 0)), (1, .int (nI N))]) cx dX5_swap_29 (by decide) rfl ?_
    refine g_iconst (v := (-1)) cx dX5_swap_30 (by decide) ?_
    refine g_istore_n (lv' := [(3, .int (-1)), (2, .int (sumN ((goHs N c.1).2.2.2.2.2.2.2.2.1) 8)), (0, .ref (a 0)), (1, .int (nI N))]) cx dX5_swap_31 (by decide) rfl ?_
    refine g_iconst (v := 0) cx dX5_swap_32 (by decide) ?_
    refine g_istore (lv' := [(4, .int 0), (3, .int (-1)), (2, .int (sumN ((goHs N c.1).2.2.2.2.2.2.2.2.1) 8)), (0, .ref (a 0)), (1, .int (nI N))]) cx dX5_swap_33 (by decide) rfl ?_
    have LP35 : ∀ (d1 : Nat) (i : Nat) (x : Int32) (b : Int32) (y : Int32) (u : Ter), i + d1 = 9 → i ≤ 8 → x = nI i → swO c.1 N 8 0 (-1, sumN (goHs N c.1).2.2.2.2.2.2.2.2.1 8) = swO c.1 N (8 - i) i (b, y) → gG X 0 0 (xW E a c (u, g.2.1, g.2.2.1, g.2.2.2.1, g.2.2.2.2)) 35 [(0, .ref (a 0)), (1, .int (nI N)), (2, .int y), (3, .int b), (4, .int x)] [] := by
      intro d1
      induction d1 with
      | zero =>
        intro i x b y u hi hiN hx hs
        omega
      | succ d1 ih1 =>
        intro i x b y u hi hiN hx hs
        refine g_iload cx dX5_swap_35 4 rfl ?_
        refine g_bipush (v := 8) cx dX5_swap_37 (by decide) ?_
        refine g_icmp_ge (tgt := 96) cx dX5_swap_39 (by decide) (fun c_2 => ?_) (fun c_2 => ?_)
        · refine g_iload_n cx dX5_swap_96 3 rfl ?_
          refine g_if_ge (tgt := 109) cx dX5_swap_97 (by decide) (fun c_3 => ?_) (fun c_3 => ?_)
          · refine g_iload_n cx dX5_swap_109 3 rfl ?_
            exact g_iret cx gr (Nat.zero_le _) (Nat.zero_le _) dX5_swap_110 (xleaf (by rw [sp_swap, if_neg c_1, hNc]; show cN (swO c.1 N 8 0 (-1, sumN (goHs N c.1).2.2.2.2.2.2.2.2.1 8)).1 c = _; rw [hs, show 8 - i = 0 by have := ge_of 8 hx c_2 (by omega) (by decide); omega]; show cN b c = _; rw [cN, if_pos c_3]))
          · refine g_aload_n cx dX5_swap_100 0 rfl ?_
            refine g_ldc cx m1X5_swap_c173 dX5_swap_101 ?_
            refine g_VSi (rest := []) (As := [.int (-1000000004)]) cx hYX5_finding gX5_swap_X5_finding (c_X5_finding l E a c (u, g.2.1, g.2.2.1, g.2.2.2.1, g.2.2.2.2) (-1000000004) (by unfold vp_in; decide +kernel)) rfl rfl rfl ⟨Nat.le_of_ble_eq_true rfl, Nat.le_of_ble_eq_true rfl⟩ rfl rfl (Nat.le_of_ble_eq_true rfl) ⟨Nat.le_of_ble_eq_true rfl, Nat.le_of_ble_eq_true rfl⟩ dX5_swap_103 (fun r w1 hp => ?_)
            obtain ⟨rfl, rfl⟩ := hp
            refine g_goto (tgt := 110) cx dX5_swap_106 (by decide) ?_
            exact g_iret cx gr (Nat.zero_le _) (Nat.zero_le _) dX5_swap_110 (xleaf (by rw [sp_swap, if_neg c_1, hNc]; show cN (swO c.1 N 8 0 (-1, sumN (goHs N c.1).2.2.2.2.2.2.2.2.1 8)).1 c = _; rw [hs, show 8 - i = 0 by have := ge_of 8 hx c_2 (by omega) (by decide); omega]; show cN b c = _; rw [cN, if_neg c_3]; rfl))
        · refine g_iload cx dX5_swap_42 4 rfl ?_
          refine g_iconst (v := 1) cx dX5_swap_44 (by decide) ?_
          refine g_iadd cx dX5_swap_45 ?_
          refine g_istore (lv' := [(5, .int (x + 1)), (0, .ref (a 0)), (1, .int (nI N)), (2, .int y), (3, .int b), (4, .int x)]) cx dX5_swap_46 (by decide) rfl ?_
          have LP48 : ∀ (d2 : Nat) (j : Nat) (z : Int32) (b2 : Int32) (y2 : Int32) (u2 : Ter), j + d2 = 9 → j ≤ 8 → z = nI j → swO c.1 N 8 0 (-1, sumN (goHs N c.1).2.2.2.2.2.2.2.2.1 8) = swO c.1 N (7 - i) (i + 1) (swI c.1 N i (8 - j) j (b2, y2)) → gG X 0 0 (xW E a c (u2, g.2.1, g.2.2.1, g.2.2.2.1, g.2.2.2.2)) 48 [(0, .ref (a 0)), (1, .int (nI N)), (2, .int y2), (3, .int b2), (4, .int x), (5, .int z)] [] := by
            intro d2
            induction d2 with
            | zero =>
              intro j z b2 y2 u2 hj hjN hz hs2
              omega
            | succ d2 ih2 =>
              intro j z b2 y2 u2 hj hjN hz hs2
              have hi8 := lt_of 8 hx c_2 (by omega) (by decide)
              refine g_iload cx dX5_swap_48 5 rfl ?_
              refine g_bipush (v := 8) cx dX5_swap_50 (by decide) ?_
              refine g_icmp_ge (tgt := 90) cx dX5_swap_52 (by decide) (fun c_4 => ?_) (fun c_4 => ?_)
              · refine g_iinc (v := x + 1) (lv' := [(4, .int (x + 1)), (0, .ref (a 0)), (1, .int (nI N)), (2, .int y2), (3, .int b2), (5, .int z)]) cx dX5_swap_90 4 rfl rfl (by decide) rfl ?_
                refine g_goto (tgt := 35) cx dX5_swap_93 (by decide) ?_
                exact g_lv [1, 2, 3, 4, 0] rfl (ih1 (i + 1) (x + 1) b2 y2 u2 (by omega) (by omega) (by rw [hx]; exact nI_1 i) (by rw [hs2, show 8 - j = 0 by have := ge_of 8 hz c_4 (by omega) (by decide); omega, show 7 - i = 8 - (i + 1) by omega]; rfl))
              · refine g_aload_n cx dX5_swap_55 0 rfl ?_
                refine g_iload cx dX5_swap_56 4 rfl ?_
                refine g_iload cx dX5_swap_58 5 rfl ?_
                refine g_iload_n cx dX5_swap_60 1 rfl ?_
                refine g_VSi (rest := []) (As := [.int x, .int z, .int (nI N)]) cx hYX5_moodsSwapped gX5_swap_X5_moodsSwapped (c_X5_moodsSwapped l E a c (u2, g.2.1, g.2.2.1, g.2.2.2.1, g.2.2.2.2) x z N hok.1.1 (by omega) (vp_of_nI hx hi8 (by decide)) (vp_of_nI hz (lt_of 8 hz c_4 (by omega) (by decide)) (by decide))) rfl rfl rfl ⟨Nat.le_of_ble_eq_true rfl, Nat.le_of_ble_eq_true rfl⟩ rfl rfl (Nat.le_of_ble_eq_true rfl) ⟨Nat.le_of_ble_eq_true rfl, Nat.le_of_ble_eq_true rfl⟩ dX5_swap_61 (fun r w1 hp => ?_)
                obtain ⟨rfl, rfl⟩ := hp
                refine g_istore (lv' := [(6, .int (sumN (goHs N (chFam c.1 x z)).2.2.2.2.2.2.2.2.1 8)), (0, .ref (a 0)), (1, .int (nI N)), (2, .int y2), (3, .int b2), (4, .int x), (5, .int z)]) cx dX5_swap_64 (by decide) rfl ?_
                refine g_iload cx dX5_swap_66 0 rfl ?_
                refine g_iload_n cx dX5_swap_68 3 rfl ?_
                refine g_icmp_le (tgt := 84) cx dX5_swap_69 (by decide) (fun c_5 => ?_) (fun c_5 => ?_)
                · refine g_iinc (v := z + 1) (lv' := [(5, .int (z + 1)), (6, .int (sumN (goHs N (chFam c.1 x z)).2.2.2.2.2.2.2.2.1 8)), (0, .ref (a 0)), (1, .int (nI N)), (2, .int y2), (3, .int b2), (4, .int x)]) cx dX5_swap_84 6 rfl rfl (by decide) rfl ?_
                  refine g_goto (tgt := 48) cx dX5_swap_87 (by decide) ?_
                  exact g_lv [2, 3, 4, 5, 6, 0] rfl (ih2 (j + 1) (z + 1) b2 y2 (goHs N (chFam c.1 x z)) (by omega) (by have := (lt_of 8 hz c_4 (by omega) (by decide)); omega) (by rw [hz]; exact nI_1 j) (by rw [hs2, show 8 - j = (8 - (j + 1)) + 1 by have := (lt_of 8 hz c_4 (by omega) (by decide)); omega, swI, swS, if_pos (by rw [hx, hz] at c_5; exact c_5)]))
                · refine g_iload cx dX5_swap_72 0 rfl ?_
                  refine g_istore_n (lv' := [(2, .int (sumN (goHs N (chFam c.1 x z)).2.2.2.2.2.2.2.2.1 8)), (6, .int (sumN (goHs N (chFam c.1 x z)).2.2.2.2.2.2.2.2.1 8)), (0, .ref (a 0)), (1, .int (nI N)), (3, .int b2), (4, .int x), (5, .int z)]) cx dX5_swap_74 (by decide) rfl ?_
                  refine g_bipush (v := 10) cx dX5_swap_75 (by decide) ?_
                  refine g_iload cx dX5_swap_77 5 rfl ?_
                  refine g_imul cx dX5_swap_79 ?_
                  refine g_iload cx dX5_swap_80 6 rfl ?_
                  refine g_iadd cx dX5_swap_82 ?_
                  refine g_istore_n (lv' := [(3, .int ((10 * x) + z)), (2, .int (sumN (goHs N (chFam c.1 x z)).2.2.2.2.2.2.2.2.1 8)), (6, .int (sumN (goHs N (chFam c.1 x z)).2.2.2.2.2.2.2.2.1 8)), (0, .ref (a 0)), (1, .int (nI N)), (4, .int x), (5, .int z)]) cx dX5_swap_83 (by decide) rfl ?_
                  refine g_iinc (v := z + 1) (lv' := [(5, .int (z + 1)), (3, .int ((10 * x) + z)), (2, .int (sumN (goHs N (chFam c.1 x z)).2.2.2.2.2.2.2.2.1 8)), (6, .int (sumN (goHs N (chFam c.1 x z)).2.2.2.2.2.2.2.2.1 8)), (0, .ref (a 0)), (1, .int (nI N)), (4, .int x)]) cx dX5_swap_84 6 rfl rfl (by decide) rfl ?_
                  refine g_goto (tgt := 48) cx dX5_swap_87 (by decide) ?_
                  exact g_lv [4, 5, 2, 1, 6, 0] rfl (ih2 (j + 1) (z + 1) ((10 * x) + z) (sumN (goHs N (chFam c.1 x z)).2.2.2.2.2.2.2.2.1 8) (goHs N (chFam c.1 x z)) (by omega) (by have := (lt_of 8 hz c_4 (by omega) (by decide)); omega) (by rw [hz]; exact nI_1 j) (by rw [hs2, show 8 - j = (8 - (j + 1)) + 1 by have := (lt_of 8 hz c_4 (by omega) (by decide)); omega, swI, swS, if_neg (by rw [hx, hz] at c_5; exact c_5), hx, hz]))
          have hi8 := lt_of 8 hx c_2 (by omega) (by decide)
          exact g_lv [1, 2, 3, 4, 5, 0] rfl (LP48 (8 - i) (i + 1) (x + 1) b y u (by omega) (by omega) (by rw [hx]; exact nI_1 i) (by rw [hs, show 8 - i = (7 - i) + 1 by omega, swO, show 8 - (i + 1) = 7 - i by omega]))
    exact g_lv [3, 4, 2, 1, 0] rfl (LP35 9 0 0 (-1) _ _ (by omega) (by omega) rfl rfl)
  · refine g_aload_n cx dX5_swap_7 0 rfl ?_
    refine g_ldc cx m1X5_swap_c61 dX5_swap_8 ?_
    refine g_VSi (rest := []) (As := [.int (-1000000001)]) cx hYX5_finding gX5_swap_X5_finding (c_X5_finding l E a c g (-1000000001) (by unfold vp_in; decide +kernel)) rfl rfl rfl ⟨Nat.le_of_ble_eq_true rfl, Nat.le_of_ble_eq_true rfl⟩ rfl rfl (Nat.le_of_ble_eq_true rfl) ⟨Nat.le_of_ble_eq_true rfl, Nat.le_of_ble_eq_true rfl⟩ dX5_swap_10 (fun r w1 hp => ?_)
    obtain ⟨rfl, rfl⟩ := hp
    exact g_iret cx gr (Nat.zero_le _) (Nat.zero_le _) dX5_swap_13 (xleaf (by first | (simp only [sp_swap, tKind, tMood, tPen, tAte, tHour, tTray, tAt, tRang, tCrack, tTak, tWay, cB, c_1, if_true, if_false]; done) | (simp only [sp_swap, tKind, tMood, tPen, tAte, tHour, tTray, tAt, tRang, tCrack, tTak, tWay, cB, c_1, if_true, if_false] <;> rfl) | (simp [sp_swap, tKind, tMood, tPen, tAte, tHour, tTray, tAt, tRang, tCrack, tTak, tWay, cB, c_1] <;> rfl)))
