abbrev rmX6_wipe : Room := { frames := 0, cells := 0, slots := 0, locals := 0 }
theorem hYX6_wipe : gY yX6_wipe wsX6_wipe cX6_wipe 2 (some .int) 0 := ⟨⟨_, rfl⟩, by decide +kernel, by decide +kernel, by decide +kernel⟩
theorem iwX6_wipe_X6 : ∀ w ∈ u_ws RX6 TX6 16, w ∈ wsX6_wipe := by decide +kernel
theorem lkX6_wipe_173 : Cond.fieldLink RX6 173 "MuffinBellsModel" "taped" "I" ∈ wsX6_wipe := by decide +kernel
set_option maxRecDepth 100000 in
set_option maxHeartbeats 4000000 in
theorem c_X6_wipe (l : Launch) (E : gE) (a : Nat → Nat) (c : Cor) (h : Mar) (hok : cOk c) : cti l yX6_wipe wsX6_wipe rmX6_wipe E [.ref (a 0)] (mW E a c h) (fun r w => ∃ h', r = (sp_wipe c).1 ∧ w = mW E a (sp_wipe c).2 h') := by
  refine mt_i (cc := cX6_wipe) (maxL := 2) (ret := some .int) (lv0 := [(0, .ref (a 0))]) (by decide) rfl rfl (Nat.le_of_ble_eq_true rfl) (fun X cx gr hI => ?_)
  refine g_aload_n cx dX6_wipe_0 0 rfl ?_
  refine g_get (C := RX6) (T := TX6) (N := 16) (v := .int c.2.2.2.2.1) cx iwX6_wipe_X6 0 7 rfl rfl (by decide) lkX6_wipe_173 rfl dX6_wipe_1 ?_
  refine g_istore_n (lv' := [(1, .int c.2.2.2.2.1), (0, .ref (a 0))]) cx dX6_wipe_4 (by decide) rfl ?_
  refine g_aload_n cx dX6_wipe_5 1 rfl ?_
  refine g_iconst (v := 0) cx dX6_wipe_6 (by decide) ?_
  refine g_put (C := RX6) (T := TX6) (N := 16) (ws' := (mW E a (c.1, c.2.1, c.2.2.1, c.2.2.2.1, 0, c.2.2.2.2.2.1, c.2.2.2.2.2.2.1, c.2.2.2.2.2.2.2.1, c.2.2.2.2.2.2.2.2) h)) cx iwX6_wipe_X6 tyX6 tyX6_ok nmX6 0 7 rfl rfl (by decide) lkX6_wipe_173 rfl rfl rfl (Nat.le_of_ble_eq_true rfl) dX6_wipe_7 rfl ?_
  refine g_iload_n cx dX6_wipe_10 0 rfl ?_
  exact g_iret cx gr (Nat.zero_le _) (Nat.zero_le _) dX6_wipe_11 (mleaf (by first | (simp only [sp_wipe, tKind, tMood, tPen, tAte, tHour, tTray, tAt, tRang, tCrack, tTak, tWay, cB, if_true, if_false]; done) | (simp only [sp_wipe, tKind, tMood, tPen, tAte, tHour, tTray, tAt, tRang, tCrack, tTak, tWay, cB, if_true, if_false] <;> rfl) | (simp [sp_wipe, tKind, tMood, tPen, tAte, tHour, tTray, tAt, tRang, tCrack, tTak, tWay, cB] <;> rfl)))

abbrev rmX6_image : Room := { frames := 0, cells := 0, slots := 0, locals := 0 }
theorem hYX6_image : gY yX6_image wsX6_image cX6_image 2 (some .int) 0 := ⟨⟨_, rfl⟩, by decide +kernel, by decide +kernel, by decide +kernel⟩
theorem iwX6_image_X6 : ∀ w ∈ u_ws RX6 TX6 16, w ∈ wsX6_image := by decide +kernel
theorem lkX6_image_288 : Cond.fieldLink RX6 288 "MuffinBellsModel" "isKept" "Z" ∈ wsX6_image := by decide +kernel
theorem lkX6_image_13 : Cond.fieldLink RX6 13 "MuffinBellsModel" "keptS" "[I" ∈ wsX6_image := by decide +kernel
theorem lkX6_image_7 : Cond.fieldLink RX6 7 "MuffinBellsModel" "s" "[I" ∈ wsX6_image := by decide +kernel
set_option maxRecDepth 100000 in
set_option maxHeartbeats 4000000 in
theorem c_X6_image (l : Launch) (E : gE) (a : Nat → Nat) (c : Cor) (h : Mar) (hok : cOk c) : cti l yX6_image wsX6_image rmX6_image E [.ref (a 0)] (mW E a c h) (fun r w => ∃ h', r = (sp_image c).1 ∧ w = mW E a (sp_image c).2 h') := by
  refine mt_i (cc := cX6_image) (maxL := 2) (ret := some .int) (lv0 := [(0, .ref (a 0))]) (by decide) rfl rfl (Nat.le_of_ble_eq_true rfl) (fun X cx gr hI => ?_)
  refine g_iconst (v := 0) cx dX6_image_0 (by decide) ?_
  refine g_istore_n (lv' := [(1, .int 0), (0, .ref (a 0))]) cx dX6_image_1 (by decide) rfl ?_
  have LP2 : ∀ (d : Nat) (i : Nat) (x : Int32), i + d = 40 → i ≤ 39 → x = nI i → gG X 0 0 (mW E a (c.1, (dec (fil (enc c.1) (enc c.2.1) i)), c.2.2.1, c.2.2.2.1, c.2.2.2.2.1, c.2.2.2.2.2.1, c.2.2.2.2.2.2.1, c.2.2.2.2.2.2.2.1, c.2.2.2.2.2.2.2.2) h) 2 [(0, .ref (a 0)), (1, .int x)] [] := by
    intro d
    induction d with
    | zero =>
      intro i x hi hiN hx
      omega
    | succ d ih =>
      intro i x hi hiN hx
      refine g_iload_n cx dX6_image_2 1 rfl ?_
      refine g_bipush (v := 39) cx dX6_image_3 (by decide) ?_
      refine g_icmp_ge (tgt := 26) cx dX6_image_5 (by decide) (fun c_1 => ?_) (fun c_1 => ?_)
      · obtain rfl : i = 39 := by have := ge_of 39 hx c_1 (by omega) (by decide); omega
        refine g_cgI (ws' := (mW E a (c.1, c.1, c.2.2.1, c.2.2.2.1, c.2.2.2.2.1, c.2.2.2.2.2.1, c.2.2.2.2.2.2.1, c.2.2.2.2.2.2.2.1, c.2.2.2.2.2.2.2.2) h)) (g := enc c.1) 2 rfl (fun j hj => by rw [enc_dec]; exact fil_in hj) rfl ?_
        refine g_aload_n cx dX6_image_26 0 rfl ?_
        refine g_iconst (v := 1) cx dX6_image_27 (by decide) ?_
        refine g_put (C := RX6) (T := TX6) (N := 16) (ws' := (mW E a (c.1, c.1, 1, c.2.2.2.1, c.2.2.2.2.1, c.2.2.2.2.2.1, c.2.2.2.2.2.2.1, c.2.2.2.2.2.2.2.1, c.2.2.2.2.2.2.2.2) h)) cx iwX6_image_X6 tyX6 tyX6_ok nmX6 0 5 rfl rfl (by decide) lkX6_image_288 rfl rfl rfl (Nat.le_of_ble_eq_true rfl) dX6_image_28 rfl ?_
        refine g_iconst (v := 1) cx dX6_image_31 (by decide) ?_
        exact g_iret cx gr (Nat.zero_le _) (Nat.zero_le _) dX6_image_32 (mleaf (by rfl))
      · refine g_aload_n cx dX6_image_8 0 rfl ?_
        refine g_get (C := RX6) (T := TX6) (N := 16) (v := .ref (a 2)) cx iwX6_image_X6 0 1 rfl rfl (by decide) lkX6_image_13 rfl dX6_image_9 ?_
        refine g_iload_n cx dX6_image_12 1 rfl ?_
        refine g_aload_n cx dX6_image_13 0 rfl ?_
        refine g_get (C := RX6) (T := TX6) (N := 16) (v := .ref (a 1)) cx iwX6_image_X6 0 0 rfl rfl (by decide) lkX6_image_7 rfl dX6_image_14 ?_
        refine g_iload_n cx dX6_image_17 1 rfl ?_
        refine g_iald cx 1 rfl rfl (vp_of_nI hx (by have := lt_of 39 hx c_1 (by omega) (by decide); omega) (by decide)) dX6_image_18 ?_
        refine g_iast (ws' := (mW E a (c.1, (tPut (dec (fil (enc c.1) (enc c.2.1) i)) x.toNatClampNeg ((enc c.1) (x.toNatClampNeg))), c.2.2.1, c.2.2.2.1, c.2.2.2.2.1, c.2.2.2.2.2.1, c.2.2.2.2.2.2.1, c.2.2.2.2.2.2.2.1, c.2.2.2.2.2.2.2.2) h)) cx 2 rfl rfl (vp_of_nI hx (by have := lt_of 39 hx c_1 (by omega) (by decide); omega) (by decide)) dX6_image_19 (congrArg (fun f => List.set (mW E a (c.1, (dec (fil (enc c.1) (enc c.2.1) i)), c.2.2.1, c.2.2.2.1, c.2.2.2.2.1, c.2.2.2.2.2.1, c.2.2.2.2.2.2.1, c.2.2.2.2.2.2.2.1, c.2.2.2.2.2.2.2.2) h) 2 (a 2, .inl (gI E, 39, .inl f))) (enc_put (dec (fil (enc c.1) (enc c.2.1) i)) x.toNatClampNeg ((enc c.1) (x.toNatClampNeg)))) ?_
        refine g_iinc (v := x + 1) (lv' := [(1, .int (x + 1)), (0, .ref (a 0))]) cx dX6_image_20 1 rfl rfl (by decide) rfl ?_
        refine g_goto (tgt := 2) cx dX6_image_23 (by decide) ?_
        exact g_lv [1, 0] rfl (g_w (congrArg (fun T : Ter => (mW E a (c.1, T, c.2.2.1, c.2.2.2.1, c.2.2.2.2.1, c.2.2.2.2.2.1, c.2.2.2.2.2.2.1, c.2.2.2.2.2.2.2.1, c.2.2.2.2.2.2.2.2) h)) (copy_st hx (by omega))) (ih (i + 1) (x + 1) (by omega) (by have := lt_of 39 hx c_1 (by omega) (by decide); omega) (by rw [hx]; exact nI_1 i)))
  refine g_w (congrArg (fun T : Ter => (mW E a (c.1, T, c.2.2.1, c.2.2.2.1, c.2.2.2.2.1, c.2.2.2.2.2.1, c.2.2.2.2.2.2.1, c.2.2.2.2.2.2.2.1, c.2.2.2.2.2.2.2.2) h)) (copy_0 c.1 c.2.1)) ?_
  exact g_lv [1, 0] rfl (LP2 40 0 0 (by omega) (by omega) rfl)

abbrev rmX6_undo : Room := { frames := 1, cells := 0, slots := 0, locals := 21 }
theorem hYX6_undo : gY yX6_undo wsX6_undo cX6_undo 2 (some .int) 0 := ⟨⟨_, rfl⟩, by decide +kernel, by decide +kernel, by decide +kernel⟩
theorem iwX6_undo_X6 : ∀ w ∈ u_ws RX6 TX6 16, w ∈ wsX6_undo := by decide +kernel
theorem lkX6_undo_288 : Cond.fieldLink RX6 288 "MuffinBellsModel" "isKept" "Z" ∈ wsX6_undo := by decide +kernel
theorem lkX6_undo_7 : Cond.fieldLink RX6 7 "MuffinBellsModel" "s" "[I" ∈ wsX6_undo := by decide +kernel
theorem lkX6_undo_13 : Cond.fieldLink RX6 13 "MuffinBellsModel" "keptS" "[I" ∈ wsX6_undo := by decide +kernel
theorem m1X6_undo_c158 : Cond.constant RX6 158 (-1000000004) ∈ wsX6_undo := by decide +kernel
set_option maxRecDepth 100000 in
set_option maxHeartbeats 4000000 in
theorem c_X6_undo (l : Launch) (E : gE) (a : Nat → Nat) (c : Cor) (h : Mar) (hok : cOk c) : cti l yX6_undo wsX6_undo rmX6_undo E [.ref (a 0)] (mW E a c h) (fun r w => ∃ h', r = (sp_undo c).1 ∧ w = mW E a (sp_undo c).2 h') := by
  refine mt_i (cc := cX6_undo) (maxL := 2) (ret := some .int) (lv0 := [(0, .ref (a 0))]) (by decide) rfl rfl (Nat.le_of_ble_eq_true rfl) (fun X cx gr hI => ?_)
  refine g_aload_n cx dX6_undo_0 0 rfl ?_
  refine g_get (C := RX6) (T := TX6) (N := 16) (v := .int c.2.2.1) cx iwX6_undo_X6 0 5 rfl rfl (by decide) lkX6_undo_288 rfl dX6_undo_1 ?_
  refine g_if_ne (tgt := 14) cx dX6_undo_4 (by decide) (fun c_1 => ?_) (fun c_1 => ?_)
  · refine g_iconst (v := 0) cx dX6_undo_14 (by decide) ?_
    refine g_istore_n (lv' := [(1, .int 0), (0, .ref (a 0))]) cx dX6_undo_15 (by decide) rfl ?_
    have LP16 : ∀ (d : Nat) (i : Nat) (x : Int32), i + d = 40 → i ≤ 39 → x = nI i → gG X 0 0 (mW E a ((dec (fil (enc c.2.1) (enc c.1) i)), c.2.1, c.2.2.1, c.2.2.2.1, c.2.2.2.2.1, c.2.2.2.2.2.1, c.2.2.2.2.2.2.1, c.2.2.2.2.2.2.2.1, c.2.2.2.2.2.2.2.2) h) 16 [(0, .ref (a 0)), (1, .int x)] [] := by
      intro d
      induction d with
      | zero =>
        intro i x hi hiN hx
        omega
      | succ d ih =>
        intro i x hi hiN hx
        refine g_iload_n cx dX6_undo_16 1 rfl ?_
        refine g_bipush (v := 39) cx dX6_undo_17 (by decide) ?_
        refine g_icmp_ge (tgt := 40) cx dX6_undo_19 (by decide) (fun c_2 => ?_) (fun c_2 => ?_)
        · obtain rfl : i = 39 := by have := ge_of 39 hx c_2 (by omega) (by decide); omega
          refine g_cgI (ws' := (mW E a (c.2.1, c.2.1, c.2.2.1, c.2.2.2.1, c.2.2.2.2.1, c.2.2.2.2.2.1, c.2.2.2.2.2.2.1, c.2.2.2.2.2.2.2.1, c.2.2.2.2.2.2.2.2) h)) (g := enc c.2.1) 1 rfl (fun j hj => by rw [enc_dec]; exact fil_in hj) rfl ?_
          refine g_aload_n cx dX6_undo_40 0 rfl ?_
          refine g_get (C := RX6) (T := TX6) (N := 16) (v := .ref (a 1)) cx iwX6_undo_X6 0 0 rfl rfl (by decide) lkX6_undo_7 rfl dX6_undo_41 ?_
          refine g_iconst (v := 0) cx dX6_undo_44 (by decide) ?_
          refine g_iald cx 1 rfl rfl (by unfold vp_in; decide +kernel) dX6_undo_45 ?_
          refine g_top (y := c.2.1.1) (rfl) ?_
          exact g_iret cx gr (Nat.zero_le _) (Nat.zero_le _) dX6_undo_46 (mleaf (by rw [sp_undo, if_neg c_1]))
        · refine g_aload_n cx dX6_undo_22 0 rfl ?_
          refine g_get (C := RX6) (T := TX6) (N := 16) (v := .ref (a 1)) cx iwX6_undo_X6 0 0 rfl rfl (by decide) lkX6_undo_7 rfl dX6_undo_23 ?_
          refine g_iload_n cx dX6_undo_26 1 rfl ?_
          refine g_aload_n cx dX6_undo_27 0 rfl ?_
          refine g_get (C := RX6) (T := TX6) (N := 16) (v := .ref (a 2)) cx iwX6_undo_X6 0 1 rfl rfl (by decide) lkX6_undo_13 rfl dX6_undo_28 ?_
          refine g_iload_n cx dX6_undo_31 1 rfl ?_
          refine g_iald cx 2 rfl rfl (vp_of_nI hx (by have := lt_of 39 hx c_2 (by omega) (by decide); omega) (by decide)) dX6_undo_32 ?_
          refine g_iast (ws' := (mW E a ((tPut (dec (fil (enc c.2.1) (enc c.1) i)) x.toNatClampNeg ((enc c.2.1) (x.toNatClampNeg))), c.2.1, c.2.2.1, c.2.2.2.1, c.2.2.2.2.1, c.2.2.2.2.2.1, c.2.2.2.2.2.2.1, c.2.2.2.2.2.2.2.1, c.2.2.2.2.2.2.2.2) h)) cx 1 rfl rfl (vp_of_nI hx (by have := lt_of 39 hx c_2 (by omega) (by decide); omega) (by decide)) dX6_undo_33 (congrArg (fun f => List.set (mW E a ((dec (fil (enc c.2.1) (enc c.1) i)), c.2.1, c.2.2.1, c.2.2.2.1, c.2.2.2.2.1, c.2.2.2.2.2.1, c.2.2.2.2.2.2.1, c.2.2.2.2.2.2.2.1, c.2.2.2.2.2.2.2.2) h) 1 (a 1, .inl (gI E, 39, .inl f))) (enc_put (dec (fil (enc c.2.1) (enc c.1) i)) x.toNatClampNeg ((enc c.2.1) (x.toNatClampNeg)))) ?_
          refine g_iinc (v := x + 1) (lv' := [(1, .int (x + 1)), (0, .ref (a 0))]) cx dX6_undo_34 1 rfl rfl (by decide) rfl ?_
          refine g_goto (tgt := 16) cx dX6_undo_37 (by decide) ?_
          exact g_lv [1, 0] rfl (g_w (congrArg (fun T : Ter => (mW E a (T, c.2.1, c.2.2.1, c.2.2.2.1, c.2.2.2.2.1, c.2.2.2.2.2.1, c.2.2.2.2.2.2.1, c.2.2.2.2.2.2.2.1, c.2.2.2.2.2.2.2.2) h)) (copy_st hx (by omega))) (ih (i + 1) (x + 1) (by omega) (by have := lt_of 39 hx c_2 (by omega) (by decide); omega) (by rw [hx]; exact nI_1 i)))
    refine g_w (congrArg (fun T : Ter => (mW E a (T, c.2.1, c.2.2.1, c.2.2.2.1, c.2.2.2.2.1, c.2.2.2.2.2.1, c.2.2.2.2.2.2.1, c.2.2.2.2.2.2.2.1, c.2.2.2.2.2.2.2.2) h)) (copy_0 c.2.1 c.1)) ?_
    exact g_lv [1, 0] rfl (LP16 40 0 0 (by omega) (by omega) rfl)
  · refine g_aload_n cx dX6_undo_7 0 rfl ?_
    refine g_ldc cx m1X6_undo_c158 dX6_undo_8 ?_
    refine g_VSi (rest := []) (As := [.int (-1000000004)]) cx hYX6_finds gX6_undo_X6_finds (c_X6_finds l E a c h (-1000000004) (by unfold vp_in; decide +kernel)) rfl rfl rfl ⟨Nat.le_of_ble_eq_true rfl, Nat.le_of_ble_eq_true rfl⟩ rfl rfl (Nat.le_of_ble_eq_true rfl) ⟨Nat.le_of_ble_eq_true rfl, Nat.le_of_ble_eq_true rfl⟩ dX6_undo_10 (fun r w1 hp => ?_)
    obtain ⟨rfl, rfl⟩ := hp
    exact g_iret cx gr (Nat.zero_le _) (Nat.zero_le _) dX6_undo_13 (mleaf (by first | (simp only [sp_undo, tKind, tMood, tPen, tAte, tHour, tTray, tAt, tRang, tCrack, tTak, tWay, cB, c_1, if_true, if_false]; done) | (simp only [sp_undo, tKind, tMood, tPen, tAte, tHour, tTray, tAt, tRang, tCrack, tTak, tWay, cB, c_1, if_true, if_false] <;> rfl) | (simp [sp_undo, tKind, tMood, tPen, tAte, tHour, tTray, tAt, tRang, tCrack, tTak, tWay, cB, c_1] <;> rfl)))

abbrev rmX6_tear : Room := { frames := 0, cells := 0, slots := 0, locals := 0 }
theorem hYX6_tear : gY yX6_tear wsX6_tear cX6_tear 2 (some .int) 0 := ⟨⟨_, rfl⟩, by decide +kernel, by decide +kernel, by decide +kernel⟩
theorem iwX6_tear_X6 : ∀ w ∈ u_ws RX6 TX6 16, w ∈ wsX6_tear := by decide +kernel
theorem lkX6_tear_288 : Cond.fieldLink RX6 288 "MuffinBellsModel" "isKept" "Z" ∈ wsX6_tear := by decide +kernel
set_option maxRecDepth 100000 in
set_option maxHeartbeats 4000000 in
theorem c_X6_tear (l : Launch) (E : gE) (a : Nat → Nat) (c : Cor) (h : Mar) (hok : cOk c) : cti l yX6_tear wsX6_tear rmX6_tear E [.ref (a 0)] (mW E a c h) (fun r w => ∃ h', r = (sp_tear c).1 ∧ w = mW E a (sp_tear c).2 h') := by
  refine mt_i (cc := cX6_tear) (maxL := 2) (ret := some .int) (lv0 := [(0, .ref (a 0))]) (by decide) rfl rfl (Nat.le_of_ble_eq_true rfl) (fun X cx gr hI => ?_)
  refine g_aload_n cx dX6_tear_0 0 rfl ?_
  refine g_get (C := RX6) (T := TX6) (N := 16) (v := .int c.2.2.1) cx iwX6_tear_X6 0 5 rfl rfl (by decide) lkX6_tear_288 rfl dX6_tear_1 ?_
  refine g_if_eq (tgt := 11) cx dX6_tear_4 (by decide) (fun c_1 => ?_) (fun c_1 => ?_)
  · refine g_iconst (v := 0) cx dX6_tear_11 (by decide) ?_
    refine g_istore_n (lv' := [(1, .int 0), (0, .ref (a 0))]) cx dX6_tear_12 (by decide) rfl ?_
    refine g_aload_n cx dX6_tear_13 1 rfl ?_
    refine g_iconst (v := 0) cx dX6_tear_14 (by decide) ?_
    refine g_put (C := RX6) (T := TX6) (N := 16) (ws' := (mW E a (c.1, c.2.1, 0, c.2.2.2.1, c.2.2.2.2.1, c.2.2.2.2.2.1, c.2.2.2.2.2.2.1, c.2.2.2.2.2.2.2.1, c.2.2.2.2.2.2.2.2) h)) cx iwX6_tear_X6 tyX6 tyX6_ok nmX6 0 5 rfl rfl (by decide) lkX6_tear_288 rfl rfl rfl (Nat.le_of_ble_eq_true rfl) dX6_tear_15 rfl ?_
    refine g_iload_n cx dX6_tear_18 0 rfl ?_
    exact g_iret cx gr (Nat.zero_le _) (Nat.zero_le _) dX6_tear_19 (mleaf (by first | (simp only [sp_tear, tKind, tMood, tPen, tAte, tHour, tTray, tAt, tRang, tCrack, tTak, tWay, cB, c_1, if_true, if_false]; done) | (simp only [sp_tear, tKind, tMood, tPen, tAte, tHour, tTray, tAt, tRang, tCrack, tTak, tWay, cB, c_1, if_true, if_false] <;> rfl) | (simp [sp_tear, tKind, tMood, tPen, tAte, tHour, tTray, tAt, tRang, tCrack, tTak, tWay, cB, c_1] <;> rfl)))
  · refine g_iconst (v := 1) cx dX6_tear_7 (by decide) ?_
    refine g_goto (tgt := 12) cx dX6_tear_8 (by decide) ?_
    refine g_istore_n (lv' := [(1, .int 1), (0, .ref (a 0))]) cx dX6_tear_12 (by decide) rfl ?_
    refine g_aload_n cx dX6_tear_13 1 rfl ?_
    refine g_iconst (v := 0) cx dX6_tear_14 (by decide) ?_
    refine g_put (C := RX6) (T := TX6) (N := 16) (ws' := (mW E a (c.1, c.2.1, 0, c.2.2.2.1, c.2.2.2.2.1, c.2.2.2.2.2.1, c.2.2.2.2.2.2.1, c.2.2.2.2.2.2.2.1, c.2.2.2.2.2.2.2.2) h)) cx iwX6_tear_X6 tyX6 tyX6_ok nmX6 0 5 rfl rfl (by decide) lkX6_tear_288 rfl rfl rfl (Nat.le_of_ble_eq_true rfl) dX6_tear_15 rfl ?_
    refine g_iload_n cx dX6_tear_18 0 rfl ?_
    exact g_iret cx gr (Nat.zero_le _) (Nat.zero_le _) dX6_tear_19 (mleaf (by first | (simp only [sp_tear, tKind, tMood, tPen, tAte, tHour, tTray, tAt, tRang, tCrack, tTak, tWay, cB, c_1, if_true, if_false]; done) | (simp only [sp_tear, tKind, tMood, tPen, tAte, tHour, tTray, tAt, tRang, tCrack, tTak, tWay, cB, c_1, if_true, if_false] <;> rfl) | (simp [sp_tear, tKind, tMood, tPen, tAte, tHour, tTray, tAt, tRang, tCrack, tTak, tWay, cB, c_1] <;> rfl)))

abbrev rmX6_others : Room := { frames := 2, cells := 0, slots := 0, locals := 43 }
theorem hYX6_others : gY yX6_others wsX6_others cX6_others 3 (some .int) 0 := ⟨⟨_, rfl⟩, by decide +kernel, by decide +kernel, by decide +kernel⟩
set_option maxRecDepth 100000 in
set_option maxHeartbeats 4000000 in
theorem c_X6_others (l : Launch) (E : gE) (a : Nat → Nat) (c : Cor) (h : Mar) : cti l yX6_others wsX6_others rmX6_others E [.ref (a 0)] (mW E a c h) (fun r w => r = cntN c.1.2.2.2.2.2.2.2.1 8 ∧ w = (mW E a c h)) := by
  refine mt_i (cc := cX6_others) (maxL := 3) (ret := some .int) (lv0 := [(0, .ref (a 0))]) (by decide) rfl rfl (Nat.le_of_ble_eq_true rfl) (fun X cx gr hI => ?_)
  refine g_iconst (v := 0) cx dX6_others_0 (by decide) ?_
  refine g_istore_n (lv' := [(1, .int 0), (0, .ref (a 0))]) cx dX6_others_1 (by decide) rfl ?_
  refine g_iconst (v := 0) cx dX6_others_2 (by decide) ?_
  refine g_istore_n (lv' := [(2, .int 0), (1, .int 0), (0, .ref (a 0))]) cx dX6_others_3 (by decide) rfl ?_
  have LP4 : ∀ (d : Nat) (i : Nat) (x : Int32) (y : Int32), i + d = 9 → i ≤ 8 → x = nI i → y = cntN (tKind c.1) i → gG X 0 0 (mW E a c h) 4 [(0, .ref (a 0)), (1, .int y), (2, .int x)] [] := by
    intro d
    induction d with
    | zero =>
      intro i x y hi hiN hx hy
      omega
    | succ d ih =>
      intro i x y hi hiN hx hy
      refine g_iload_n cx dX6_others_4 2 rfl ?_
      refine g_bipush (v := 8) cx dX6_others_5 (by decide) ?_
      refine g_icmp_ge (tgt := 33) cx dX6_others_7 (by decide) (fun c_1 => ?_) (fun c_1 => ?_)
      · refine g_iload_n cx dX6_others_33 1 rfl ?_
        exact g_iret cx gr (Nat.zero_le _) (Nat.zero_le _) dX6_others_34 ⟨by rw [hy, show i = 8 by have := ge_of 8 hx c_1 (by omega) (by decide); omega], rfl⟩
      · refine g_iload_n cx dX6_others_10 1 rfl ?_
        refine g_aload_n cx dX6_others_11 0 rfl ?_
        refine g_iload_n cx dX6_others_12 2 rfl ?_
        refine g_iconst (v := 0) cx dX6_others_13 (by decide) ?_
        refine g_VSi (rest := [.int y]) (As := [.int x, .int 0]) cx hYX6_its gX6_others_X6_its (c_X6_its0 l E a c h x (vp_of_nI hx (lt_of 8 hx c_1 (by omega) (by decide)) (by decide))) rfl rfl rfl ⟨Nat.le_of_ble_eq_true rfl, Nat.le_of_ble_eq_true rfl⟩ rfl rfl (Nat.le_of_ble_eq_true rfl) ⟨Nat.le_of_ble_eq_true rfl, Nat.le_of_ble_eq_true rfl⟩ dX6_others_14 (fun r w1 hp => ?_)
        obtain ⟨rfl, rfl⟩ := hp
        refine g_if_eq (tgt := 24) cx dX6_others_17 (by decide) (fun c_2 => ?_) (fun c_2 => ?_)
        · refine g_iconst (v := 0) cx dX6_others_24 (by decide) ?_
          refine g_iadd cx dX6_others_25 ?_
          refine g_istore_n (lv' := [(1, .int (y + 0)), (0, .ref (a 0)), (2, .int x)]) cx dX6_others_26 (by decide) rfl ?_
          refine g_iinc (v := x + 1) (lv' := [(2, .int (x + 1)), (1, .int (y + 0)), (0, .ref (a 0))]) cx dX6_others_27 2 rfl rfl (by decide) rfl ?_
          refine g_goto (tgt := 4) cx dX6_others_30 (by decide) ?_
          exact g_lv [2, 1, 0] rfl (ih (i + 1) (x + 1) (y + 0) (by omega) (by have := lt_of 8 hx c_1 (by omega) (by decide); omega) (by rw [hx]; exact nI_1 i) (by rw [hx, nI_clamp (by omega)] at c_2; rw [hy, cntN, if_pos c_2]; exact Int32.add_zero _))
        · refine g_iconst (v := 1) cx dX6_others_20 (by decide) ?_
          refine g_goto (tgt := 25) cx dX6_others_21 (by decide) ?_
          refine g_iadd cx dX6_others_25 ?_
          refine g_istore_n (lv' := [(1, .int (y + 1)), (0, .ref (a 0)), (2, .int x)]) cx dX6_others_26 (by decide) rfl ?_
          refine g_iinc (v := x + 1) (lv' := [(2, .int (x + 1)), (1, .int (y + 1)), (0, .ref (a 0))]) cx dX6_others_27 2 rfl rfl (by decide) rfl ?_
          refine g_goto (tgt := 4) cx dX6_others_30 (by decide) ?_
          exact g_lv [2, 1, 0] rfl (ih (i + 1) (x + 1) (y + 1) (by omega) (by have := lt_of 8 hx c_1 (by omega) (by decide); omega) (by rw [hx]; exact nI_1 i) (by rw [hx, nI_clamp (by omega)] at c_2; rw [hy, cntN, if_neg c_2]))
  exact g_lv [2, 1, 0] rfl (LP4 9 0 0 0 (by omega) (by omega) rfl rfl)

abbrev rmX6_count : Room := { frames := 3, cells := 0, slots := 0, locals := 66 }
theorem hYX6_count : gY yX6_count wsX6_count cX6_count 2 (some .int) 1 := ⟨⟨_, rfl⟩, by decide +kernel, by decide +kernel, by decide +kernel⟩
theorem iwX6_count_X6 : ∀ w ∈ u_ws RX6 TX6 16, w ∈ wsX6_count := by decide +kernel
theorem lkX6_count_173 : Cond.fieldLink RX6 173 "MuffinBellsModel" "taped" "I" ∈ wsX6_count := by decide +kernel
theorem m1X6_count_c45 : Cond.constant RX6 45 (-1000000001) ∈ wsX6_count := by decide +kernel
set_option maxRecDepth 100000 in
set_option maxHeartbeats 4000000 in
theorem c_X6_count (l : Launch) (E : gE) (a : Nat → Nat) (c : Cor) (h : Mar) (w0 : Int32) (hok : cOk c) : cti l yX6_count wsX6_count rmX6_count E [.ref (a 0), .int w0] (mW E a c h) (fun r w => ∃ h', r = (sp_count c w0).1 ∧ w = mW E a (sp_count c w0).2 h') := by
  refine mt_i (cc := cX6_count) (maxL := 2) (ret := some .int) (lv0 := [(0, .ref (a 0)), (1, .int w0)]) (by decide) rfl rfl (Nat.le_of_ble_eq_true rfl) (fun X cx gr hI => ?_)
  refine g_iload_n cx dX6_count_0 1 rfl ?_
  refine g_tsw cx dX6_count_1 54 (by decide) (fun j hj cs_1 => ?_) (fun cs_1 => ?_)
  · rcases j with _ | _ | _ | _ | j
    · refine ⟨_, 32, rfl, by decide, ?_⟩
      have cs_1 : w0 = 0 := Int32.toInt_inj.mp (cs_1.trans (by decide))
      refine g_aload_n cx dX6_count_32 0 rfl ?_
      refine g_VSi (rest := []) (As := []) cx hYX6_others gX6_count_X6_others (c_X6_others l E a c h  ) rfl rfl rfl ⟨Nat.le_of_ble_eq_true rfl, Nat.le_of_ble_eq_true rfl⟩ rfl rfl (Nat.le_of_ble_eq_true rfl) ⟨Nat.le_of_ble_eq_true rfl, Nat.le_of_ble_eq_true rfl⟩ dX6_count_33 (fun r w1 hp => ?_)
      obtain ⟨rfl, rfl⟩ := hp
      exact g_iret cx gr (Nat.zero_le _) (Nat.zero_le _) dX6_count_36 (mleaf (by first | (simp only [sp_count, tKind, tMood, tPen, tAte, tHour, tTray, tAt, tRang, tCrack, tTak, tWay, cB, cs_1, if_true, if_false]; done) | (simp only [sp_count, tKind, tMood, tPen, tAte, tHour, tTray, tAt, tRang, tCrack, tTak, tWay, cB, cs_1, if_true, if_false] <;> rfl) | (simp [sp_count, tKind, tMood, tPen, tAte, tHour, tTray, tAt, tRang, tCrack, tTak, tWay, cB, cs_1] <;> rfl)))
    · refine ⟨_, 37, rfl, by decide, ?_⟩
      have cs_1 : w0 = 1 := Int32.toInt_inj.mp (cs_1.trans (by decide))
      refine g_aload_n cx dX6_count_37 0 rfl ?_
      refine g_get (C := RX6) (T := TX6) (N := 16) (v := .int c.2.2.2.2.1) cx iwX6_count_X6 0 7 rfl rfl (by decide) lkX6_count_173 rfl dX6_count_38 ?_
      exact g_iret cx gr (Nat.zero_le _) (Nat.zero_le _) dX6_count_41 (mleaf (by first | (simp only [sp_count, tKind, tMood, tPen, tAte, tHour, tTray, tAt, tRang, tCrack, tTak, tWay, cB, cs_1, if_true, if_false]; done) | (simp only [sp_count, tKind, tMood, tPen, tAte, tHour, tTray, tAt, tRang, tCrack, tTak, tWay, cB, cs_1, if_true, if_false] <;> rfl) | (simp [sp_count, tKind, tMood, tPen, tAte, tHour, tTray, tAt, tRang, tCrack, tTak, tWay, cB, cs_1] <;> rfl)))
    · refine ⟨_, 42, rfl, by decide, ?_⟩
      have cs_1 : w0 = 2 := Int32.toInt_inj.mp (cs_1.trans (by decide))
      refine g_aload_n cx dX6_count_42 0 rfl ?_
      refine g_iconst (v := 1) cx dX6_count_43 (by decide) ?_
      refine g_VSi (rest := []) (As := [.int 1]) cx hYX6_together gX6_count_X6_together (c_X6_together1 l E a c h) rfl rfl rfl ⟨Nat.le_of_ble_eq_true rfl, Nat.le_of_ble_eq_true rfl⟩ rfl rfl (Nat.le_of_ble_eq_true rfl) ⟨Nat.le_of_ble_eq_true rfl, Nat.le_of_ble_eq_true rfl⟩ dX6_count_44 (fun r w1 hp => ?_)
      obtain ⟨rfl, rfl⟩ := hp
      exact g_iret cx gr (Nat.zero_le _) (Nat.zero_le _) dX6_count_47 (mleaf (by first | (simp only [sp_count, tKind, tMood, tPen, tAte, tHour, tTray, tAt, tRang, tCrack, tTak, tWay, cB, cs_1, if_true, if_false]; done) | (simp only [sp_count, tKind, tMood, tPen, tAte, tHour, tTray, tAt, tRang, tCrack, tTak, tWay, cB, cs_1, if_true, if_false] <;> rfl) | (simp [sp_count, tKind, tMood, tPen, tAte, tHour, tTray, tAt, tRang, tCrack, tTak, tWay, cB, cs_1] <;> rfl)))
    · refine ⟨_, 48, rfl, by decide, ?_⟩
      have cs_1 : w0 = 3 := Int32.toInt_inj.mp (cs_1.trans (by decide))
      refine g_aload_n cx dX6_count_48 0 rfl ?_
      refine g_iconst (v := 3) cx dX6_count_49 (by decide) ?_
      refine g_VSi (rest := []) (As := [.int 3]) cx hYX6_together gX6_count_X6_together (c_X6_together3 l E a c h) rfl rfl rfl ⟨Nat.le_of_ble_eq_true rfl, Nat.le_of_ble_eq_true rfl⟩ rfl rfl (Nat.le_of_ble_eq_true rfl) ⟨Nat.le_of_ble_eq_true rfl, Nat.le_of_ble_eq_true rfl⟩ dX6_count_50 (fun r w1 hp => ?_)
      obtain ⟨rfl, rfl⟩ := hp
      exact g_iret cx gr (Nat.zero_le _) (Nat.zero_le _) dX6_count_53 (mleaf (by first | (simp only [sp_count, tKind, tMood, tPen, tAte, tHour, tTray, tAt, tRang, tCrack, tTak, tWay, cB, cs_1, if_true, if_false]; done) | (simp only [sp_count, tKind, tMood, tPen, tAte, tHour, tTray, tAt, tRang, tCrack, tTak, tWay, cB, cs_1, if_true, if_false] <;> rfl) | (simp [sp_count, tKind, tMood, tPen, tAte, tHour, tTray, tAt, tRang, tCrack, tTak, tWay, cB, cs_1] <;> rfl)))
    · exact absurd hj (by omega)
  · have hsx := cs_1
    have cs_1_0 : ¬ w0 = 0 := sw_ne cs_1 (by decide)
    have cs_1_1 : ¬ w0 = 1 := sw_ne cs_1 (by decide)
    have cs_1_2 : ¬ w0 = 2 := sw_ne cs_1 (by decide)
    have cs_1_3 : ¬ w0 = 3 := sw_ne cs_1 (by decide)
    refine g_aload_n cx dX6_count_54 0 rfl ?_
    refine g_ldc cx m1X6_count_c45 dX6_count_55 ?_
    refine g_VSi (rest := []) (As := [.int (-1000000001)]) cx hYX6_finds gX6_count_X6_finds (c_X6_finds l E a c h (-1000000001) (by unfold vp_in; decide +kernel)) rfl rfl rfl ⟨Nat.le_of_ble_eq_true rfl, Nat.le_of_ble_eq_true rfl⟩ rfl rfl (Nat.le_of_ble_eq_true rfl) ⟨Nat.le_of_ble_eq_true rfl, Nat.le_of_ble_eq_true rfl⟩ dX6_count_57 (fun r w1 hp => ?_)
    obtain ⟨rfl, rfl⟩ := hp
    exact g_iret cx gr (Nat.zero_le _) (Nat.zero_le _) dX6_count_60 (mleaf (by first | (simp only [sp_count, tKind, tMood, tPen, tAte, tHour, tTray, tAt, tRang, tCrack, tTak, tWay, cB, cs_1_0, cs_1_1, cs_1_2, cs_1_3, if_true, if_false]; done) | (simp only [sp_count, tKind, tMood, tPen, tAte, tHour, tTray, tAt, tRang, tCrack, tTak, tWay, cB, cs_1_0, cs_1_1, cs_1_2, cs_1_3, if_true, if_false] <;> rfl) | (simp [sp_count, tKind, tMood, tPen, tAte, tHour, tTray, tAt, tRang, tCrack, tTak, tWay, cB, cs_1_0, cs_1_1, cs_1_2, cs_1_3] <;> rfl)))

theorem st_leaf {c : Cor} {w y : Int32} {i : Nat} (h : ¬ isW w (-1) 6 = 0) (hy : y = stS c.2.2.2.2.2.2.2.2 w i) (hi : i = 7) : sp_status c w = (y, c) := by
  subst hi
  rw [sp_status, hy]
  by_cases h1 : w = -1
  · subst h1
    rw [if_pos rfl, stS_m (by decide)]
  · have h2 : ¬ isW w 0 6 = 0 := fun q => h (rang_w.mpr ⟨h1, q⟩)
    rw [if_neg h1, if_neg h2]
    obtain ⟨j, hj, rfl⟩ := isW_nI 6 h2 (by decide)
    rw [stS_j (by omega) 7 (by decide), if_pos (by omega), nI_clamp (by omega)]
theorem st_b {c : Cor} {w : Int32} (h : isW w (-1) 6 = 0) : sp_status c w = cB (-1000000001) c := by
  obtain ⟨h1, h2⟩ := rang_w.mp h
  rw [sp_status, if_neg h1, if_pos h2]

abbrev rmX6_status : Room := { frames := 1, cells := 0, slots := 0, locals := 25 }
theorem hYX6_status : gY yX6_status wsX6_status cX6_status 4 (some .int) 1 := ⟨⟨_, rfl⟩, by decide +kernel, by decide +kernel, by decide +kernel⟩
theorem m1X6_status_c62 : Cond.constantLong RX6 62 (-1) ∈ wsX6_status := by decide +kernel
theorem m1X6_status_c52 : Cond.constantLong RX6 52 (6) ∈ wsX6_status := by decide +kernel
theorem iwX6_status_X6 : ∀ w ∈ u_ws RX6 TX6 16, w ∈ wsX6_status := by decide +kernel
theorem lkX6_status_22 : Cond.fieldLink RX6 22 "MuffinBellsModel" "statuses" "[I" ∈ wsX6_status := by decide +kernel
theorem m1X6_status_c45 : Cond.constant RX6 45 (-1000000001) ∈ wsX6_status := by decide +kernel
set_option maxRecDepth 100000 in
set_option maxHeartbeats 4000000 in
theorem c_X6_status (l : Launch) (E : gE) (a : Nat → Nat) (c : Cor) (h : Mar) (w0 : Int32) (hok : cOk c) : cti l yX6_status wsX6_status rmX6_status E [.ref (a 0), .int w0] (mW E a c h) (fun r w => ∃ h', r = (sp_status c w0).1 ∧ w = mW E a (sp_status c w0).2 h') := by
  refine mt_i (cc := cX6_status) (maxL := 4) (ret := some .int) (lv0 := [(0, .ref (a 0)), (1, .int w0)]) (by decide) rfl rfl (Nat.le_of_ble_eq_true rfl) (fun X cx gr hI => ?_)
  refine g_iload_n cx dX6_status_0 1 rfl ?_
  refine g_i2l cx dX6_status_1 ?_
  refine g_ldc2 cx m1X6_status_c62 dX6_status_2 ?_
  refine g_ldc2 cx m1X6_status_c52 dX6_status_5 ?_
  refine g_SPi (rest := []) (As := [.long w0.toInt64, .long (-1), .long 6]) cx hYX6_in gX6_status_X6_in (c_X6_inW l E w0 (-1) 6 (-1) 6 (by decide) (by decide)) ⟨Nat.le_of_ble_eq_true rfl, Nat.le_of_ble_eq_true rfl⟩ rfl rfl (Nat.le_of_ble_eq_true rfl) ⟨Nat.le_of_ble_eq_true rfl, Nat.le_of_ble_eq_true rfl⟩ dX6_status_8 ?_
  refine g_if_ne (tgt := 21) cx dX6_status_11 (by decide) (fun c_1 => ?_) (fun c_1 => ?_)
  · refine g_iconst (v := 0) cx dX6_status_21 (by decide) ?_
    refine g_istore_n (lv' := [(2, .int 0), (0, .ref (a 0)), (1, .int w0)]) cx dX6_status_22 (by decide) rfl ?_
    refine g_iconst (v := 0) cx dX6_status_23 (by decide) ?_
    refine g_istore_n (lv' := [(3, .int 0), (2, .int 0), (0, .ref (a 0)), (1, .int w0)]) cx dX6_status_24 (by decide) rfl ?_
    have LP25 : ∀ (d : Nat) (i : Nat) (x : Int32) (y : Int32), i + d = 8 → i ≤ 7 → x = nI i → y = stS c.2.2.2.2.2.2.2.2 w0 i → gG X 0 0 (mW E a c h) 25 [(0, .ref (a 0)), (1, .int w0), (2, .int y), (3, .int x)] [] := by
      intro d
      induction d with
      | zero =>
        intro i x y hi hiN hx hy
        omega
      | succ d ih =>
        intro i x y hi hiN hx hy
        refine g_iload_n cx dX6_status_25 3 rfl ?_
        refine g_bipush (v := 7) cx dX6_status_26 (by decide) ?_
        refine g_icmp_ge (tgt := 59) cx dX6_status_28 (by decide) (fun c_2 => ?_) (fun c_2 => ?_)
        · refine g_iload_n cx dX6_status_59 2 rfl ?_
          exact g_iret cx gr (Nat.zero_le _) (Nat.zero_le _) dX6_status_60 (mleaf (st_leaf c_1 hy (by have := ge_of 7 hx c_2 (by omega) (by decide); omega)))
        · refine g_iload_n cx dX6_status_31 2 rfl ?_
          refine g_iload_n cx dX6_status_32 1 rfl ?_
          refine g_if_lt (tgt := 41) cx dX6_status_33 (by decide) (fun c_3 => ?_) (fun c_3 => ?_)
          · refine g_aload_n cx dX6_status_41 0 rfl ?_
            refine g_get (C := RX6) (T := TX6) (N := 16) (v := .ref (a 5)) cx iwX6_status_X6 0 4 rfl rfl (by decide) lkX6_status_22 rfl dX6_status_42 ?_
            refine g_iload_n cx dX6_status_45 3 rfl ?_
            refine g_iald cx 5 rfl rfl (vp_of_nI hx (lt_of 7 hx c_2 (by omega) (by decide)) (by decide)) dX6_status_46 ?_
            refine g_goto (tgt := 51) cx dX6_status_47 (by decide) ?_
            refine g_iadd cx dX6_status_51 ?_
            refine g_istore_n (lv' := [(2, .int (y + (c.2.2.2.2.2.2.2.2 (x.toNatClampNeg)))), (0, .ref (a 0)), (1, .int w0), (3, .int x)]) cx dX6_status_52 (by decide) rfl ?_
            refine g_iinc (v := x + 1) (lv' := [(3, .int (x + 1)), (2, .int (y + (c.2.2.2.2.2.2.2.2 (x.toNatClampNeg)))), (0, .ref (a 0)), (1, .int w0)]) cx dX6_status_53 3 rfl rfl (by decide) rfl ?_
            refine g_goto (tgt := 25) cx dX6_status_56 (by decide) ?_
            exact g_lv [2, 3, 1, 0] rfl (ih (i + 1) (x + 1) (y + (c.2.2.2.2.2.2.2.2 (x.toNatClampNeg))) (by omega) (by have := (lt_of 7 hx c_2 (by omega) (by decide)); omega) (by rw [hx]; exact nI_1 i) (by rw [hy, stS, if_pos c_3, hx, nI_clamp (by omega)]))
          · refine g_iload_n cx dX6_status_36 3 rfl ?_
            refine g_iload_n cx dX6_status_37 1 rfl ?_
            refine g_icmp_ne (tgt := 50) cx dX6_status_38 (by decide) (fun c_4 => ?_) (fun c_4 => ?_)
            · refine g_iconst (v := 0) cx dX6_status_50 (by decide) ?_
              refine g_iadd cx dX6_status_51 ?_
              refine g_istore_n (lv' := [(2, .int (y + 0)), (0, .ref (a 0)), (1, .int w0), (3, .int x)]) cx dX6_status_52 (by decide) rfl ?_
              refine g_iinc (v := x + 1) (lv' := [(3, .int (x + 1)), (2, .int (y + 0)), (0, .ref (a 0)), (1, .int w0)]) cx dX6_status_53 3 rfl rfl (by decide) rfl ?_
              refine g_goto (tgt := 25) cx dX6_status_56 (by decide) ?_
              exact g_lv [2, 3, 1, 0] rfl (ih (i + 1) (x + 1) (y + 0) (by omega) (by have := (lt_of 7 hx c_2 (by omega) (by decide)); omega) (by rw [hx]; exact nI_1 i) (by rw [hy, stS, if_neg c_3, if_neg (by rw [← hx]; exact c_4)]))
            · refine g_aload_n cx dX6_status_41 0 rfl ?_
              refine g_get (C := RX6) (T := TX6) (N := 16) (v := .ref (a 5)) cx iwX6_status_X6 0 4 rfl rfl (by decide) lkX6_status_22 rfl dX6_status_42 ?_
              refine g_iload_n cx dX6_status_45 3 rfl ?_
              refine g_iald cx 5 rfl rfl (vp_of_nI hx (lt_of 7 hx c_2 (by omega) (by decide)) (by decide)) dX6_status_46 ?_
              refine g_goto (tgt := 51) cx dX6_status_47 (by decide) ?_
              refine g_iadd cx dX6_status_51 ?_
              refine g_istore_n (lv' := [(2, .int (y + (c.2.2.2.2.2.2.2.2 (x.toNatClampNeg)))), (0, .ref (a 0)), (1, .int w0), (3, .int x)]) cx dX6_status_52 (by decide) rfl ?_
              refine g_iinc (v := x + 1) (lv' := [(3, .int (x + 1)), (2, .int (y + (c.2.2.2.2.2.2.2.2 (x.toNatClampNeg)))), (0, .ref (a 0)), (1, .int w0)]) cx dX6_status_53 3 rfl rfl (by decide) rfl ?_
              refine g_goto (tgt := 25) cx dX6_status_56 (by decide) ?_
              exact g_lv [2, 3, 1, 0] rfl (ih (i + 1) (x + 1) (y + (c.2.2.2.2.2.2.2.2 (x.toNatClampNeg))) (by omega) (by have := (lt_of 7 hx c_2 (by omega) (by decide)); omega) (by rw [hx]; exact nI_1 i) (by rw [hy, stS, if_neg c_3, if_pos (by rw [← hx]; exact c_4), hx, nI_clamp (by omega)]))
    exact g_lv [2, 3, 1, 0] rfl (LP25 8 0 0 0 (by omega) (by omega) rfl rfl)
  · refine g_aload_n cx dX6_status_14 0 rfl ?_
    refine g_ldc cx m1X6_status_c45 dX6_status_15 ?_
    refine g_VSi (rest := []) (As := [.int (-1000000001)]) cx hYX6_finds gX6_status_X6_finds (c_X6_finds l E a c h (-1000000001) (by unfold vp_in; decide +kernel)) rfl rfl rfl ⟨Nat.le_of_ble_eq_true rfl, Nat.le_of_ble_eq_true rfl⟩ rfl rfl (Nat.le_of_ble_eq_true rfl) ⟨Nat.le_of_ble_eq_true rfl, Nat.le_of_ble_eq_true rfl⟩ dX6_status_17 (fun r w1 hp => ?_)
    obtain ⟨rfl, rfl⟩ := hp
    exact g_iret cx gr (Nat.zero_le _) (Nat.zero_le _) dX6_status_20 (mleaf (st_b c_1))

theorem brs_1 {x : Int32} {k : Nat} (hx : x = nI k - 1) (hk : k ≤ 120) (c : x < 0) : k = 0 := by
  rcases k with _ | k
  · rfl
  · rw [hx, nI_pred] at c
    exact absurd c (nI_pos (by omega))

abbrev rmX6_feed : Room := { frames := 1, cells := 0, slots := 0, locals := 25 }
theorem hYX6_feed : gY yX6_feed wsX6_feed cX6_feed 4 (some .int) 2 := ⟨⟨_, rfl⟩, by decide +kernel, by decide +kernel, by decide +kernel⟩
theorem m1X6_feed_c96 : Cond.constantLong RX6 96 (4) ∈ wsX6_feed := by decide +kernel
theorem iwX6_feed_X6 : ∀ w ∈ u_ws RX6 TX6 16, w ∈ wsX6_feed := by decide +kernel
theorem lkX6_feed_173 : Cond.fieldLink RX6 173 "MuffinBellsModel" "taped" "I" ∈ wsX6_feed := by decide +kernel
theorem lkX6_feed_25 : Cond.fieldLink RX6 25 "MuffinBellsModel" "tape" "[I" ∈ wsX6_feed := by decide +kernel
theorem m1X6_feed_c177 : Cond.constant RX6 177 (-1000000002) ∈ wsX6_feed := by decide +kernel
theorem m1X6_feed_c45 : Cond.constant RX6 45 (-1000000001) ∈ wsX6_feed := by decide +kernel
set_option maxRecDepth 100000 in
set_option maxHeartbeats 4000000 in
theorem c_X6_feed (l : Launch) (E : gE) (a : Nat → Nat) (c : Cor) (h : Mar) (b0 : Int32) (n0 : Int32) (hok : cOk c) : cti l yX6_feed wsX6_feed rmX6_feed E [.ref (a 0), .int b0, .int n0] (mW E a c h) (fun r w => ∃ h', r = (sp_feed c b0 n0).1 ∧ w = mW E a (sp_feed c b0 n0).2 h') := by
  refine mt_i (cc := cX6_feed) (maxL := 4) (ret := some .int) (lv0 := [(0, .ref (a 0)), (1, .int b0), (2, .int n0)]) (by decide) rfl rfl (Nat.le_of_ble_eq_true rfl) (fun X cx gr hI => ?_)
  refine g_iload_n cx dX6_feed_0 2 rfl ?_
  refine g_i2l cx dX6_feed_1 ?_
  refine g_lconst (v := 1) cx dX6_feed_2 (by decide) ?_
  refine g_ldc2 cx m1X6_feed_c96 dX6_feed_3 ?_
  refine g_SPi (rest := []) (As := [.long n0.toInt64, .long 1, .long 4]) cx hYX6_in gX6_feed_X6_in (c_X6_inW l E n0 1 4 1 4 (by decide) (by decide)) ⟨Nat.le_of_ble_eq_true rfl, Nat.le_of_ble_eq_true rfl⟩ rfl rfl (Nat.le_of_ble_eq_true rfl) ⟨Nat.le_of_ble_eq_true rfl, Nat.le_of_ble_eq_true rfl⟩ dX6_feed_6 ?_
  refine g_if_ne (tgt := 19) cx dX6_feed_9 (by decide) (fun c_1 => ?_) (fun c_1 => ?_)
  · obtain ⟨N, hN1, hN, rfl⟩ := isW_nI1 4 c_1 (by decide)
    have hNc : (nI N).toNatClampNeg = N := nI_clamp (by omega)
    refine g_aload_n cx dX6_feed_19 0 rfl ?_
    refine g_get (C := RX6) (T := TX6) (N := 16) (v := .int c.2.2.2.2.1) cx iwX6_feed_X6 0 7 rfl rfl (by decide) lkX6_feed_173 rfl dX6_feed_20 ?_
    refine g_iload_n cx dX6_feed_23 2 rfl ?_
    refine g_iadd cx dX6_feed_24 ?_
    refine g_bipush (v := 120) cx dX6_feed_25 (by decide) ?_
    refine g_icmp_le (tgt := 37) cx dX6_feed_27 (by decide) (fun c_2 => ?_) (fun c_2 => ?_)
    · obtain ⟨T, hT1, hT⟩ := tl_nI hok
      refine g_iload_n cx dX6_feed_37 2 rfl ?_
      refine g_iconst (v := 1) cx dX6_feed_38 (by decide) ?_
      refine g_isub cx dX6_feed_39 ?_
      refine g_istore_n (lv' := [(3, .int ((nI N) - 1)), (0, .ref (a 0)), (1, .int b0), (2, .int (nI N))]) cx dX6_feed_40 (by decide) rfl ?_
      have LP41 : ∀ (d : Nat) (k : Nat) (x : Int32) (u : (Nat → Int32) × Int32) (T : Nat), d = k + 1 → T + k ≤ 120 → x = nI k - 1 → u.2 = nI T → feedL b0 N (c.2.2.2.1, c.2.2.2.2.1) = feedL b0 k u → gG X 0 0 (mW E a (c.1, c.2.1, c.2.2.1, u.1, u.2, c.2.2.2.2.2.1, c.2.2.2.2.2.2.1, c.2.2.2.2.2.2.2.1, c.2.2.2.2.2.2.2.2) h) 41 [(0, .ref (a 0)), (1, .int b0), (3, .int x)] [] := by
        intro d
        induction d with
        | zero =>
          intro k x u T hi hk hx hT hf
          omega
        | succ d ih =>
          intro k x u T hi hk hx hT hf
          refine g_iload_n cx dX6_feed_41 2 rfl ?_
          refine g_if_lt (tgt := 80) cx dX6_feed_42 (by decide) (fun c_3 => ?_) (fun c_3 => ?_)
          · refine g_aload_n cx dX6_feed_80 0 rfl ?_
            refine g_get (C := RX6) (T := TX6) (N := 16) (v := .int u.2) cx iwX6_feed_X6 0 7 rfl rfl (by decide) lkX6_feed_173 rfl dX6_feed_81 ?_
            exact g_iret cx gr (Nat.zero_le _) (Nat.zero_le _) dX6_feed_84 (mleaf (by rw [sp_feed, if_neg c_1, if_pos c_2, hNc, hf, show k = 0 from brs_1 hx (by omega) c_3]; rfl))
          · obtain ⟨j, rfl⟩ : ∃ j, k = j + 1 := by
              rcases k with _ | k
              · exact absurd (by rw [hx]; decide) c_3
              · exact ⟨k, rfl⟩
            have hxj : x = nI j := by rw [hx, nI_pred]
            refine g_aload_n cx dX6_feed_45 0 rfl ?_
            refine g_get (C := RX6) (T := TX6) (N := 16) (v := .ref (a 6)) cx iwX6_feed_X6 0 6 rfl rfl (by decide) lkX6_feed_25 rfl dX6_feed_46 ?_
            refine g_aload_n cx dX6_feed_49 0 rfl ?_
            refine g_get (C := RX6) (T := TX6) (N := 16) (v := .int u.2) cx iwX6_feed_X6 0 7 rfl rfl (by decide) lkX6_feed_173 rfl dX6_feed_50 ?_
            refine g_iload_n cx dX6_feed_53 1 rfl ?_
            refine g_bipush (v := 8) cx dX6_feed_54 (by decide) ?_
            refine g_iload_n cx dX6_feed_56 2 rfl ?_
            refine g_imul cx dX6_feed_57 ?_
            refine g_ishr cx dX6_feed_58 ?_
            refine g_sipush (v := 255) cx dX6_feed_59 (by decide) ?_
            refine g_iand cx dX6_feed_62 ?_
            refine g_iast (ws' := (mW E a (c.1, c.2.1, c.2.2.1, upd u.1 u.2.toNatClampNeg ((b0 >>> ((8 * x) &&& 31)) &&& 255), u.2, c.2.2.2.2.2.1, c.2.2.2.2.2.2.1, c.2.2.2.2.2.2.2.1, c.2.2.2.2.2.2.2.2) h)) cx 6 rfl rfl (vp_of_nI hT (by omega) (by decide)) dX6_feed_63 rfl ?_
            refine g_aload_n cx dX6_feed_64 0 rfl ?_
            refine g_dup cx dX6_feed_65 rfl ?_
            refine g_get (C := RX6) (T := TX6) (N := 16) (v := .int u.2) cx iwX6_feed_X6 0 7 rfl rfl (by decide) lkX6_feed_173 rfl dX6_feed_66 ?_
            refine g_iconst (v := 1) cx dX6_feed_69 (by decide) ?_
            refine g_iadd cx dX6_feed_70 ?_
            refine g_put (C := RX6) (T := TX6) (N := 16) (ws' := (mW E a (c.1, c.2.1, c.2.2.1, upd u.1 u.2.toNatClampNeg ((b0 >>> ((8 * x) &&& 31)) &&& 255), u.2 + 1, c.2.2.2.2.2.1, c.2.2.2.2.2.2.1, c.2.2.2.2.2.2.2.1, c.2.2.2.2.2.2.2.2) h)) cx iwX6_feed_X6 tyX6 tyX6_ok nmX6 0 7 rfl rfl (by decide) lkX6_feed_173 rfl rfl rfl (Nat.le_of_ble_eq_true rfl) dX6_feed_71 rfl ?_
            refine g_iinc (v := x + (-1)) (lv' := [(3, .int (x + (-1))), (0, .ref (a 0)), (1, .int b0)]) cx dX6_feed_74 2 rfl rfl (by decide) rfl ?_
            refine g_goto (tgt := 41) cx dX6_feed_77 (by decide) ?_
            exact g_lv [1, 2, 0] rfl (ih j (x + (-1)) (upd u.1 u.2.toNatClampNeg ((b0 >>> ((8 * x) &&& 31)) &&& 255), u.2 + 1) (T + 1) (by omega) (by omega) (by rw [hxj]; exact sub1 j) (by show u.2 + 1 = _; rw [hT]; exact nI_1 T) (by rw [hf, feedL, hxj, show (8 : Int32) * nI j = nI (8 * j) from pk_mul 8 j]))
      exact g_lv [1, 2, 0] rfl (LP41 (N + 1) N _ (c.2.2.2.1, c.2.2.2.2.1) T (by omega) (tl_le hT hT1 hN c_2) rfl hT rfl)
    · refine g_aload_n cx dX6_feed_30 0 rfl ?_
      refine g_ldc cx m1X6_feed_c177 dX6_feed_31 ?_
      refine g_VSi (rest := []) (As := [.int (-1000000002)]) cx hYX6_finds gX6_feed_X6_finds (c_X6_finds l E a c h (-1000000002) (by unfold vp_in; decide +kernel)) rfl rfl rfl ⟨Nat.le_of_ble_eq_true rfl, Nat.le_of_ble_eq_true rfl⟩ rfl rfl (Nat.le_of_ble_eq_true rfl) ⟨Nat.le_of_ble_eq_true rfl, Nat.le_of_ble_eq_true rfl⟩ dX6_feed_33 (fun r w1 hp => ?_)
      obtain ⟨rfl, rfl⟩ := hp
      exact g_iret cx gr (Nat.zero_le _) (Nat.zero_le _) dX6_feed_36 (mleaf (by rw [sp_feed, if_neg c_1, if_neg c_2]; rfl))
  · refine g_aload_n cx dX6_feed_12 0 rfl ?_
    refine g_ldc cx m1X6_feed_c45 dX6_feed_13 ?_
    refine g_VSi (rest := []) (As := [.int (-1000000001)]) cx hYX6_finds gX6_feed_X6_finds (c_X6_finds l E a c h (-1000000001) (by unfold vp_in; decide +kernel)) rfl rfl rfl ⟨Nat.le_of_ble_eq_true rfl, Nat.le_of_ble_eq_true rfl⟩ rfl rfl (Nat.le_of_ble_eq_true rfl) ⟨Nat.le_of_ble_eq_true rfl, Nat.le_of_ble_eq_true rfl⟩ dX6_feed_15 (fun r w1 hp => ?_)
    obtain ⟨rfl, rfl⟩ := hp
    exact g_iret cx gr (Nat.zero_le _) (Nat.zero_le _) dX6_feed_18 (mleaf (by first | (simp only [sp_feed, tKind, tMood, tPen, tAte, tHour, tTray, tAt, tRang, tCrack, tTak, tWay, cB, c_1, if_true, if_false]; done) | (simp only [sp_feed, tKind, tMood, tPen, tAte, tHour, tTray, tAt, tRang, tCrack, tTak, tWay, cB, c_1, if_true, if_false] <;> rfl) | (simp [sp_feed, tKind, tMood, tPen, tAte, tHour, tTray, tAt, tRang, tCrack, tTak, tWay, cB, c_1] <;> rfl)))
