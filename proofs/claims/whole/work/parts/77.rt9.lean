abbrev rmX6_manItem : Room := { frames := 5, cells := 0, slots := 0, locals := 113 }
theorem hYX6_manItem : gY yX6_manItem wsX6_manItem cX6_manItem 1 (none) 0 := ⟨⟨_, rfl⟩, by decide +kernel, by decide +kernel, by decide +kernel⟩
theorem iwX6_manItem_X6 : ∀ w ∈ u_ws RX6 TX6 16, w ∈ wsX6_manItem := by decide +kernel
theorem lkX6_manItem_201 : Cond.fieldLink RX6 201 "MuffinBellsModel" "isWrong" "Z" ∈ wsX6_manItem := by decide +kernel
theorem lkX6_manItem_7 : Cond.fieldLink RX6 7 "MuffinBellsModel" "s" "[I" ∈ wsX6_manItem := by decide +kernel
theorem lkX6_manItem_212 : Cond.fieldLink RX6 212 "MuffinBellsModel" "value" "I" ∈ wsX6_manItem := by decide +kernel
theorem m1X6_manItem_c246 : Cond.constantLong RX6 246 (66667) ∈ wsX6_manItem := by decide +kernel
set_option maxRecDepth 100000 in
set_option maxHeartbeats 4000000 in
theorem c_X6_manItem (l : Launch) (E : gE) (a : Nat → Nat) (c : Cor) (h : Mar) (b : Nat → Int32) (T : Nat) (t : Ter) (P : Nat) (v : Int32) (hT : T ≤ 120) (hP : P ≤ T) : ctv l yX6_manItem wsX6_manItem rmX6_manItem E [.ref (a 0)] (mW E a (t, c.2.1, c.2.2.1, b, nI T, c.2.2.2.2.2.1, c.2.2.2.2.2.2.1, c.2.2.2.2.2.2.2.1, c.2.2.2.2.2.2.2.2) (h.1, h.2.1, nI P, nI (tkE b T P), v, 0, h.2.2.2.2.2.2)) (fun w => ((mnT b T P v t).1 = 0 ∧ ∃ v' t', w = (mW E a (t', c.2.1, c.2.2.1, b, nI T, c.2.2.2.2.2.1, c.2.2.2.2.2.2.1, c.2.2.2.2.2.2.2.1, c.2.2.2.2.2.2.2.2) (h.1, h.2.1, nI ((mnT b T P v t).2.1), nI (tkE b T ((mnT b T P v t).2.1)), v', 1, h.2.2.2.2.2.2))) ∨ (¬ (mnT b T P v t).1 = 0 ∧ ∃ v', w = (mW E a (((mnT b T P v t).2.2.2), c.2.1, c.2.2.1, b, nI T, c.2.2.2.2.2.1, c.2.2.2.2.2.2.1, c.2.2.2.2.2.2.2.1, c.2.2.2.2.2.2.2.2) (h.1, h.2.1, nI ((mnT b T P v t).2.1), nI (tkE b T ((mnT b T P v t).2.1)), v', 0, h.2.2.2.2.2.2)))) := by
  refine mt_v (cc := cX6_manItem) (maxL := 1) (ret := none) (lv0 := [(0, .ref (a 0))]) (by decide) rfl rfl (Nat.le_of_ble_eq_true rfl) (fun X cx gr hI => ?_)
  refine g_aload_n cx dX6_manItem_0 0 rfl ?_
  refine g_iconst (v := 1) cx dX6_manItem_1 (by decide) ?_
  refine g_VSv (rest := []) (As := [.int 1]) cx hYX6_must gX6_manItem_X6_must (c_X6_must_1 l E a c h b T t P v hT hP) rfl rfl rfl ⟨Nat.le_of_ble_eq_true rfl, Nat.le_of_ble_eq_true rfl⟩ rfl rfl (Nat.le_of_ble_eq_true rfl) ⟨Nat.le_of_ble_eq_true rfl, Nat.le_of_ble_eq_true rfl⟩ dX6_manItem_2 (fun w1 hp => ?_)
  obtain rfl := hp
  refine g_aload_n cx dX6_manItem_5 0 rfl ?_
  refine g_iconst (v := 0) cx dX6_manItem_6 (by decide) ?_
  refine g_bipush (v := 7) cx dX6_manItem_7 (by decide) ?_
  refine g_VSv (rest := []) (As := [.int 0, .int 7]) cx hYX6_number gX6_manItem_X6_number (c_X6_number l E a c h b T t P v v 7 hT hP (by decide)) rfl rfl rfl ⟨Nat.le_of_ble_eq_true rfl, Nat.le_of_ble_eq_true rfl⟩ rfl rfl (Nat.le_of_ble_eq_true rfl) ⟨Nat.le_of_ble_eq_true rfl, Nat.le_of_ble_eq_true rfl⟩ dX6_manItem_9 (fun w1 hp => ?_)
  rcases hp with ⟨hn_1, v_2, rfl⟩ | ⟨hn_1, rfl⟩
  · replace hn_1 : (nmN b T P 7 v).1 = 0 := hn_1
    refine g_w (show _ = (mW E a (t, c.2.1, c.2.2.1, b, nI T, c.2.2.2.2.2.1, c.2.2.2.2.2.2.1, c.2.2.2.2.2.2.2.1, c.2.2.2.2.2.2.2.2) (h.1, h.2.1, nI (nmN b T P 7 v).2.1, nI (tkE b T (nmN b T P 7 v).2.1), v_2, 1, h.2.2.2.2.2.2)) from rfl) ?_
    refine g_aload_n cx dX6_manItem_12 0 rfl ?_
    refine g_get (C := RX6) (T := TX6) (N := 16) (v := .int 1) cx iwX6_manItem_X6 0 11 rfl rfl (by decide) lkX6_manItem_201 rfl dX6_manItem_13 ?_
    refine g_if_eq (tgt := 20) cx dX6_manItem_16 (by decide) (fun c_4 => absurd c_4 (by decide)) (fun c_4 => ?_)
    exact g_vret cx gr (Nat.zero_le _) (Nat.zero_le _) dX6_manItem_19 (z_l (by rw [mnT, if_pos hn_1]))
  · replace hn_1 : ¬ (nmN b T P 7 v).1 = 0 := hn_1
    refine g_w (show _ = (mW E a (t, c.2.1, c.2.2.1, b, nI T, c.2.2.2.2.2.1, c.2.2.2.2.2.2.1, c.2.2.2.2.2.2.2.1, c.2.2.2.2.2.2.2.2) (h.1, h.2.1, nI (nmN b T P 7 v).2.1, nI (tkE b T (nmN b T P 7 v).2.1), (nmN b T P 7 v).2.2, 0, h.2.2.2.2.2.2)) from rfl) ?_
    refine g_aload_n cx dX6_manItem_12 0 rfl ?_
    refine g_get (C := RX6) (T := TX6) (N := 16) (v := .int 0) cx iwX6_manItem_X6 0 11 rfl rfl (by decide) lkX6_manItem_201 rfl dX6_manItem_13 ?_
    refine g_if_eq (tgt := 20) cx dX6_manItem_16 (by decide) (fun c_5 => ?_) (fun c_5 => absurd (rfl) c_5)
    refine g_aload_n cx dX6_manItem_20 0 rfl ?_
    refine g_get (C := RX6) (T := TX6) (N := 16) (v := .ref (a 1)) cx iwX6_manItem_X6 0 0 rfl rfl (by decide) lkX6_manItem_7 rfl dX6_manItem_21 ?_
    refine g_iconst (v := 1) cx dX6_manItem_24 (by decide) ?_
    refine g_aload_n cx dX6_manItem_25 0 rfl ?_
    refine g_get (C := RX6) (T := TX6) (N := 16) (v := .int ((nmN b T P 7 v).2.2)) cx iwX6_manItem_X6 0 10 rfl rfl (by decide) lkX6_manItem_212 rfl dX6_manItem_26 ?_
    refine g_iast (ws' := (mW E a ((t.1, ((nmN b T P 7 v).2.2), t.2.2.1, t.2.2.2.1, t.2.2.2.2.1, t.2.2.2.2.2.1, t.2.2.2.2.2.2.1, t.2.2.2.2.2.2.2.1, t.2.2.2.2.2.2.2.2.1, t.2.2.2.2.2.2.2.2.2.1, t.2.2.2.2.2.2.2.2.2.2), c.2.1, c.2.2.1, b, nI T, c.2.2.2.2.2.1, c.2.2.2.2.2.2.1, c.2.2.2.2.2.2.2.1, c.2.2.2.2.2.2.2.2) (h.1, h.2.1, nI (nmN b T P 7 v).2.1, nI (tkE b T (nmN b T P 7 v).2.1), (nmN b T P 7 v).2.2, 0, h.2.2.2.2.2.2))) cx 1 rfl rfl (by unfold vp_in; decide +kernel) dX6_manItem_29 (congrArg (fun f => List.set (mW E a (t, c.2.1, c.2.2.1, b, nI T, c.2.2.2.2.2.1, c.2.2.2.2.2.2.1, c.2.2.2.2.2.2.2.1, c.2.2.2.2.2.2.2.2) (h.1, h.2.1, nI (nmN b T P 7 v).2.1, nI (tkE b T (nmN b T P 7 v).2.1), (nmN b T P 7 v).2.2, 0, h.2.2.2.2.2.2)) 1 (a 1, .inl (gI E, 39, .inl f))) (eu_1 t ((nmN b T P 7 v).2.2))) ?_
    refine g_aload_n cx dX6_manItem_30 0 rfl ?_
    refine g_get (C := RX6) (T := TX6) (N := 16) (v := .ref (a 1)) cx iwX6_manItem_X6 0 0 rfl rfl (by decide) lkX6_manItem_7 rfl dX6_manItem_31 ?_
    refine g_iconst (v := 2) cx dX6_manItem_34 (by decide) ?_
    refine g_iconst (v := 1) cx dX6_manItem_35 (by decide) ?_
    refine g_iast (ws' := (mW E a ((t.1, ((nmN b T P 7 v).2.2), 1, t.2.2.2.1, t.2.2.2.2.1, t.2.2.2.2.2.1, t.2.2.2.2.2.2.1, t.2.2.2.2.2.2.2.1, t.2.2.2.2.2.2.2.2.1, t.2.2.2.2.2.2.2.2.2.1, t.2.2.2.2.2.2.2.2.2.2), c.2.1, c.2.2.1, b, nI T, c.2.2.2.2.2.1, c.2.2.2.2.2.2.1, c.2.2.2.2.2.2.2.1, c.2.2.2.2.2.2.2.2) (h.1, h.2.1, nI (nmN b T P 7 v).2.1, nI (tkE b T (nmN b T P 7 v).2.1), (nmN b T P 7 v).2.2, 0, h.2.2.2.2.2.2))) cx 1 rfl rfl (by unfold vp_in; decide +kernel) dX6_manItem_36 (congrArg (fun f => List.set (mW E a ((t.1, ((nmN b T P 7 v).2.2), t.2.2.1, t.2.2.2.1, t.2.2.2.2.1, t.2.2.2.2.2.1, t.2.2.2.2.2.2.1, t.2.2.2.2.2.2.2.1, t.2.2.2.2.2.2.2.2.1, t.2.2.2.2.2.2.2.2.2.1, t.2.2.2.2.2.2.2.2.2.2), c.2.1, c.2.2.1, b, nI T, c.2.2.2.2.2.1, c.2.2.2.2.2.2.1, c.2.2.2.2.2.2.2.1, c.2.2.2.2.2.2.2.2) (h.1, h.2.1, nI (nmN b T P 7 v).2.1, nI (tkE b T (nmN b T P 7 v).2.1), (nmN b T P 7 v).2.2, 0, h.2.2.2.2.2.2)) 1 (a 1, .inl (gI E, 39, .inl f))) (eu_2 (t.1, ((nmN b T P 7 v).2.2), t.2.2.1, t.2.2.2.1, t.2.2.2.2.1, t.2.2.2.2.2.1, t.2.2.2.2.2.2.1, t.2.2.2.2.2.2.2.1, t.2.2.2.2.2.2.2.2.1, t.2.2.2.2.2.2.2.2.2.1, t.2.2.2.2.2.2.2.2.2.2) (1 : Int32))) ?_
    refine g_aload_n cx dX6_manItem_37 0 rfl ?_
    refine g_VSl (rest := []) (As := []) cx hYX6_word gX6_manItem_X6_word (c_X6_word_0 l E a c h b T (t.1, ((nmN b T P 7 v).2.2), 1, t.2.2.2.1, t.2.2.2.2.1, t.2.2.2.2.2.1, t.2.2.2.2.2.2.1, t.2.2.2.2.2.2.2.1, t.2.2.2.2.2.2.2.2.1, t.2.2.2.2.2.2.2.2.2.1, t.2.2.2.2.2.2.2.2.2.2) ((nmN b T P 7 v).2.1) ((nmN b T P 7 v).2.2) hT (nm_le 7 _ hP)) rfl rfl rfl ⟨Nat.le_of_ble_eq_true rfl, Nat.le_of_ble_eq_true rfl⟩ rfl rfl (Nat.le_of_ble_eq_true rfl) ⟨Nat.le_of_ble_eq_true rfl, Nat.le_of_ble_eq_true rfl⟩ dX6_manItem_38 (fun r w1 hp => ?_)
    obtain ⟨rfl, rfl⟩ := hp
    refine g_ldc2 cx m1X6_manItem_c246 dX6_manItem_41 ?_
    refine g_lc_ne (tgt := 60) cx dX6_manItem_44 dX6_manItem_45 (by decide) (fun c_6 => ?_) (fun c_6 => ?_)
    · exact g_vret cx gr (Nat.zero_le _) (Nat.zero_le _) dX6_manItem_60 (z_r (by rw [mnT, if_neg hn_1, if_pos (Decidable.of_not_not (fun q => c_6 ((wh_iff (i := 5) hT (nm_le 7 _ hP) (by decide)).mpr q)))] <;> rfl))
    · refine g_aload_n cx dX6_manItem_48 0 rfl ?_
      refine g_iconst (v := 1) cx dX6_manItem_49 (by decide) ?_
      refine g_VSv (rest := []) (As := [.int 1]) cx hYX6_must gX6_manItem_X6_must (c_X6_must_1 l E a c h b T (t.1, ((nmN b T P 7 v).2.2), 1, t.2.2.2.1, t.2.2.2.2.1, t.2.2.2.2.2.1, t.2.2.2.2.2.2.1, t.2.2.2.2.2.2.2.1, t.2.2.2.2.2.2.2.2.1, t.2.2.2.2.2.2.2.2.2.1, t.2.2.2.2.2.2.2.2.2.2) ((nmN b T P 7 v).2.1) ((nmN b T P 7 v).2.2) hT (nm_le 7 _ hP)) rfl rfl rfl ⟨Nat.le_of_ble_eq_true rfl, Nat.le_of_ble_eq_true rfl⟩ rfl rfl (Nat.le_of_ble_eq_true rfl) ⟨Nat.le_of_ble_eq_true rfl, Nat.le_of_ble_eq_true rfl⟩ dX6_manItem_50 (fun w1 hp => ?_)
      obtain rfl := hp
      refine g_aload_n cx dX6_manItem_53 0 rfl ?_
      refine g_get (C := RX6) (T := TX6) (N := 16) (v := .ref (a 1)) cx iwX6_manItem_X6 0 0 rfl rfl (by decide) lkX6_manItem_7 rfl dX6_manItem_54 ?_
      refine g_iconst (v := 2) cx dX6_manItem_57 (by decide) ?_
      refine g_iconst (v := 0) cx dX6_manItem_58 (by decide) ?_
      refine g_iast (ws' := (mW E a ((t.1, ((nmN b T P 7 v).2.2), 0, t.2.2.2.1, t.2.2.2.2.1, t.2.2.2.2.2.1, t.2.2.2.2.2.2.1, t.2.2.2.2.2.2.2.1, t.2.2.2.2.2.2.2.2.1, t.2.2.2.2.2.2.2.2.2.1, t.2.2.2.2.2.2.2.2.2.2), c.2.1, c.2.2.1, b, nI T, c.2.2.2.2.2.1, c.2.2.2.2.2.2.1, c.2.2.2.2.2.2.2.1, c.2.2.2.2.2.2.2.2) (h.1, h.2.1, nI (nxP b T ((nmN b T P 7 v).2.1)), nI (tkE b T (nxP b T ((nmN b T P 7 v).2.1))), (nmN b T P 7 v).2.2, 0, h.2.2.2.2.2.2))) cx 1 rfl rfl (by unfold vp_in; decide +kernel) dX6_manItem_59 (congrArg (fun f => List.set (mW E a ((t.1, ((nmN b T P 7 v).2.2), 1, t.2.2.2.1, t.2.2.2.2.1, t.2.2.2.2.2.1, t.2.2.2.2.2.2.1, t.2.2.2.2.2.2.2.1, t.2.2.2.2.2.2.2.2.1, t.2.2.2.2.2.2.2.2.2.1, t.2.2.2.2.2.2.2.2.2.2), c.2.1, c.2.2.1, b, nI T, c.2.2.2.2.2.1, c.2.2.2.2.2.2.1, c.2.2.2.2.2.2.2.1, c.2.2.2.2.2.2.2.2) (h.1, h.2.1, nI (nxP b T ((nmN b T P 7 v).2.1)), nI (tkE b T (nxP b T ((nmN b T P 7 v).2.1))), (nmN b T P 7 v).2.2, 0, h.2.2.2.2.2.2)) 1 (a 1, .inl (gI E, 39, .inl f))) (eu_2 (t.1, ((nmN b T P 7 v).2.2), 1, t.2.2.2.1, t.2.2.2.2.1, t.2.2.2.2.2.1, t.2.2.2.2.2.2.1, t.2.2.2.2.2.2.2.1, t.2.2.2.2.2.2.2.2.1, t.2.2.2.2.2.2.2.2.2.1, t.2.2.2.2.2.2.2.2.2.2) (0 : Int32))) ?_
      exact g_vret cx gr (Nat.zero_le _) (Nat.zero_le _) dX6_manItem_60 (z_r (by rw [mnT, if_neg hn_1, if_neg ((wh_iff (i := 5) hT (nm_le 7 _ hP) (by decide)).mp c_6)] <;> rfl))

abbrev rmX6_item : Room := { frames := 7, cells := 0, slots := 0, locals := 159 }
theorem hYX6_item : gY yX6_item wsX6_item cX6_item 6 (none) 0 := ⟨⟨_, rfl⟩, by decide +kernel, by decide +kernel, by decide +kernel⟩
theorem m1X6_item_c252 : Cond.constantLong RX6 252 (673849) ∈ wsX6_item := by decide +kernel
theorem m1X6_item_c257 : Cond.constantLong RX6 257 (13358) ∈ wsX6_item := by decide +kernel
theorem m1X6_item_c262 : Cond.constantLong RX6 262 (3736683) ∈ wsX6_item := by decide +kernel
theorem iwX6_item_X6 : ∀ w ∈ u_ws RX6 TX6 16, w ∈ wsX6_item := by decide +kernel
theorem lkX6_item_7 : Cond.fieldLink RX6 7 "MuffinBellsModel" "s" "[I" ∈ wsX6_item := by decide +kernel
theorem lkX6_item_201 : Cond.fieldLink RX6 201 "MuffinBellsModel" "isWrong" "Z" ∈ wsX6_item := by decide +kernel
theorem lkX6_item_212 : Cond.fieldLink RX6 212 "MuffinBellsModel" "value" "I" ∈ wsX6_item := by decide +kernel
set_option maxRecDepth 100000 in
set_option maxHeartbeats 4000000 in
theorem c_X6_item (l : Launch) (E : gE) (a : Nat → Nat) (c : Cor) (h : Mar) (b : Nat → Int32) (T : Nat) (t : Ter) (P : Nat) (v : Int32) (hT : T ≤ 120) (hP : P ≤ T) : ctv l yX6_item wsX6_item rmX6_item E [.ref (a 0)] (mW E a (t, c.2.1, c.2.2.1, b, nI T, c.2.2.2.2.2.1, c.2.2.2.2.2.2.1, c.2.2.2.2.2.2.2.1, c.2.2.2.2.2.2.2.2) (h.1, h.2.1, nI P, nI (tkE b T P), v, 0, h.2.2.2.2.2.2)) (fun w => ((itT b T P v t).1 = 0 ∧ ∃ v' t', w = (mW E a (t', c.2.1, c.2.2.1, b, nI T, c.2.2.2.2.2.1, c.2.2.2.2.2.2.1, c.2.2.2.2.2.2.2.1, c.2.2.2.2.2.2.2.2) (h.1, h.2.1, nI ((itT b T P v t).2.1), nI (tkE b T ((itT b T P v t).2.1)), v', 1, h.2.2.2.2.2.2))) ∨ (¬ (itT b T P v t).1 = 0 ∧ ∃ v', w = (mW E a (((itT b T P v t).2.2.2), c.2.1, c.2.2.1, b, nI T, c.2.2.2.2.2.1, c.2.2.2.2.2.2.1, c.2.2.2.2.2.2.2.1, c.2.2.2.2.2.2.2.2) (h.1, h.2.1, nI ((itT b T P v t).2.1), nI (tkE b T ((itT b T P v t).2.1)), v', 0, h.2.2.2.2.2.2)))) := by
  refine mt_v (cc := cX6_item) (maxL := 6) (ret := none) (lv0 := [(0, .ref (a 0))]) (by decide) rfl rfl (Nat.le_of_ble_eq_true rfl) (fun X cx gr hI => ?_)
  refine g_aload_n cx dX6_item_0 0 rfl ?_
  refine g_VSi (rest := []) (As := []) cx hYX6_kindHere gX6_item_X6_kindHere (c_X6_kindHere l E a c h b T t P v hT hP) rfl rfl rfl ⟨Nat.le_of_ble_eq_true rfl, Nat.le_of_ble_eq_true rfl⟩ rfl rfl (Nat.le_of_ble_eq_true rfl) ⟨Nat.le_of_ble_eq_true rfl, Nat.le_of_ble_eq_true rfl⟩ dX6_item_1 (fun r w1 hp => ?_)
  obtain ⟨rfl, rfl⟩ := hp
  refine g_istore_n (lv' := [(1, .int (knF b T P 6 0)), (0, .ref (a 0))]) cx dX6_item_4 (by decide) rfl ?_
  refine g_aload_n cx dX6_item_5 1 rfl ?_
  refine g_VSl (rest := []) (As := []) cx hYX6_word gX6_item_X6_word (c_X6_word_0 l E a c h b T t P v hT hP) rfl rfl rfl ⟨Nat.le_of_ble_eq_true rfl, Nat.le_of_ble_eq_true rfl⟩ rfl rfl (Nat.le_of_ble_eq_true rfl) ⟨Nat.le_of_ble_eq_true rfl, Nat.le_of_ble_eq_true rfl⟩ dX6_item_6 (fun r w1 hp => ?_)
  obtain ⟨rfl, rfl⟩ := hp
  refine g_lstore_n (lv' := [(2, .long (whR b T P)), (1, .int (knF b T P 6 0)), (0, .ref (a 0))]) cx dX6_item_9 (by decide) rfl ?_
  refine g_lload_n cx dX6_item_10 0 rfl ?_
  refine g_ldc2 cx m1X6_item_c252 dX6_item_11 ?_
  refine g_lc_ne (tgt := 22) cx dX6_item_14 dX6_item_15 (by decide) (fun c_1 => ?_) (fun c_1 => ?_)
  · refine g_iconst (v := 0) cx dX6_item_22 (by decide) ?_
    refine g_istore (lv' := [(4, .int 0), (2, .long (whR b T P)), (1, .int (knF b T P 6 0)), (0, .ref (a 0))]) cx dX6_item_23 (by decide) rfl ?_
    refine g_iload_n cx dX6_item_25 2 rfl ?_
    refine g_if_lt (tgt := 37) cx dX6_item_26 (by decide) (fun c_2 => ?_) (fun c_2 => ?_)
    · refine g_lload_n cx dX6_item_37 1 rfl ?_
      refine g_ldc2 cx m1X6_item_c257 dX6_item_38 ?_
      refine g_lc_ne (tgt := 52) cx dX6_item_41 dX6_item_42 (by decide) (fun c_3 => ?_) (fun c_3 => ?_)
      · refine g_aload_n cx dX6_item_52 3 rfl ?_
        refine g_iload cx dX6_item_53 0 rfl ?_
        refine g_if_ne (tgt := 66) cx dX6_item_55 (by decide) (fun c_4 => absurd (rfl) c_4) (fun c_4 => ?_)
        refine g_lload_n cx dX6_item_58 1 rfl ?_
        refine g_ldc2 cx m1X6_item_c262 dX6_item_59 ?_
        refine g_lc_ne (tgt := 70) cx dX6_item_62 dX6_item_63 (by decide) (fun c_5 => ?_) (fun c_5 => ?_)
        · refine g_iconst (v := 0) cx dX6_item_70 (by decide) ?_
          refine g_VSv (rest := []) (As := [.int 0]) cx hYX6_must gX6_item_X6_must (c_X6_must_0 l E a c h b T t P v hT hP) rfl rfl rfl ⟨Nat.le_of_ble_eq_true rfl, Nat.le_of_ble_eq_true rfl⟩ rfl rfl (Nat.le_of_ble_eq_true rfl) ⟨Nat.le_of_ble_eq_true rfl, Nat.le_of_ble_eq_true rfl⟩ dX6_item_71 (fun w1 hp => ?_)
          obtain rfl := hp
          refine g_aload_n cx dX6_item_74 3 rfl ?_
          refine g_iconst (v := 0) cx dX6_item_75 (by decide) ?_
          refine g_iload cx dX6_item_76 0 rfl ?_
          refine g_if_eq (tgt := 87) cx dX6_item_78 (by decide) (fun c_6 => ?_) (fun c_6 => absurd (rfl) c_6)
          refine g_bipush (v := 99) cx dX6_item_87 (by decide) ?_
          refine g_VSv (rest := []) (As := [.int 0, .int 99]) cx hYX6_number gX6_item_X6_number (c_X6_number_1 l E a c h b T t P v 99) rfl rfl rfl ⟨Nat.le_of_ble_eq_true rfl, Nat.le_of_ble_eq_true rfl⟩ rfl rfl (Nat.le_of_ble_eq_true rfl) ⟨Nat.le_of_ble_eq_true rfl, Nat.le_of_ble_eq_true rfl⟩ dX6_item_89 (fun w1 hp => ?_)
          obtain rfl := hp
          refine g_iload cx dX6_item_92 0 rfl ?_
          refine g_if_eq (tgt := 101) cx dX6_item_94 (by decide) (fun c_7 => ?_) (fun c_7 => absurd (rfl) c_7)
          refine g_iconst (v := 5) cx dX6_item_101 (by decide) ?_
          refine g_istore (lv' := [(5, .int 5), (4, .int 0), (2, .long (whR b T P)), (1, .int (knF b T P 6 0)), (0, .ref (a 0))]) cx dX6_item_102 (by decide) rfl ?_
          refine g_aload_n cx dX6_item_104 4 rfl ?_
          refine g_get (C := RX6) (T := TX6) (N := 16) (v := .ref (a 1)) cx iwX6_item_X6 0 0 rfl rfl (by decide) lkX6_item_7 rfl dX6_item_105 ?_
          refine g_iload cx dX6_item_108 0 rfl ?_
          refine g_aload_n cx dX6_item_110 4 rfl ?_
          refine g_get (C := RX6) (T := TX6) (N := 16) (v := .int 1) cx iwX6_item_X6 0 11 rfl rfl (by decide) lkX6_item_201 rfl dX6_item_111 ?_
          refine g_if_eq (tgt := 127) cx dX6_item_114 (by decide) (fun c_8 => absurd c_8 (by decide)) (fun c_8 => ?_)
          refine g_aload_n cx dX6_item_117 4 rfl ?_
          refine g_get (C := RX6) (T := TX6) (N := 16) (v := .ref (a 1)) cx iwX6_item_X6 0 0 rfl rfl (by decide) lkX6_item_7 rfl dX6_item_118 ?_
          refine g_iload cx dX6_item_121 0 rfl ?_
          refine g_iald cx 1 rfl rfl (by unfold vp_in; decide +kernel) dX6_item_123 ?_
          refine g_top (y := t.2.2.2.2.2.1) (rfl) ?_
          refine g_goto (tgt := 131) cx dX6_item_124 (by decide) ?_
          refine g_iast (ws' := (mW E a (t, c.2.1, c.2.2.1, b, nI T, c.2.2.2.2.2.1, c.2.2.2.2.2.2.1, c.2.2.2.2.2.2.2.1, c.2.2.2.2.2.2.2.2) (h.1, h.2.1, nI P, nI (tkE b T P), v, 1, h.2.2.2.2.2.2))) cx 1 rfl rfl (by unfold vp_in; decide +kernel) dX6_item_131 (congrArg (fun f => List.set (mW E a (t, c.2.1, c.2.2.1, b, nI T, c.2.2.2.2.2.1, c.2.2.2.2.2.2.1, c.2.2.2.2.2.2.2.1, c.2.2.2.2.2.2.2.2) (h.1, h.2.1, nI P, nI (tkE b T P), v, 1, h.2.2.2.2.2.2)) 1 (a 1, .inl (gI E, 39, .inl f))) (eu_5 t t.2.2.2.2.2.1)) ?_
          exact g_vret cx gr (Nat.zero_le _) (Nat.zero_le _) dX6_item_132 (z_l (by rw [itT, if_pos ((kn_lt hT hP).mp c_2), if_pos (Decidable.of_not_not (fun q => c_3 ((wh_iff (i := 0) hT hP (by decide)).mpr q))), if_pos (Decidable.of_not_not (fun q => c_1 ((wh_iff (i := 1) hT hP (by decide)).mpr q))), if_pos (Decidable.of_not_not (fun q => c_5 ((wh_iff (i := 2) hT hP (by decide)).mpr q)))]))
        · refine g_iconst (v := 1) cx dX6_item_66 (by decide) ?_
          refine g_goto (tgt := 71) cx dX6_item_67 (by decide) ?_
          refine g_VSv (rest := []) (As := [.int 1]) cx hYX6_must gX6_item_X6_must (c_X6_must_1 l E a c h b T t P v hT hP) rfl rfl rfl ⟨Nat.le_of_ble_eq_true rfl, Nat.le_of_ble_eq_true rfl⟩ rfl rfl (Nat.le_of_ble_eq_true rfl) ⟨Nat.le_of_ble_eq_true rfl, Nat.le_of_ble_eq_true rfl⟩ dX6_item_71 (fun w1 hp => ?_)
          obtain rfl := hp
          refine g_aload_n cx dX6_item_74 3 rfl ?_
          refine g_iconst (v := 0) cx dX6_item_75 (by decide) ?_
          refine g_iload cx dX6_item_76 0 rfl ?_
          refine g_if_eq (tgt := 87) cx dX6_item_78 (by decide) (fun c_9 => ?_) (fun c_9 => absurd (rfl) c_9)
          refine g_bipush (v := 99) cx dX6_item_87 (by decide) ?_
          refine g_VSv (rest := []) (As := [.int 0, .int 99]) cx hYX6_number gX6_item_X6_number (c_X6_number l E a c h b T t P v v 99 hT hP (by decide)) rfl rfl rfl ⟨Nat.le_of_ble_eq_true rfl, Nat.le_of_ble_eq_true rfl⟩ rfl rfl (Nat.le_of_ble_eq_true rfl) ⟨Nat.le_of_ble_eq_true rfl, Nat.le_of_ble_eq_true rfl⟩ dX6_item_89 (fun w1 hp => ?_)
          rcases hp with ⟨hn_10, v_11, rfl⟩ | ⟨hn_10, rfl⟩
          · replace hn_10 : (nmN b T P 99 v).1 = 0 := hn_10
            refine g_w (show _ = (mW E a (t, c.2.1, c.2.2.1, b, nI T, c.2.2.2.2.2.1, c.2.2.2.2.2.2.1, c.2.2.2.2.2.2.2.1, c.2.2.2.2.2.2.2.2) (h.1, h.2.1, nI (nmN b T P 99 v).2.1, nI (tkE b T (nmN b T P 99 v).2.1), v_11, 1, h.2.2.2.2.2.2)) from rfl) ?_
            refine g_iload cx dX6_item_92 0 rfl ?_
            refine g_if_eq (tgt := 101) cx dX6_item_94 (by decide) (fun c_13 => ?_) (fun c_13 => absurd (rfl) c_13)
            refine g_iconst (v := 5) cx dX6_item_101 (by decide) ?_
            refine g_istore (lv' := [(5, .int 5), (4, .int 0), (2, .long (whR b T P)), (1, .int (knF b T P 6 0)), (0, .ref (a 0))]) cx dX6_item_102 (by decide) rfl ?_
            refine g_aload_n cx dX6_item_104 4 rfl ?_
            refine g_get (C := RX6) (T := TX6) (N := 16) (v := .ref (a 1)) cx iwX6_item_X6 0 0 rfl rfl (by decide) lkX6_item_7 rfl dX6_item_105 ?_
            refine g_iload cx dX6_item_108 0 rfl ?_
            refine g_aload_n cx dX6_item_110 4 rfl ?_
            refine g_get (C := RX6) (T := TX6) (N := 16) (v := .int 1) cx iwX6_item_X6 0 11 rfl rfl (by decide) lkX6_item_201 rfl dX6_item_111 ?_
            refine g_if_eq (tgt := 127) cx dX6_item_114 (by decide) (fun c_14 => absurd c_14 (by decide)) (fun c_14 => ?_)
            refine g_aload_n cx dX6_item_117 4 rfl ?_
            refine g_get (C := RX6) (T := TX6) (N := 16) (v := .ref (a 1)) cx iwX6_item_X6 0 0 rfl rfl (by decide) lkX6_item_7 rfl dX6_item_118 ?_
            refine g_iload cx dX6_item_121 0 rfl ?_
            refine g_iald cx 1 rfl rfl (by unfold vp_in; decide +kernel) dX6_item_123 ?_
            refine g_top (y := t.2.2.2.2.2.1) (rfl) ?_
            refine g_goto (tgt := 131) cx dX6_item_124 (by decide) ?_
            refine g_iast (ws' := (mW E a (t, c.2.1, c.2.2.1, b, nI T, c.2.2.2.2.2.1, c.2.2.2.2.2.2.1, c.2.2.2.2.2.2.2.1, c.2.2.2.2.2.2.2.2) (h.1, h.2.1, nI (nmN b T P 99 v).2.1, nI (tkE b T (nmN b T P 99 v).2.1), v_11, 1, h.2.2.2.2.2.2))) cx 1 rfl rfl (by unfold vp_in; decide +kernel) dX6_item_131 (congrArg (fun f => List.set (mW E a (t, c.2.1, c.2.2.1, b, nI T, c.2.2.2.2.2.1, c.2.2.2.2.2.2.1, c.2.2.2.2.2.2.2.1, c.2.2.2.2.2.2.2.2) (h.1, h.2.1, nI (nmN b T P 99 v).2.1, nI (tkE b T (nmN b T P 99 v).2.1), v_11, 1, h.2.2.2.2.2.2)) 1 (a 1, .inl (gI E, 39, .inl f))) (eu_5 t t.2.2.2.2.2.1)) ?_
            exact g_vret cx gr (Nat.zero_le _) (Nat.zero_le _) dX6_item_132 (z_l (by rw [itT, if_pos ((kn_lt hT hP).mp c_2), if_pos (Decidable.of_not_not (fun q => c_3 ((wh_iff (i := 0) hT hP (by decide)).mpr q))), if_pos (Decidable.of_not_not (fun q => c_1 ((wh_iff (i := 1) hT hP (by decide)).mpr q))), if_neg ((wh_iff (i := 2) hT hP (by decide)).mp c_5), ckT, if_pos hn_10] <;> rfl))
          · replace hn_10 : ¬ (nmN b T P 99 v).1 = 0 := hn_10
            refine g_w (show _ = (mW E a (t, c.2.1, c.2.2.1, b, nI T, c.2.2.2.2.2.1, c.2.2.2.2.2.2.1, c.2.2.2.2.2.2.2.1, c.2.2.2.2.2.2.2.2) (h.1, h.2.1, nI (nmN b T P 99 v).2.1, nI (tkE b T (nmN b T P 99 v).2.1), (nmN b T P 99 v).2.2, 0, h.2.2.2.2.2.2)) from rfl) ?_
            refine g_iload cx dX6_item_92 0 rfl ?_
            refine g_if_eq (tgt := 101) cx dX6_item_94 (by decide) (fun c_15 => ?_) (fun c_15 => absurd (rfl) c_15)
            refine g_iconst (v := 5) cx dX6_item_101 (by decide) ?_
            refine g_istore (lv' := [(5, .int 5), (4, .int 0), (2, .long (whR b T P)), (1, .int (knF b T P 6 0)), (0, .ref (a 0))]) cx dX6_item_102 (by decide) rfl ?_
            refine g_aload_n cx dX6_item_104 4 rfl ?_
            refine g_get (C := RX6) (T := TX6) (N := 16) (v := .ref (a 1)) cx iwX6_item_X6 0 0 rfl rfl (by decide) lkX6_item_7 rfl dX6_item_105 ?_
            refine g_iload cx dX6_item_108 0 rfl ?_
            refine g_aload_n cx dX6_item_110 4 rfl ?_
            refine g_get (C := RX6) (T := TX6) (N := 16) (v := .int 0) cx iwX6_item_X6 0 11 rfl rfl (by decide) lkX6_item_201 rfl dX6_item_111 ?_
            refine g_if_eq (tgt := 127) cx dX6_item_114 (by decide) (fun c_16 => ?_) (fun c_16 => absurd (rfl) c_16)
            refine g_aload_n cx dX6_item_127 4 rfl ?_
            refine g_get (C := RX6) (T := TX6) (N := 16) (v := .int ((nmN b T P 99 v).2.2)) cx iwX6_item_X6 0 10 rfl rfl (by decide) lkX6_item_212 rfl dX6_item_128 ?_
            refine g_iast (ws' := (mW E a ((t.1, t.2.1, t.2.2.1, t.2.2.2.1, t.2.2.2.2.1, ((nmN b T P 99 v).2.2), t.2.2.2.2.2.2.1, t.2.2.2.2.2.2.2.1, t.2.2.2.2.2.2.2.2.1, t.2.2.2.2.2.2.2.2.2.1, t.2.2.2.2.2.2.2.2.2.2), c.2.1, c.2.2.1, b, nI T, c.2.2.2.2.2.1, c.2.2.2.2.2.2.1, c.2.2.2.2.2.2.2.1, c.2.2.2.2.2.2.2.2) (h.1, h.2.1, nI (nmN b T P 99 v).2.1, nI (tkE b T (nmN b T P 99 v).2.1), (nmN b T P 99 v).2.2, 0, h.2.2.2.2.2.2))) cx 1 rfl rfl (by unfold vp_in; decide +kernel) dX6_item_131 (congrArg (fun f => List.set (mW E a (t, c.2.1, c.2.2.1, b, nI T, c.2.2.2.2.2.1, c.2.2.2.2.2.2.1, c.2.2.2.2.2.2.2.1, c.2.2.2.2.2.2.2.2) (h.1, h.2.1, nI (nmN b T P 99 v).2.1, nI (tkE b T (nmN b T P 99 v).2.1), (nmN b T P 99 v).2.2, 0, h.2.2.2.2.2.2)) 1 (a 1, .inl (gI E, 39, .inl f))) (eu_5 t ((nmN b T P 99 v).2.2))) ?_
            exact g_vret cx gr (Nat.zero_le _) (Nat.zero_le _) dX6_item_132 (z_r (by rw [itT, if_pos ((kn_lt hT hP).mp c_2), if_pos (Decidable.of_not_not (fun q => c_3 ((wh_iff (i := 0) hT hP (by decide)).mpr q))), if_pos (Decidable.of_not_not (fun q => c_1 ((wh_iff (i := 1) hT hP (by decide)).mpr q))), if_neg ((wh_iff (i := 2) hT hP (by decide)).mp c_5), ckT, if_neg hn_10] <;> rfl))
      · refine g_aload_n cx dX6_item_45 3 rfl ?_
        refine g_VSv (rest := []) (As := []) cx hYX6_manItem gX6_item_X6_manItem (c_X6_manItem l E a c h b T t P v hT hP) rfl rfl rfl ⟨Nat.le_of_ble_eq_true rfl, Nat.le_of_ble_eq_true rfl⟩ rfl rfl (Nat.le_of_ble_eq_true rfl) ⟨Nat.le_of_ble_eq_true rfl, Nat.le_of_ble_eq_true rfl⟩ dX6_item_46 (fun w1 hp => ?_)
        rcases hp with ⟨hn_17, v_18, t_19, rfl⟩ | ⟨hn_17, v_18, rfl⟩
        · replace hn_17 : (mnT b T P v t).1 = 0 := hn_17
          refine g_w (show _ = (mW E a (t_19, c.2.1, c.2.2.1, b, nI T, c.2.2.2.2.2.1, c.2.2.2.2.2.2.1, c.2.2.2.2.2.2.2.1, c.2.2.2.2.2.2.2.2) (h.1, h.2.1, nI (mnT b T P v t).2.1, nI (tkE b T (mnT b T P v t).2.1), v_18, 1, h.2.2.2.2.2.2)) from rfl) ?_
          refine g_goto (tgt := 132) cx dX6_item_49 (by decide) ?_
          exact g_vret cx gr (Nat.zero_le _) (Nat.zero_le _) dX6_item_132 (z_ag (show ag (itT b T P v t) (mnT b T P v t) from by rw [itT, if_pos ((kn_lt hT hP).mp c_2), if_neg ((wh_iff (i := 0) hT hP (by decide)).mp c_3)]; exact ag_r _) (Or.inl ⟨hn_17, _, _, rfl⟩))
        · replace hn_17 : ¬ (mnT b T P v t).1 = 0 := hn_17
          refine g_w (show _ = (mW E a (((mnT b T P v t).2.2.2), c.2.1, c.2.2.1, b, nI T, c.2.2.2.2.2.1, c.2.2.2.2.2.2.1, c.2.2.2.2.2.2.2.1, c.2.2.2.2.2.2.2.2) (h.1, h.2.1, nI (mnT b T P v t).2.1, nI (tkE b T (mnT b T P v t).2.1), v_18, 0, h.2.2.2.2.2.2)) from rfl) ?_
          refine g_goto (tgt := 132) cx dX6_item_49 (by decide) ?_
          exact g_vret cx gr (Nat.zero_le _) (Nat.zero_le _) dX6_item_132 (z_ag (show ag (itT b T P v t) (mnT b T P v t) from by rw [itT, if_pos ((kn_lt hT hP).mp c_2), if_neg ((wh_iff (i := 0) hT hP (by decide)).mp c_3)]; exact ag_r _) (Or.inr ⟨hn_17, _, rfl⟩))
    · refine g_aload_n cx dX6_item_29 3 rfl ?_
      refine g_iload_n cx dX6_item_30 2 rfl ?_
      refine g_VSv (rest := []) (As := [.int (knF b T P 6 0)]) cx hYX6_houseItem gX6_item_X6_houseItem (c_X6_houseItem l E a c h b T t P v (knF b T P 6 0) hT hP) rfl rfl rfl ⟨Nat.le_of_ble_eq_true rfl, Nat.le_of_ble_eq_true rfl⟩ rfl rfl (Nat.le_of_ble_eq_true rfl) ⟨Nat.le_of_ble_eq_true rfl, Nat.le_of_ble_eq_true rfl⟩ dX6_item_31 (fun w1 hp => ?_)
      rcases hp with ⟨hn_20, v_21, t_22, rfl⟩ | ⟨hn_20, v_21, rfl⟩
      · replace hn_20 : (hsT b T P v t (knF b T P 6 0)).1 = 0 := hn_20
        refine g_w (show _ = (mW E a (t_22, c.2.1, c.2.2.1, b, nI T, c.2.2.2.2.2.1, c.2.2.2.2.2.2.1, c.2.2.2.2.2.2.2.1, c.2.2.2.2.2.2.2.2) (h.1, h.2.1, nI (hsT b T P v t (knF b T P 6 0)).2.1, nI (tkE b T (hsT b T P v t (knF b T P 6 0)).2.1), v_21, 1, h.2.2.2.2.2.2)) from rfl) ?_
        refine g_goto (tgt := 132) cx dX6_item_34 (by decide) ?_
        exact g_vret cx gr (Nat.zero_le _) (Nat.zero_le _) dX6_item_132 (z_ag (show ag (itT b T P v t) (hsT b T P v t (knF b T P 6 0)) from by have hk9 : ¬ knF b T P 6 0 = -1 := fun q => c_2 ((kn_lt hT hP).mpr q); rw [itT, if_neg hk9]; exact ag_r _) (Or.inl ⟨hn_20, _, _, rfl⟩))
      · replace hn_20 : ¬ (hsT b T P v t (knF b T P 6 0)).1 = 0 := hn_20
        refine g_w (show _ = (mW E a (((hsT b T P v t (knF b T P 6 0)).2.2.2), c.2.1, c.2.2.1, b, nI T, c.2.2.2.2.2.1, c.2.2.2.2.2.2.1, c.2.2.2.2.2.2.2.1, c.2.2.2.2.2.2.2.2) (h.1, h.2.1, nI (hsT b T P v t (knF b T P 6 0)).2.1, nI (tkE b T (hsT b T P v t (knF b T P 6 0)).2.1), v_21, 0, h.2.2.2.2.2.2)) from rfl) ?_
        refine g_goto (tgt := 132) cx dX6_item_34 (by decide) ?_
        exact g_vret cx gr (Nat.zero_le _) (Nat.zero_le _) dX6_item_132 (z_ag (show ag (itT b T P v t) (hsT b T P v t (knF b T P 6 0)) from by have hk9 : ¬ knF b T P 6 0 = -1 := fun q => c_2 ((kn_lt hT hP).mpr q); rw [itT, if_neg hk9]; exact ag_r _) (Or.inr ⟨hn_20, _, rfl⟩))
  · refine g_iconst (v := 1) cx dX6_item_18 (by decide) ?_
    refine g_goto (tgt := 23) cx dX6_item_19 (by decide) ?_
    refine g_istore (lv' := [(4, .int 1), (2, .long (whR b T P)), (1, .int (knF b T P 6 0)), (0, .ref (a 0))]) cx dX6_item_23 (by decide) rfl ?_
    refine g_iload_n cx dX6_item_25 2 rfl ?_
    refine g_if_lt (tgt := 37) cx dX6_item_26 (by decide) (fun c_23 => ?_) (fun c_23 => ?_)
    · refine g_lload_n cx dX6_item_37 1 rfl ?_
      refine g_ldc2 cx m1X6_item_c257 dX6_item_38 ?_
      refine g_lc_ne (tgt := 52) cx dX6_item_41 dX6_item_42 (by decide) (fun c_24 => ?_) (fun c_24 => absurd c_24 ((by rw [c_1]; decide)))
      refine g_aload_n cx dX6_item_52 3 rfl ?_
      refine g_iload cx dX6_item_53 0 rfl ?_
      refine g_if_ne (tgt := 66) cx dX6_item_55 (by decide) (fun c_25 => ?_) (fun c_25 => absurd c_25 (by decide))
      refine g_iconst (v := 1) cx dX6_item_66 (by decide) ?_
      refine g_goto (tgt := 71) cx dX6_item_67 (by decide) ?_
      refine g_VSv (rest := []) (As := [.int 1]) cx hYX6_must gX6_item_X6_must (c_X6_must_1 l E a c h b T t P v hT hP) rfl rfl rfl ⟨Nat.le_of_ble_eq_true rfl, Nat.le_of_ble_eq_true rfl⟩ rfl rfl (Nat.le_of_ble_eq_true rfl) ⟨Nat.le_of_ble_eq_true rfl, Nat.le_of_ble_eq_true rfl⟩ dX6_item_71 (fun w1 hp => ?_)
      obtain rfl := hp
      refine g_aload_n cx dX6_item_74 3 rfl ?_
      refine g_iconst (v := 0) cx dX6_item_75 (by decide) ?_
      refine g_iload cx dX6_item_76 0 rfl ?_
      refine g_if_eq (tgt := 87) cx dX6_item_78 (by decide) (fun c_26 => absurd c_26 (by decide)) (fun c_26 => ?_)
      refine g_sipush (v := 999) cx dX6_item_81 (by decide) ?_
      refine g_goto (tgt := 89) cx dX6_item_84 (by decide) ?_
      refine g_VSv (rest := []) (As := [.int 0, .int 999]) cx hYX6_number gX6_item_X6_number (c_X6_number l E a c h b T t P v v 999 hT hP (by decide)) rfl rfl rfl ⟨Nat.le_of_ble_eq_true rfl, Nat.le_of_ble_eq_true rfl⟩ rfl rfl (Nat.le_of_ble_eq_true rfl) ⟨Nat.le_of_ble_eq_true rfl, Nat.le_of_ble_eq_true rfl⟩ dX6_item_89 (fun w1 hp => ?_)
      rcases hp with ⟨hn_27, v_28, rfl⟩ | ⟨hn_27, rfl⟩
      · replace hn_27 : (nmN b T P 999 v).1 = 0 := hn_27
        refine g_w (show _ = (mW E a (t, c.2.1, c.2.2.1, b, nI T, c.2.2.2.2.2.1, c.2.2.2.2.2.2.1, c.2.2.2.2.2.2.2.1, c.2.2.2.2.2.2.2.2) (h.1, h.2.1, nI (nmN b T P 999 v).2.1, nI (tkE b T (nmN b T P 999 v).2.1), v_28, 1, h.2.2.2.2.2.2)) from rfl) ?_
        refine g_iload cx dX6_item_92 0 rfl ?_
        refine g_if_eq (tgt := 101) cx dX6_item_94 (by decide) (fun c_30 => absurd c_30 (by decide)) (fun c_30 => ?_)
        refine g_iconst (v := 3) cx dX6_item_97 (by decide) ?_
        refine g_goto (tgt := 102) cx dX6_item_98 (by decide) ?_
        refine g_istore (lv' := [(5, .int 3), (4, .int 1), (2, .long (whR b T P)), (1, .int (knF b T P 6 0)), (0, .ref (a 0))]) cx dX6_item_102 (by decide) rfl ?_
        refine g_aload_n cx dX6_item_104 4 rfl ?_
        refine g_get (C := RX6) (T := TX6) (N := 16) (v := .ref (a 1)) cx iwX6_item_X6 0 0 rfl rfl (by decide) lkX6_item_7 rfl dX6_item_105 ?_
        refine g_iload cx dX6_item_108 0 rfl ?_
        refine g_aload_n cx dX6_item_110 4 rfl ?_
        refine g_get (C := RX6) (T := TX6) (N := 16) (v := .int 1) cx iwX6_item_X6 0 11 rfl rfl (by decide) lkX6_item_201 rfl dX6_item_111 ?_
        refine g_if_eq (tgt := 127) cx dX6_item_114 (by decide) (fun c_31 => absurd c_31 (by decide)) (fun c_31 => ?_)
        refine g_aload_n cx dX6_item_117 4 rfl ?_
        refine g_get (C := RX6) (T := TX6) (N := 16) (v := .ref (a 1)) cx iwX6_item_X6 0 0 rfl rfl (by decide) lkX6_item_7 rfl dX6_item_118 ?_
        refine g_iload cx dX6_item_121 0 rfl ?_
        refine g_iald cx 1 rfl rfl (by unfold vp_in; decide +kernel) dX6_item_123 ?_
        refine g_top (y := t.2.2.2.1) (rfl) ?_
        refine g_goto (tgt := 131) cx dX6_item_124 (by decide) ?_
        refine g_iast (ws' := (mW E a (t, c.2.1, c.2.2.1, b, nI T, c.2.2.2.2.2.1, c.2.2.2.2.2.2.1, c.2.2.2.2.2.2.2.1, c.2.2.2.2.2.2.2.2) (h.1, h.2.1, nI (nmN b T P 999 v).2.1, nI (tkE b T (nmN b T P 999 v).2.1), v_28, 1, h.2.2.2.2.2.2))) cx 1 rfl rfl (by unfold vp_in; decide +kernel) dX6_item_131 (congrArg (fun f => List.set (mW E a (t, c.2.1, c.2.2.1, b, nI T, c.2.2.2.2.2.1, c.2.2.2.2.2.2.1, c.2.2.2.2.2.2.2.1, c.2.2.2.2.2.2.2.2) (h.1, h.2.1, nI (nmN b T P 999 v).2.1, nI (tkE b T (nmN b T P 999 v).2.1), v_28, 1, h.2.2.2.2.2.2)) 1 (a 1, .inl (gI E, 39, .inl f))) (eu_3 t t.2.2.2.1)) ?_
        exact g_vret cx gr (Nat.zero_le _) (Nat.zero_le _) dX6_item_132 (z_l (by rw [itT, if_pos ((kn_lt hT hP).mp c_23), if_pos (Decidable.of_not_not (fun q => c_24 ((wh_iff (i := 0) hT hP (by decide)).mpr q))), if_neg ((wh_iff (i := 1) hT hP (by decide)).mp c_1), trT, if_pos hn_27] <;> rfl))
      · replace hn_27 : ¬ (nmN b T P 999 v).1 = 0 := hn_27
        refine g_w (show _ = (mW E a (t, c.2.1, c.2.2.1, b, nI T, c.2.2.2.2.2.1, c.2.2.2.2.2.2.1, c.2.2.2.2.2.2.2.1, c.2.2.2.2.2.2.2.2) (h.1, h.2.1, nI (nmN b T P 999 v).2.1, nI (tkE b T (nmN b T P 999 v).2.1), (nmN b T P 999 v).2.2, 0, h.2.2.2.2.2.2)) from rfl) ?_
        refine g_iload cx dX6_item_92 0 rfl ?_
        refine g_if_eq (tgt := 101) cx dX6_item_94 (by decide) (fun c_32 => absurd c_32 (by decide)) (fun c_32 => ?_)
        refine g_iconst (v := 3) cx dX6_item_97 (by decide) ?_
        refine g_goto (tgt := 102) cx dX6_item_98 (by decide) ?_
        refine g_istore (lv' := [(5, .int 3), (4, .int 1), (2, .long (whR b T P)), (1, .int (knF b T P 6 0)), (0, .ref (a 0))]) cx dX6_item_102 (by decide) rfl ?_
        refine g_aload_n cx dX6_item_104 4 rfl ?_
        refine g_get (C := RX6) (T := TX6) (N := 16) (v := .ref (a 1)) cx iwX6_item_X6 0 0 rfl rfl (by decide) lkX6_item_7 rfl dX6_item_105 ?_
        refine g_iload cx dX6_item_108 0 rfl ?_
        refine g_aload_n cx dX6_item_110 4 rfl ?_
        refine g_get (C := RX6) (T := TX6) (N := 16) (v := .int 0) cx iwX6_item_X6 0 11 rfl rfl (by decide) lkX6_item_201 rfl dX6_item_111 ?_
        refine g_if_eq (tgt := 127) cx dX6_item_114 (by decide) (fun c_33 => ?_) (fun c_33 => absurd (rfl) c_33)
        refine g_aload_n cx dX6_item_127 4 rfl ?_
        refine g_get (C := RX6) (T := TX6) (N := 16) (v := .int ((nmN b T P 999 v).2.2)) cx iwX6_item_X6 0 10 rfl rfl (by decide) lkX6_item_212 rfl dX6_item_128 ?_
        refine g_iast (ws' := (mW E a ((t.1, t.2.1, t.2.2.1, ((nmN b T P 999 v).2.2), t.2.2.2.2.1, t.2.2.2.2.2.1, t.2.2.2.2.2.2.1, t.2.2.2.2.2.2.2.1, t.2.2.2.2.2.2.2.2.1, t.2.2.2.2.2.2.2.2.2.1, t.2.2.2.2.2.2.2.2.2.2), c.2.1, c.2.2.1, b, nI T, c.2.2.2.2.2.1, c.2.2.2.2.2.2.1, c.2.2.2.2.2.2.2.1, c.2.2.2.2.2.2.2.2) (h.1, h.2.1, nI (nmN b T P 999 v).2.1, nI (tkE b T (nmN b T P 999 v).2.1), (nmN b T P 999 v).2.2, 0, h.2.2.2.2.2.2))) cx 1 rfl rfl (by unfold vp_in; decide +kernel) dX6_item_131 (congrArg (fun f => List.set (mW E a (t, c.2.1, c.2.2.1, b, nI T, c.2.2.2.2.2.1, c.2.2.2.2.2.2.1, c.2.2.2.2.2.2.2.1, c.2.2.2.2.2.2.2.2) (h.1, h.2.1, nI (nmN b T P 999 v).2.1, nI (tkE b T (nmN b T P 999 v).2.1), (nmN b T P 999 v).2.2, 0, h.2.2.2.2.2.2)) 1 (a 1, .inl (gI E, 39, .inl f))) (eu_3 t ((nmN b T P 999 v).2.2))) ?_
        exact g_vret cx gr (Nat.zero_le _) (Nat.zero_le _) dX6_item_132 (z_r (by rw [itT, if_pos ((kn_lt hT hP).mp c_23), if_pos (Decidable.of_not_not (fun q => c_24 ((wh_iff (i := 0) hT hP (by decide)).mpr q))), if_neg ((wh_iff (i := 1) hT hP (by decide)).mp c_1), trT, if_neg hn_27] <;> rfl))
    · refine g_aload_n cx dX6_item_29 3 rfl ?_
      refine g_iload_n cx dX6_item_30 2 rfl ?_
      refine g_VSv (rest := []) (As := [.int (knF b T P 6 0)]) cx hYX6_houseItem gX6_item_X6_houseItem (c_X6_houseItem l E a c h b T t P v (knF b T P 6 0) hT hP) rfl rfl rfl ⟨Nat.le_of_ble_eq_true rfl, Nat.le_of_ble_eq_true rfl⟩ rfl rfl (Nat.le_of_ble_eq_true rfl) ⟨Nat.le_of_ble_eq_true rfl, Nat.le_of_ble_eq_true rfl⟩ dX6_item_31 (fun w1 hp => ?_)
      rcases hp with ⟨hn_34, v_35, t_36, rfl⟩ | ⟨hn_34, v_35, rfl⟩
      · replace hn_34 : (hsT b T P v t (knF b T P 6 0)).1 = 0 := hn_34
        refine g_w (show _ = (mW E a (t_36, c.2.1, c.2.2.1, b, nI T, c.2.2.2.2.2.1, c.2.2.2.2.2.2.1, c.2.2.2.2.2.2.2.1, c.2.2.2.2.2.2.2.2) (h.1, h.2.1, nI (hsT b T P v t (knF b T P 6 0)).2.1, nI (tkE b T (hsT b T P v t (knF b T P 6 0)).2.1), v_35, 1, h.2.2.2.2.2.2)) from rfl) ?_
        refine g_goto (tgt := 132) cx dX6_item_34 (by decide) ?_
        exact g_vret cx gr (Nat.zero_le _) (Nat.zero_le _) dX6_item_132 (z_ag (show ag (itT b T P v t) (hsT b T P v t (knF b T P 6 0)) from by have hk9 : ¬ knF b T P 6 0 = -1 := fun q => c_23 ((kn_lt hT hP).mpr q); rw [itT, if_neg hk9]; exact ag_r _) (Or.inl ⟨hn_34, _, _, rfl⟩))
      · replace hn_34 : ¬ (hsT b T P v t (knF b T P 6 0)).1 = 0 := hn_34
        refine g_w (show _ = (mW E a (((hsT b T P v t (knF b T P 6 0)).2.2.2), c.2.1, c.2.2.1, b, nI T, c.2.2.2.2.2.1, c.2.2.2.2.2.2.1, c.2.2.2.2.2.2.2.1, c.2.2.2.2.2.2.2.2) (h.1, h.2.1, nI (hsT b T P v t (knF b T P 6 0)).2.1, nI (tkE b T (hsT b T P v t (knF b T P 6 0)).2.1), v_35, 0, h.2.2.2.2.2.2)) from rfl) ?_
        refine g_goto (tgt := 132) cx dX6_item_34 (by decide) ?_
        exact g_vret cx gr (Nat.zero_le _) (Nat.zero_le _) dX6_item_132 (z_ag (show ag (itT b T P v t) (hsT b T P v t (knF b T P 6 0)) from by have hk9 : ¬ knF b T P 6 0 = -1 := fun q => c_23 ((kn_lt hT hP).mpr q); rw [itT, if_neg hk9]; exact ag_r _) (Or.inr ⟨hn_34, _, rfl⟩))
