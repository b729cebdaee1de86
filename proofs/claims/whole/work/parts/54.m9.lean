theorem bk_m {b : Int32} {t u : Ter} {m : Nat → Nat → Int64} {j i : Nat} (hu : u = goHs i t) : upN (upN m j (bkN b t (m j) i)) j (vp_updL (upN m j (bkN b t (m j) i) j) i (narL b (u.2.2.2.2.1).toInt64)) = upN m j (bkN b t (m j) (i + 1)) := by
  rw [upN_upN, upN_at, bkN, hu]

abbrev rmX6_book : Room := { frames := 6, cells := 0, slots := 0, locals := 136 }
theorem hYX6_book : gY yX6_book wsX6_book cX6_book 4 (some .int) 1 := ⟨⟨_, rfl⟩, by decide +kernel, by decide +kernel, by decide +kernel⟩
theorem iwX6_book_X6 : ∀ w ∈ u_ws RX6 TX6 16, w ∈ wsX6_book := by decide +kernel
theorem lkX6_book_31 : Cond.fieldLink RX6 31 "MuffinBellsModel" "sizeOf" "[I" ∈ wsX6_book := by decide +kernel
theorem lkX6_book_34 : Cond.fieldLink RX6 34 "MuffinBellsModel" "numbers" "[J" ∈ wsX6_book := by decide +kernel
theorem lkX6_book_28 : Cond.fieldLink RX6 28 "MuffinBellsModel" "bitsOf" "[I" ∈ wsX6_book := by decide +kernel
theorem lkX6_book_7 : Cond.fieldLink RX6 7 "MuffinBellsModel" "s" "[I" ∈ wsX6_book := by decide +kernel
set_option maxRecDepth 100000 in
set_option maxHeartbeats 4000000 in
theorem c_X6_book (l : Launch) (E : gE) (a : Nat → Nat) (c : Cor) (h : Mar) (s0 : Int32) (hok : cOk c) : cti l yX6_book wsX6_book rmX6_book E [.ref (a 0), .int s0] (mW E a c h) (fun r w => ∃ h', r = (sp_book c s0).1 ∧ w = mW E a (sp_book c s0).2 h') := by
  refine mt_i (cc := cX6_book) (maxL := 4) (ret := some .int) (lv0 := [(0, .ref (a 0)), (1, .int s0)]) (by decide) rfl rfl (Nat.le_of_ble_eq_true rfl) (fun X cx gr hI => ?_)
  refine g_aload_n cx dX6_book_0 0 rfl ?_
  refine g_iload_n cx dX6_book_1 1 rfl ?_
  refine g_VSi (rest := []) (As := [.int s0]) cx hYX6_wrongSheet gX6_book_X6_wrongSheet (c_X6_wrongSheet l E a c h s0 ) rfl rfl rfl ⟨Nat.le_of_ble_eq_true rfl, Nat.le_of_ble_eq_true rfl⟩ rfl rfl (Nat.le_of_ble_eq_true rfl) ⟨Nat.le_of_ble_eq_true rfl, Nat.le_of_ble_eq_true rfl⟩ dX6_book_2 (fun r w1 hp => ?_)
  obtain ⟨rfl, rfl⟩ := hp
  refine g_istore_n (lv' := [(2, .int (wrS c.2.2.2.2.2.1 s0)), (0, .ref (a 0)), (1, .int s0)]) cx dX6_book_5 (by decide) rfl ?_
  refine g_iload_n cx dX6_book_6 0 rfl ?_
  refine g_if_eq (tgt := 16) cx dX6_book_7 (by decide) (fun c_1 => ?_) (fun c_1 => ?_)
  · obtain ⟨hw1, hw2⟩ := wr_0 c_1
    obtain ⟨j, hj3, hj⟩ := isW_nI 3 hw1 (by decide)
    have hj4 : j < 4 := by omega
    have hjc : s0.toNatClampNeg = j := by rw [hj, nI_clamp (by omega)]
    obtain ⟨Z, hZ, hz⟩ := sz_nI (j := j) hok hj4
    refine g_aload_n cx dX6_book_16 1 rfl ?_
    refine g_VSv (rest := []) (As := []) cx hYX6_laysAside gX6_book_X6_laysAside (c_X6_laysAside l E a c h  ) rfl rfl rfl ⟨Nat.le_of_ble_eq_true rfl, Nat.le_of_ble_eq_true rfl⟩ rfl rfl (Nat.le_of_ble_eq_true rfl) ⟨Nat.le_of_ble_eq_true rfl, Nat.le_of_ble_eq_true rfl⟩ dX6_book_17 (fun w1 hp => ?_)
    obtain rfl := hp
    refine g_iconst (v := 0) cx dX6_book_20 (by decide) ?_
    refine g_istore_n (lv' := [(3, .int 0), (2, .int (wrS c.2.2.2.2.2.1 s0)), (0, .ref (a 0)), (1, .int s0)]) cx dX6_book_21 (by decide) rfl ?_
    have LP22 : ∀ (d : Nat) (i : Nat) (x : Int32) (u : Ter), i + d = Z + 1 → i ≤ Z → x = nI i → u = goHs i c.1 → gG X 0 0 (mW E a (u, c.2.1, c.2.2.1, c.2.2.2.1, c.2.2.2.2.1, c.2.2.2.2.2.1, c.2.2.2.2.2.2.1, upN c.2.2.2.2.2.2.2.1 j (bkN (c.2.2.2.2.2.1 s0.toNatClampNeg) c.1 (c.2.2.2.2.2.2.2.1 j) i), c.2.2.2.2.2.2.2.2) (h.1, c.1, h.2.2.1, h.2.2.2.1, h.2.2.2.2.1, h.2.2.2.2.2.1, h.2.2.2.2.2.2)) 22 [(0, .ref (a 0)), (1, .int s0), (3, .int x)] [] := by
      intro d
      induction d with
      | zero =>
        intro i x u hi hiZ hx hu
        omega
      | succ d ih =>
        intro i x u hi hiZ hx hu
        refine g_iload_n cx dX6_book_22 2 rfl ?_
        refine g_aload_n cx dX6_book_23 0 rfl ?_
        refine g_get (C := RX6) (T := TX6) (N := 16) (v := .ref (a 8)) cx iwX6_book_X6 0 13 rfl rfl (by decide) lkX6_book_31 rfl dX6_book_24 ?_
        refine g_iload_n cx dX6_book_27 1 rfl ?_
        refine g_iald cx 8 rfl rfl (vp_of_nI hj hj4 (by decide)) dX6_book_28 ?_
        refine g_icmp_ge (tgt := 69) cx dX6_book_29 (by decide) (fun c_2 => ?_) (fun c_2 => ?_)
        · refine g_aload_n cx dX6_book_69 0 rfl ?_
          refine g_aload_n cx dX6_book_70 0 rfl ?_
          refine g_get (C := RX6) (T := TX6) (N := 16) (v := .ref (a 8)) cx iwX6_book_X6 0 13 rfl rfl (by decide) lkX6_book_31 rfl dX6_book_71 ?_
          refine g_iload_n cx dX6_book_74 1 rfl ?_
          refine g_iald cx 8 rfl rfl (vp_of_nI hj hj4 (by decide)) dX6_book_75 ?_
          refine g_VSi (rest := []) (As := [.int (c.2.2.2.2.2.2.1 (s0.toNatClampNeg))]) cx hYX6_takesBack gX6_book_X6_takesBack (c_X6_takesBack l E a (u, c.2.1, c.2.2.1, c.2.2.2.1, c.2.2.2.2.1, c.2.2.2.2.2.1, c.2.2.2.2.2.2.1, upN c.2.2.2.2.2.2.2.1 j (bkN (c.2.2.2.2.2.1 s0.toNatClampNeg) c.1 (c.2.2.2.2.2.2.2.1 j) i), c.2.2.2.2.2.2.2.2) (h.1, c.1, h.2.2.1, h.2.2.2.1, h.2.2.2.2.1, h.2.2.2.2.2.1, h.2.2.2.2.2.2) (c.2.2.2.2.2.2.1 (s0.toNatClampNeg)) ) rfl rfl rfl ⟨Nat.le_of_ble_eq_true rfl, Nat.le_of_ble_eq_true rfl⟩ rfl rfl (Nat.le_of_ble_eq_true rfl) ⟨Nat.le_of_ble_eq_true rfl, Nat.le_of_ble_eq_true rfl⟩ dX6_book_76 (fun r w1 hp => ?_)
          obtain ⟨rfl, rfl⟩ := hp
          exact g_iret cx gr (Nat.zero_le _) (Nat.zero_le _) dX6_book_79 (mleaf (by rw [sp_book, if_neg hw1, if_neg hw2]; show (c.2.2.2.2.2.2.1 s0.toNatClampNeg, cNm c s0.toNatClampNeg (bkN _ _ (c.2.2.2.2.2.2.2.1 s0.toNatClampNeg) (c.2.2.2.2.2.2.1 s0.toNatClampNeg).toNatClampNeg)) = _; rw [hjc, hz, nI_clamp (by omega), show Z = i by have := ge_of Z hx (by rw [← hz, ← hjc]; exact c_2) (by omega) (by omega); omega, cNm]))
        · refine g_aload_n cx dX6_book_32 0 rfl ?_
          refine g_get (C := RX6) (T := TX6) (N := 16) (v := .ref (a 9)) cx iwX6_book_X6 0 14 rfl rfl (by decide) lkX6_book_34 rfl dX6_book_33 ?_
          refine g_bipush (v := 40) cx dX6_book_36 (by decide) ?_
          refine g_iload_n cx dX6_book_38 1 rfl ?_
          refine g_imul cx dX6_book_39 ?_
          refine g_iload_n cx dX6_book_40 2 rfl ?_
          refine g_iadd cx dX6_book_41 ?_
          refine g_aload_n cx dX6_book_42 0 rfl ?_
          refine g_get (C := RX6) (T := TX6) (N := 16) (v := .ref (a 7)) cx iwX6_book_X6 0 12 rfl rfl (by decide) lkX6_book_28 rfl dX6_book_43 ?_
          refine g_iload_n cx dX6_book_46 1 rfl ?_
          refine g_iald cx 7 rfl rfl (vp_of_nI hj hj4 (by decide)) dX6_book_47 ?_
          refine g_aload_n cx dX6_book_48 0 rfl ?_
          refine g_get (C := RX6) (T := TX6) (N := 16) (v := .ref (a 1)) cx iwX6_book_X6 0 0 rfl rfl (by decide) lkX6_book_7 rfl dX6_book_49 ?_
          refine g_iconst (v := 4) cx dX6_book_52 (by decide) ?_
          refine g_iald cx 1 rfl rfl (by unfold vp_in; decide +kernel) dX6_book_53 ?_
          refine g_top (y := u.2.2.2.2.1) (rfl) ?_
          refine g_i2l cx dX6_book_54 ?_
          refine g_SPl (rest := [.int ((40 * s0) + x), .ref (a 9)]) (As := [.int (c.2.2.2.2.2.1 (s0.toNatClampNeg)), .long u.2.2.2.2.1.toInt64]) cx hYX6_narrowed gX6_book_X6_narrowed (c_X6_narrowed l E (c.2.2.2.2.2.1 (s0.toNatClampNeg)) u.2.2.2.2.1.toInt64) ⟨Nat.le_of_ble_eq_true rfl, Nat.le_of_ble_eq_true rfl⟩ rfl rfl (Nat.le_of_ble_eq_true rfl) ⟨Nat.le_of_ble_eq_true rfl, Nat.le_of_ble_eq_true rfl⟩ dX6_book_55 ?_
          refine g_last (ws' := (mW E a (u, c.2.1, c.2.2.1, c.2.2.2.1, c.2.2.2.2.1, c.2.2.2.2.2.1, c.2.2.2.2.2.2.1, upN (upN c.2.2.2.2.2.2.2.1 j (bkN (c.2.2.2.2.2.1 s0.toNatClampNeg) c.1 (c.2.2.2.2.2.2.2.1 j) i)) j (vp_updL ((upN c.2.2.2.2.2.2.2.1 j (bkN (c.2.2.2.2.2.1 s0.toNatClampNeg) c.1 (c.2.2.2.2.2.2.2.1 j) i)) j) i (narL (c.2.2.2.2.2.1 (s0.toNatClampNeg)) u.2.2.2.2.1.toInt64)), c.2.2.2.2.2.2.2.2) (h.1, c.1, h.2.2.1, h.2.2.2.1, h.2.2.2.2.1, h.2.2.2.2.2.1, h.2.2.2.2.2.2))) cx 9 rfl rfl (fl_in hj hx hj4 (by have := lt_of Z hx (by rw [← hz, ← hjc]; exact c_2) (by omega) (by omega); omega)) dX6_book_58 (congrArg (fun f => List.set (mW E a (u, c.2.1, c.2.2.1, c.2.2.2.1, c.2.2.2.2.1, c.2.2.2.2.2.1, c.2.2.2.2.2.2.1, upN c.2.2.2.2.2.2.2.1 j (bkN (c.2.2.2.2.2.1 s0.toNatClampNeg) c.1 (c.2.2.2.2.2.2.2.1 j) i), c.2.2.2.2.2.2.2.2) (h.1, c.1, h.2.2.1, h.2.2.2.1, h.2.2.2.2.1, h.2.2.2.2.2.1, h.2.2.2.2.2.2)) 9 (a 9, .inl (gJ E, 160, .inr (.inl f)))) (fl_w (upN c.2.2.2.2.2.2.2.1 j (bkN (c.2.2.2.2.2.1 s0.toNatClampNeg) c.1 (c.2.2.2.2.2.2.2.1 j) i)) hj hx hj4 (by have := lt_of Z hx (by rw [← hz, ← hjc]; exact c_2) (by omega) (by omega); omega) (narL (c.2.2.2.2.2.1 (s0.toNatClampNeg)) u.2.2.2.2.1.toInt64))) ?_
          refine g_aload_n cx dX6_book_59 0 rfl ?_
          refine g_VSv (rest := []) (As := []) cx hYX6_hour gX6_book_X6_hour (c_X6_hour l E a (u, c.2.1, c.2.2.1, c.2.2.2.1, c.2.2.2.2.1, c.2.2.2.2.2.1, c.2.2.2.2.2.2.1, upN (upN c.2.2.2.2.2.2.2.1 j (bkN (c.2.2.2.2.2.1 s0.toNatClampNeg) c.1 (c.2.2.2.2.2.2.2.1 j) i)) j (vp_updL ((upN c.2.2.2.2.2.2.2.1 j (bkN (c.2.2.2.2.2.1 s0.toNatClampNeg) c.1 (c.2.2.2.2.2.2.2.1 j) i)) j) i (narL (c.2.2.2.2.2.1 (s0.toNatClampNeg)) u.2.2.2.2.1.toInt64)), c.2.2.2.2.2.2.2.2) (h.1, c.1, h.2.2.1, h.2.2.2.1, h.2.2.2.2.1, h.2.2.2.2.2.1, h.2.2.2.2.2.2)  (by rw [hu]; exact goHs_at i hok.1.1)) rfl rfl rfl ⟨Nat.le_of_ble_eq_true rfl, Nat.le_of_ble_eq_true rfl⟩ rfl rfl (Nat.le_of_ble_eq_true rfl) ⟨Nat.le_of_ble_eq_true rfl, Nat.le_of_ble_eq_true rfl⟩ dX6_book_60 (fun w1 hp => ?_)
          obtain rfl := hp
          refine g_iinc (v := x + 1) (lv' := [(3, .int (x + 1)), (0, .ref (a 0)), (1, .int s0)]) cx dX6_book_63 2 rfl rfl (by decide) rfl ?_
          refine g_goto (tgt := 22) cx dX6_book_66 (by decide) ?_
          exact g_lv [1, 2, 0] rfl (g_w (congrArg (fun F : Nat → Nat → Int64 => (mW E a ((goHour u), c.2.1, c.2.2.1, c.2.2.2.1, c.2.2.2.2.1, c.2.2.2.2.2.1, c.2.2.2.2.2.2.1, F, c.2.2.2.2.2.2.2.2) (h.1, c.1, h.2.2.1, h.2.2.2.1, h.2.2.2.2.1, h.2.2.2.2.2.1, h.2.2.2.2.2.2))) (bk_m hu)) (ih (i + 1) (x + 1) (goHour u) (by omega) (by have := lt_of Z hx (by rw [← hz, ← hjc]; exact c_2) (by omega) (by omega); omega) (by rw [hx]; exact nI_1 i) (by rw [hu, goHs_succ])))
    refine g_w (congrArg (fun F : Nat → Nat → Int64 => (mW E a (c.1, c.2.1, c.2.2.1, c.2.2.2.1, c.2.2.2.2.1, c.2.2.2.2.2.1, c.2.2.2.2.2.2.1, F, c.2.2.2.2.2.2.2.2) (h.1, c.1, h.2.2.1, h.2.2.2.1, h.2.2.2.2.1, h.2.2.2.2.2.1, h.2.2.2.2.2.2))) (upN_self c.2.2.2.2.2.2.2.1 j).symm) ?_
    exact g_lv [2, 3, 0] rfl (LP22 (Z + 1) 0 0 c.1 (by omega) (by omega) rfl rfl)
  · refine g_aload_n cx dX6_book_10 1 rfl ?_
    refine g_iload_n cx dX6_book_11 0 rfl ?_
    refine g_VSi (rest := []) (As := [.int (wrS c.2.2.2.2.2.1 s0)]) cx hYX6_finds gX6_book_X6_finds (c_X6_finds l E a c h (wrS c.2.2.2.2.2.1 s0) (wr_in7 c_1)) rfl rfl rfl ⟨Nat.le_of_ble_eq_true rfl, Nat.le_of_ble_eq_true rfl⟩ rfl rfl (Nat.le_of_ble_eq_true rfl) ⟨Nat.le_of_ble_eq_true rfl, Nat.le_of_ble_eq_true rfl⟩ dX6_book_12 (fun r w1 hp => ?_)
    obtain ⟨rfl, rfl⟩ := hp
    exact g_iret cx gr (Nat.zero_le _) (Nat.zero_le _) dX6_book_15 (mleaf (by rw [sp_book]; exact wr_b (P := fun f => cB f c) c_1 rfl rfl))
