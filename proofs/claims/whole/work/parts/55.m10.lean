abbrev rmX6_isBook : Room := { frames := 6, cells := 0, slots := 0, locals := 136 }
theorem hYX6_isBook : gY yX6_isBook wsX6_isBook cX6_isBook 3 (some .boolean) 1 := ⟨⟨_, rfl⟩, by decide +kernel, by decide +kernel, by decide +kernel⟩
theorem iwX6_isBook_X6 : ∀ w ∈ u_ws RX6 TX6 16, w ∈ wsX6_isBook := by decide +kernel
theorem lkX6_isBook_31 : Cond.fieldLink RX6 31 "MuffinBellsModel" "sizeOf" "[I" ∈ wsX6_isBook := by decide +kernel
theorem lkX6_isBook_34 : Cond.fieldLink RX6 34 "MuffinBellsModel" "numbers" "[J" ∈ wsX6_isBook := by decide +kernel
theorem lkX6_isBook_7 : Cond.fieldLink RX6 7 "MuffinBellsModel" "s" "[I" ∈ wsX6_isBook := by decide +kernel
set_option maxRecDepth 100000 in
set_option maxHeartbeats 4000000 in
theorem c_X6_isBook (l : Launch) (E : gE) (a : Nat → Nat) (c : Cor) (h : Mar) (s0 : Int32) (j : Nat) (Z : Nat) (hat : vp_in (tAt c.1) 8) (hj : s0 = nI j) (hj4 : j < 4) (hjc : s0.toNatClampNeg = j) (hZ : Z ≤ 40) (hz : c.2.2.2.2.2.2.1 j = nI Z) : cti l yX6_isBook wsX6_isBook rmX6_isBook E [.ref (a 0), .int s0] (mW E a c h) (fun r w => ∃ u : Ter, r = rgL (c.2.2.2.2.2.2.2.1 j) Z 0 c.1 ∧ w = (mW E a (u, c.2.1, c.2.2.1, c.2.2.2.1, c.2.2.2.2.1, c.2.2.2.2.2.1, c.2.2.2.2.2.2.1, c.2.2.2.2.2.2.2.1, c.2.2.2.2.2.2.2.2) h)) := by
  refine mt_i (cc := cX6_isBook) (maxL := 3) (ret := some .boolean) (lv0 := [(0, .ref (a 0)), (1, .int s0)]) (by decide) rfl rfl (Nat.le_of_ble_eq_true rfl) (fun X cx gr hI => ?_)
  refine g_iconst (v := 0) cx dX6_isBook_0 (by decide) ?_
  refine g_istore_n (lv' := [(2, .int 0), (0, .ref (a 0)), (1, .int s0)]) cx dX6_isBook_1 (by decide) rfl ?_
  have LP2 : ∀ (d : Nat) (i : Nat) (x : Int32) (u : Ter), i + d = Z + 1 → i ≤ Z → x = nI i → vp_in (tAt u) 8 → rgL (c.2.2.2.2.2.2.2.1 j) Z 0 c.1 = rgL (c.2.2.2.2.2.2.2.1 j) (Z - i) i u → gG X 0 0 (mW E a (u, c.2.1, c.2.2.1, c.2.2.2.1, c.2.2.2.2.1, c.2.2.2.2.2.1, c.2.2.2.2.2.2.1, c.2.2.2.2.2.2.2.1, c.2.2.2.2.2.2.2.2) h) 2 [(0, .ref (a 0)), (1, .int s0), (2, .int x)] [] := by
    intro d
    induction d with
    | zero =>
      intro i x u hi hiZ hx hat hs
      omega
    | succ d ih =>
      intro i x u hi hiZ hx hat hs
      refine g_iload_n cx dX6_isBook_2 2 rfl ?_
      refine g_aload_n cx dX6_isBook_3 0 rfl ?_
      refine g_get (C := RX6) (T := TX6) (N := 16) (v := .ref (a 8)) cx iwX6_isBook_X6 0 13 rfl rfl (by decide) lkX6_isBook_31 rfl dX6_isBook_4 ?_
      refine g_iload_n cx dX6_isBook_7 1 rfl ?_
      refine g_iald cx 8 rfl rfl (vp_of_nI hj hj4 (by decide)) dX6_isBook_8 ?_
      refine g_icmp_ge (tgt := 46) cx dX6_isBook_9 (by decide) (fun c_1 => ?_) (fun c_1 => ?_)
      · refine g_iconst (v := 1) cx dX6_isBook_46 (by decide) ?_
        exact g_zret cx gr rfl (Nat.zero_le _) (Nat.zero_le _) dX6_isBook_47 ⟨_, by rw [hs, show Z - i = 0 by have := ge_of Z hx (by rw [← hz, ← hjc]; exact c_1) (by omega) (by omega); omega]; rfl, rfl⟩
      · refine g_aload_n cx dX6_isBook_12 0 rfl ?_
        refine g_get (C := RX6) (T := TX6) (N := 16) (v := .ref (a 9)) cx iwX6_isBook_X6 0 14 rfl rfl (by decide) lkX6_isBook_34 rfl dX6_isBook_13 ?_
        refine g_bipush (v := 40) cx dX6_isBook_16 (by decide) ?_
        refine g_iload_n cx dX6_isBook_18 1 rfl ?_
        refine g_imul cx dX6_isBook_19 ?_
        refine g_iload_n cx dX6_isBook_20 2 rfl ?_
        refine g_iadd cx dX6_isBook_21 ?_
        refine g_lald cx 9 rfl rfl (fl_in hj hx hj4 (by have := lt_of Z hx (by rw [← hz, ← hjc]; exact c_1) (by omega) (by omega); omega)) dX6_isBook_22 ?_
        refine g_topl (y := c.2.2.2.2.2.2.2.1 j i) (fl_r c.2.2.2.2.2.2.2.1 hj hx hj4 (by have := lt_of Z hx (by rw [← hz, ← hjc]; exact c_1) (by omega) (by omega); omega)) ?_
        refine g_aload_n cx dX6_isBook_23 0 rfl ?_
        refine g_get (C := RX6) (T := TX6) (N := 16) (v := .ref (a 1)) cx iwX6_isBook_X6 0 0 rfl rfl (by decide) lkX6_isBook_7 rfl dX6_isBook_24 ?_
        refine g_iconst (v := 4) cx dX6_isBook_27 (by decide) ?_
        refine g_iald cx 1 rfl rfl (by unfold vp_in; decide +kernel) dX6_isBook_28 ?_
        refine g_top (y := u.2.2.2.2.1) (rfl) ?_
        refine g_i2l cx dX6_isBook_29 ?_
        refine g_lc_eq (tgt := 36) cx dX6_isBook_30 dX6_isBook_31 (by decide) (fun c_2 => ?_) (fun c_2 => ?_)
        · refine g_aload_n cx dX6_isBook_36 0 rfl ?_
          refine g_VSv (rest := []) (As := []) cx hYX6_hour gX6_isBook_X6_hour (c_X6_hour l E a (u, c.2.1, c.2.2.1, c.2.2.2.1, c.2.2.2.2.1, c.2.2.2.2.2.1, c.2.2.2.2.2.2.1, c.2.2.2.2.2.2.2.1, c.2.2.2.2.2.2.2.2) h  hat) rfl rfl rfl ⟨Nat.le_of_ble_eq_true rfl, Nat.le_of_ble_eq_true rfl⟩ rfl rfl (Nat.le_of_ble_eq_true rfl) ⟨Nat.le_of_ble_eq_true rfl, Nat.le_of_ble_eq_true rfl⟩ dX6_isBook_37 (fun w1 hp => ?_)
          obtain rfl := hp
          refine g_iinc (v := x + 1) (lv' := [(2, .int (x + 1)), (0, .ref (a 0)), (1, .int s0)]) cx dX6_isBook_40 2 rfl rfl (by decide) rfl ?_
          refine g_goto (tgt := 2) cx dX6_isBook_43 (by decide) ?_
          exact g_lv [1, 2, 0] rfl (ih (i + 1) (x + 1) (goHour u) (by omega) (by have := (lt_of Z hx (by rw [← hz, ← hjc]; exact c_1) (by omega) (by omega)); omega) (by rw [hx]; exact nI_1 i) (goHour_at hat) (by rw [hs, show Z - i = (Z - (i + 1)) + 1 by have := (lt_of Z hx (by rw [← hz, ← hjc]; exact c_1) (by omega) (by omega)); omega, rgL, if_pos c_2]))
        · refine g_iconst (v := 0) cx dX6_isBook_34 (by decide) ?_
          exact g_zret cx gr rfl (Nat.zero_le _) (Nat.zero_le _) dX6_isBook_35 ⟨_, by rw [hs, show Z - i = (Z - (i + 1)) + 1 by have := lt_of Z hx (by rw [← hz, ← hjc]; exact c_1) (by omega) (by omega); omega, rgL, if_neg c_2], rfl⟩
  exact g_lv [1, 2, 0] rfl (LP2 (Z + 1) 0 0 c.1 (by omega) (by omega) rfl hat rfl)

theorem rd_zM {m : Nat → Int64} {z : Nat} {t : Ter} {h i : Nat} {y x : Int32} (hi : i < 126) (hy : y = rdC m z t h i) (hx : x = nI i) (c : rgL m z 0 (tKM t h (x / 21) (x - x / 21 * 21)) = 0) : y + 0 = rdC m z t h (i + 1) := by
  rw [hx, show (21 : Int32) = nI 21 from rfl, pk_rem (by omega) (by decide) (by decide), pk_div (by omega) (by decide) (by decide)] at c
  rw [rdC, if_pos c, hy, Int32.add_zero]
theorem rd_kM {m : Nat → Int64} {z : Nat} {t : Ter} {h i : Nat} {y x : Int32} (hi : i < 126) (hy : y = rdC m z t h i) (hx : x = nI i) (c : ¬ rgL m z 0 (tKM t h (x / 21) (x - x / 21 * 21)) = 0) : y + 1 = rdC m z t h (i + 1) := by
  rw [hx, show (21 : Int32) = nI 21 from rfl, pk_rem (by omega) (by decide) (by decide), pk_div (by omega) (by decide) (by decide)] at c
  rw [rdC, if_neg c, hy]

abbrev rmX6_read : Room := { frames := 7, cells := 0, slots := 0, locals := 158 }
theorem hYX6_read : gY yX6_read wsX6_read cX6_read 6 (some .int) 2 := ⟨⟨_, rfl⟩, by decide +kernel, by decide +kernel, by decide +kernel⟩
theorem iwX6_read_X6 : ∀ w ∈ u_ws RX6 TX6 16, w ∈ wsX6_read := by decide +kernel
theorem lkX6_read_7 : Cond.fieldLink RX6 7 "MuffinBellsModel" "s" "[I" ∈ wsX6_read := by decide +kernel
theorem m1X6_read_c45 : Cond.constant RX6 45 (-1000000001) ∈ wsX6_read := by decide +kernel
set_option maxRecDepth 100000 in
set_option maxHeartbeats 4000000 in
theorem c_X6_read (l : Launch) (E : gE) (a : Nat → Nat) (c : Cor) (h : Mar) (s0 : Int32) (h0 : Int32) (hok : cOk c) : cti l yX6_read wsX6_read rmX6_read E [.ref (a 0), .int s0, .int h0] (mW E a c h) (fun r w => ∃ h', r = (sp_read c s0 h0).1 ∧ w = mW E a (sp_read c s0 h0).2 h') := by
  refine mt_i (cc := cX6_read) (maxL := 6) (ret := some .int) (lv0 := [(0, .ref (a 0)), (1, .int s0), (2, .int h0)]) (by decide) rfl rfl (Nat.le_of_ble_eq_true rfl) (fun X cx gr hI => ?_)
  refine g_aload_n cx dX6_read_0 0 rfl ?_
  refine g_iload_n cx dX6_read_1 1 rfl ?_
  refine g_VSi (rest := []) (As := [.int s0]) cx hYX6_wrongSheet gX6_read_X6_wrongSheet (c_X6_wrongSheet l E a c h s0 ) rfl rfl rfl ⟨Nat.le_of_ble_eq_true rfl, Nat.le_of_ble_eq_true rfl⟩ rfl rfl (Nat.le_of_ble_eq_true rfl) ⟨Nat.le_of_ble_eq_true rfl, Nat.le_of_ble_eq_true rfl⟩ dX6_read_2 (fun r w1 hp => ?_)
  obtain ⟨rfl, rfl⟩ := hp
  refine g_istore_n (lv' := [(3, .int (wrS c.2.2.2.2.2.1 s0)), (0, .ref (a 0)), (1, .int s0), (2, .int h0)]) cx dX6_read_5 (by decide) rfl ?_
  refine g_iload_n cx dX6_read_6 0 rfl ?_
  refine g_if_eq (tgt := 16) cx dX6_read_7 (by decide) (fun c_1 => ?_) (fun c_1 => ?_)
  · obtain ⟨hw1, hw2⟩ := wr_0 c_1
    obtain ⟨j, hj3, hj⟩ := isW_nI 3 hw1 (by decide)
    have hj4 : j < 4 := by omega
    have hjc : s0.toNatClampNeg = j := by rw [hj, nI_clamp (by omega)]
    obtain ⟨Z, hZ, hz⟩ := sz_nI (j := j) hok hj4
    refine g_iload_n cx dX6_read_16 3 rfl ?_
    refine g_SPi (rest := []) (As := [.int h0]) cx hYX6_isHouse gX6_read_X6_isHouse (c_X6_isHouse l E h0 ) ⟨Nat.le_of_ble_eq_true rfl, Nat.le_of_ble_eq_true rfl⟩ rfl rfl (Nat.le_of_ble_eq_true rfl) ⟨Nat.le_of_ble_eq_true rfl, Nat.le_of_ble_eq_true rfl⟩ dX6_read_17 ?_
    refine g_if_ne (tgt := 30) cx dX6_read_20 (by decide) (fun c_2 => ?_) (fun c_2 => ?_)
    · refine g_aload_n cx dX6_read_30 1 rfl ?_
      refine g_VSv (rest := []) (As := []) cx hYX6_laysAside gX6_read_X6_laysAside (c_X6_laysAside l E a c h  ) rfl rfl rfl ⟨Nat.le_of_ble_eq_true rfl, Nat.le_of_ble_eq_true rfl⟩ rfl rfl (Nat.le_of_ble_eq_true rfl) ⟨Nat.le_of_ble_eq_true rfl, Nat.le_of_ble_eq_true rfl⟩ dX6_read_31 (fun w1 hp => ?_)
      obtain rfl := hp
      refine g_iconst (v := 0) cx dX6_read_34 (by decide) ?_
      refine g_istore (lv' := [(4, .int 0), (3, .int (wrS c.2.2.2.2.2.1 s0)), (0, .ref (a 0)), (1, .int s0), (2, .int h0)]) cx dX6_read_35 (by decide) rfl ?_
      refine g_iconst (v := 0) cx dX6_read_37 (by decide) ?_
      refine g_istore (lv' := [(5, .int 0), (4, .int 0), (3, .int (wrS c.2.2.2.2.2.1 s0)), (0, .ref (a 0)), (1, .int s0), (2, .int h0)]) cx dX6_read_38 (by decide) rfl ?_
      have LP40 : ∀ (d : Nat) (i : Nat) (x : Int32) (y : Int32), i + d = 127 → i ≤ 126 → x = nI i → y = rdC (c.2.2.2.2.2.2.2.1 j) Z c.1 h0.toNatClampNeg i → gG X 0 0 (mW E a c (h.1, c.1, h.2.2.1, h.2.2.2.1, h.2.2.2.2.1, h.2.2.2.2.2.1, h.2.2.2.2.2.2)) 40 [(0, .ref (a 0)), (1, .int s0), (2, .int h0), (4, .int y), (5, .int x)] [] := by
        intro d
        induction d with
        | zero =>
          intro i x y hi hiN hx hy
          omega
        | succ d ih =>
          intro i x y hi hiN hx hy
          refine g_iload cx dX6_read_40 4 rfl ?_
          refine g_bipush (v := 126) cx dX6_read_42 (by decide) ?_
          refine g_icmp_ge (tgt := 105) cx dX6_read_44 (by decide) (fun c_3 => ?_) (fun c_3 => ?_)
          · refine g_iload cx dX6_read_105 3 rfl ?_
            exact g_iret cx gr (Nat.zero_le _) (Nat.zero_le _) dX6_read_107 (mleaf (by rw [sp_read, if_neg hw1, if_neg hw2, if_neg c_2]; show (rdC (c.2.2.2.2.2.2.2.1 s0.toNatClampNeg) (c.2.2.2.2.2.2.1 s0.toNatClampNeg).toNatClampNeg _ _ 126, c) = _; rw [hjc, hz, nI_clamp (by omega), hy, show i = 126 by have := ge_of 126 hx c_3 (by omega) (by decide); omega]))
          · refine g_aload_n cx dX6_read_47 0 rfl ?_
            refine g_get (C := RX6) (T := TX6) (N := 16) (v := .ref (a 1)) cx iwX6_read_X6 0 0 rfl rfl (by decide) lkX6_read_7 rfl dX6_read_48 ?_
            refine g_iload_n cx dX6_read_51 2 rfl ?_
            refine g_iconst (v := 0) cx dX6_read_52 (by decide) ?_
            refine g_SPi (rest := [.ref (a 1)]) (As := [.int h0, .int 0]) cx hYX6_spotOf gX6_read_X6_spotOf (c_X6_spotOf l E h0 0 ) ⟨Nat.le_of_ble_eq_true rfl, Nat.le_of_ble_eq_true rfl⟩ rfl rfl (Nat.le_of_ble_eq_true rfl) ⟨Nat.le_of_ble_eq_true rfl, Nat.le_of_ble_eq_true rfl⟩ dX6_read_53 ?_
            refine g_iload cx dX6_read_56 4 rfl ?_
            refine g_bipush (v := 21) cx dX6_read_58 (by decide) ?_
            refine g_idiv cx dX6_read_60 (by decide) ?_
            refine g_iast (ws' := (mW E a ((c.1.1, c.1.2.1, c.1.2.2.1, c.1.2.2.2.1, c.1.2.2.2.2.1, c.1.2.2.2.2.2.1, c.1.2.2.2.2.2.2.1, upd c.1.2.2.2.2.2.2.2.1 h0.toNatClampNeg (x / 21), c.1.2.2.2.2.2.2.2.2.1, c.1.2.2.2.2.2.2.2.2.2.1, c.1.2.2.2.2.2.2.2.2.2.2), c.2.1, c.2.2.1, c.2.2.2.1, c.2.2.2.2.1, c.2.2.2.2.2.1, c.2.2.2.2.2.2.1, c.2.2.2.2.2.2.2.1, c.2.2.2.2.2.2.2.2) (h.1, c.1, h.2.2.1, h.2.2.2.1, h.2.2.2.2.1, h.2.2.2.2.2.1, h.2.2.2.2.2.2))) cx 1 rfl rfl (si_K (isW_vp 7 c_2 (by decide))) dX6_read_61 (congrArg (fun f => List.set (mW E a c (h.1, c.1, h.2.2.1, h.2.2.2.1, h.2.2.2.2.1, h.2.2.2.2.2.1, h.2.2.2.2.2.2)) 1 (a 1, .inl (gI E, 39, .inl f))) (su_K (isW_vp 7 c_2 (by decide)) c.1 (x / 21))) ?_
            refine g_aload_n cx dX6_read_62 0 rfl ?_
            refine g_get (C := RX6) (T := TX6) (N := 16) (v := .ref (a 1)) cx iwX6_read_X6 0 0 rfl rfl (by decide) lkX6_read_7 rfl dX6_read_63 ?_
            refine g_iload_n cx dX6_read_66 2 rfl ?_
            refine g_iconst (v := 1) cx dX6_read_67 (by decide) ?_
            refine g_SPi (rest := [.ref (a 1)]) (As := [.int h0, .int 1]) cx hYX6_spotOf gX6_read_X6_spotOf (c_X6_spotOf l E h0 1 ) ⟨Nat.le_of_ble_eq_true rfl, Nat.le_of_ble_eq_true rfl⟩ rfl rfl (Nat.le_of_ble_eq_true rfl) ⟨Nat.le_of_ble_eq_true rfl, Nat.le_of_ble_eq_true rfl⟩ dX6_read_68 ?_
            refine g_iload cx dX6_read_71 4 rfl ?_
            refine g_bipush (v := 21) cx dX6_read_73 (by decide) ?_
            refine g_irem cx dX6_read_75 (by decide) ?_
            refine g_iast (ws' := (mW E a ((c.1.1, c.1.2.1, c.1.2.2.1, c.1.2.2.2.1, c.1.2.2.2.2.1, c.1.2.2.2.2.2.1, c.1.2.2.2.2.2.2.1, upd c.1.2.2.2.2.2.2.2.1 h0.toNatClampNeg (x / 21), upd c.1.2.2.2.2.2.2.2.2.1 h0.toNatClampNeg (x - x / 21 * 21), c.1.2.2.2.2.2.2.2.2.2.1, c.1.2.2.2.2.2.2.2.2.2.2), c.2.1, c.2.2.1, c.2.2.2.1, c.2.2.2.2.1, c.2.2.2.2.2.1, c.2.2.2.2.2.2.1, c.2.2.2.2.2.2.2.1, c.2.2.2.2.2.2.2.2) (h.1, c.1, h.2.2.1, h.2.2.2.1, h.2.2.2.2.1, h.2.2.2.2.2.1, h.2.2.2.2.2.2))) cx 1 rfl rfl (si_M (isW_vp 7 c_2 (by decide))) dX6_read_76 (congrArg (fun f => List.set (mW E a ((c.1.1, c.1.2.1, c.1.2.2.1, c.1.2.2.2.1, c.1.2.2.2.2.1, c.1.2.2.2.2.2.1, c.1.2.2.2.2.2.2.1, upd c.1.2.2.2.2.2.2.2.1 h0.toNatClampNeg (x / 21), c.1.2.2.2.2.2.2.2.2.1, c.1.2.2.2.2.2.2.2.2.2.1, c.1.2.2.2.2.2.2.2.2.2.2), c.2.1, c.2.2.1, c.2.2.2.1, c.2.2.2.2.1, c.2.2.2.2.2.1, c.2.2.2.2.2.2.1, c.2.2.2.2.2.2.2.1, c.2.2.2.2.2.2.2.2) (h.1, c.1, h.2.2.1, h.2.2.2.1, h.2.2.2.2.1, h.2.2.2.2.2.1, h.2.2.2.2.2.2)) 1 (a 1, .inl (gI E, 39, .inl f))) (su_M (isW_vp 7 c_2 (by decide)) (c.1.1, c.1.2.1, c.1.2.2.1, c.1.2.2.2.1, c.1.2.2.2.2.1, c.1.2.2.2.2.2.1, c.1.2.2.2.2.2.2.1, upd c.1.2.2.2.2.2.2.2.1 h0.toNatClampNeg (x / 21), c.1.2.2.2.2.2.2.2.2.1, c.1.2.2.2.2.2.2.2.2.2.1, c.1.2.2.2.2.2.2.2.2.2.2) (x - x / 21 * 21))) ?_
            refine g_aload_n cx dX6_read_77 0 rfl ?_
            refine g_iload cx dX6_read_78 3 rfl ?_
            refine g_aload_n cx dX6_read_80 0 rfl ?_
            refine g_iload_n cx dX6_read_81 1 rfl ?_
            refine g_VSi (rest := [.int y, .ref (a 0)]) (As := [.int s0]) cx hYX6_isBook gX6_read_X6_isBook (c_X6_isBook l E a ((c.1.1, c.1.2.1, c.1.2.2.1, c.1.2.2.2.1, c.1.2.2.2.2.1, c.1.2.2.2.2.2.1, c.1.2.2.2.2.2.2.1, upd c.1.2.2.2.2.2.2.2.1 h0.toNatClampNeg (x / 21), upd c.1.2.2.2.2.2.2.2.2.1 h0.toNatClampNeg (x - x / 21 * 21), c.1.2.2.2.2.2.2.2.2.2.1, c.1.2.2.2.2.2.2.2.2.2.2), c.2.1, c.2.2.1, c.2.2.2.1, c.2.2.2.2.1, c.2.2.2.2.2.1, c.2.2.2.2.2.2.1, c.2.2.2.2.2.2.2.1, c.2.2.2.2.2.2.2.2) (h.1, c.1, h.2.2.1, h.2.2.2.1, h.2.2.2.2.1, h.2.2.2.2.2.1, h.2.2.2.2.2.2) s0 j Z (by exact hok.1.1) hj hj4 hjc hZ hz) rfl rfl rfl ⟨Nat.le_of_ble_eq_true rfl, Nat.le_of_ble_eq_true rfl⟩ rfl rfl (Nat.le_of_ble_eq_true rfl) ⟨Nat.le_of_ble_eq_true rfl, Nat.le_of_ble_eq_true rfl⟩ dX6_read_82 (fun r w1 hp => ?_)
            obtain ⟨u9, hr, rfl⟩ := hp
            rw [hr]
            refine g_if_eq (tgt := 92) cx dX6_read_85 (by decide) (fun c_4 => ?_) (fun c_4 => ?_)
            · refine g_iconst (v := 0) cx dX6_read_92 (by decide) ?_
              refine g_iadd cx dX6_read_93 ?_
              refine g_VSi (rest := []) (As := [.int (y + 0)]) cx hYX6_takesBack gX6_read_X6_takesBack (c_X6_takesBack l E a (u9, c.2.1, c.2.2.1, c.2.2.2.1, c.2.2.2.2.1, c.2.2.2.2.2.1, c.2.2.2.2.2.2.1, c.2.2.2.2.2.2.2.1, c.2.2.2.2.2.2.2.2) (h.1, c.1, h.2.2.1, h.2.2.2.1, h.2.2.2.2.1, h.2.2.2.2.2.1, h.2.2.2.2.2.2) (y + 0) ) rfl rfl rfl ⟨Nat.le_of_ble_eq_true rfl, Nat.le_of_ble_eq_true rfl⟩ rfl rfl (Nat.le_of_ble_eq_true rfl) ⟨Nat.le_of_ble_eq_true rfl, Nat.le_of_ble_eq_true rfl⟩ dX6_read_94 (fun r w1 hp => ?_)
              obtain ⟨rfl, rfl⟩ := hp
              refine g_istore (lv' := [(4, .int (y + 0)), (0, .ref (a 0)), (1, .int s0), (2, .int h0), (5, .int x)]) cx dX6_read_97 (by decide) rfl ?_
              refine g_iinc (v := x + 1) (lv' := [(5, .int (x + 1)), (4, .int (y + 0)), (0, .ref (a 0)), (1, .int s0), (2, .int h0)]) cx dX6_read_99 4 rfl rfl (by decide) rfl ?_
              refine g_goto (tgt := 40) cx dX6_read_102 (by decide) ?_
              exact g_lv [2, 3, 4, 1, 0] rfl (ih (i + 1) (x + 1) (y + 0) (by omega) (by have := (lt_of 126 hx c_3 (by omega) (by decide)); omega) (by rw [hx]; exact nI_1 i) (rd_zM (lt_of 126 hx c_3 (by omega) (by decide)) hy hx c_4))
            · refine g_iconst (v := 1) cx dX6_read_88 (by decide) ?_
              refine g_goto (tgt := 93) cx dX6_read_89 (by decide) ?_
              refine g_iadd cx dX6_read_93 ?_
              refine g_VSi (rest := []) (As := [.int (y + 1)]) cx hYX6_takesBack gX6_read_X6_takesBack (c_X6_takesBack l E a (u9, c.2.1, c.2.2.1, c.2.2.2.1, c.2.2.2.2.1, c.2.2.2.2.2.1, c.2.2.2.2.2.2.1, c.2.2.2.2.2.2.2.1, c.2.2.2.2.2.2.2.2) (h.1, c.1, h.2.2.1, h.2.2.2.1, h.2.2.2.2.1, h.2.2.2.2.2.1, h.2.2.2.2.2.2) (y + 1) ) rfl rfl rfl ⟨Nat.le_of_ble_eq_true rfl, Nat.le_of_ble_eq_true rfl⟩ rfl rfl (Nat.le_of_ble_eq_true rfl) ⟨Nat.le_of_ble_eq_true rfl, Nat.le_of_ble_eq_true rfl⟩ dX6_read_94 (fun r w1 hp => ?_)
              obtain ⟨rfl, rfl⟩ := hp
              refine g_istore (lv' := [(4, .int (y + 1)), (0, .ref (a 0)), (1, .int s0), (2, .int h0), (5, .int x)]) cx dX6_read_97 (by decide) rfl ?_
              refine g_iinc (v := x + 1) (lv' := [(5, .int (x + 1)), (4, .int (y + 1)), (0, .ref (a 0)), (1, .int s0), (2, .int h0)]) cx dX6_read_99 4 rfl rfl (by decide) rfl ?_
              refine g_goto (tgt := 40) cx dX6_read_102 (by decide) ?_
              exact g_lv [2, 3, 4, 1, 0] rfl (ih (i + 1) (x + 1) (y + 1) (by omega) (by have := (lt_of 126 hx c_3 (by omega) (by decide)); omega) (by rw [hx]; exact nI_1 i) (rd_kM (lt_of 126 hx c_3 (by omega) (by decide)) hy hx c_4))
      exact g_lv [3, 4, 5, 1, 0] rfl (LP40 127 0 0 0 (by omega) (by omega) rfl rfl)
    · refine g_aload_n cx dX6_read_23 1 rfl ?_
      refine g_ldc cx m1X6_read_c45 dX6_read_24 ?_
      refine g_VSi (rest := []) (As := [.int (-1000000001)]) cx hYX6_finds gX6_read_X6_finds (c_X6_finds l E a c h (-1000000001) (by unfold vp_in; decide +kernel)) rfl rfl rfl ⟨Nat.le_of_ble_eq_true rfl, Nat.le_of_ble_eq_true rfl⟩ rfl rfl (Nat.le_of_ble_eq_true rfl) ⟨Nat.le_of_ble_eq_true rfl, Nat.le_of_ble_eq_true rfl⟩ dX6_read_26 (fun r w1 hp => ?_)
      obtain ⟨rfl, rfl⟩ := hp
      exact g_iret cx gr (Nat.zero_le _) (Nat.zero_le _) dX6_read_29 (mleaf (by rw [sp_read, if_neg hw1, if_neg hw2, if_pos c_2]; rfl))
  · refine g_aload_n cx dX6_read_10 1 rfl ?_
    refine g_iload_n cx dX6_read_11 0 rfl ?_
    refine g_VSi (rest := []) (As := [.int (wrS c.2.2.2.2.2.1 s0)]) cx hYX6_finds gX6_read_X6_finds (c_X6_finds l E a c h (wrS c.2.2.2.2.2.1 s0) (wr_in7 c_1)) rfl rfl rfl ⟨Nat.le_of_ble_eq_true rfl, Nat.le_of_ble_eq_true rfl⟩ rfl rfl (Nat.le_of_ble_eq_true rfl) ⟨Nat.le_of_ble_eq_true rfl, Nat.le_of_ble_eq_true rfl⟩ dX6_read_12 (fun r w1 hp => ?_)
    obtain ⟨rfl, rfl⟩ := hp
    exact g_iret cx gr (Nat.zero_le _) (Nat.zero_le _) dX6_read_15 (mleaf (by rw [sp_read]; exact wr_b (P := fun f => cB f c) c_1 rfl rfl))
