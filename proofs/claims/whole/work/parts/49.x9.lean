theorem upN_self (m : Nat → Nat → Int64) (j : Nat) : upN m j (m j) = m := by
  funext k
  unfold upN
  by_cases h : k = j
  · rw [if_pos h, h]
  · rw [if_neg h]
theorem upN_upN (m : Nat → Nat → Int64) (j : Nat) (f g : Nat → Int64) : upN (upN m j f) j g = upN m j g := by
  funext k
  unfold upN
  by_cases h : k = j
  · rw [if_pos h, if_pos h]
  · rw [if_neg h, if_neg h, if_neg h]
theorem upN_at (m : Nat → Nat → Int64) (j : Nat) (f : Nat → Int64) : upN m j f j = f := if_pos rfl
theorem bk_s {b : Int32} {t u : Ter} {m : Nat → Nat → Int64} {j i : Nat} {x : Int32} (hx : x = nI i) (hi : i < 2 ^ 31) (hu : u = goHs i t) : upN (upN m j (bkN b t (m j) i)) j (vp_updL (upN m j (bkN b t (m j) i) j) x.toNatClampNeg (narL b (u.2.2.2.2.1).toInt64)) = upN m j (bkN b t (m j) (i + 1)) := by
  rw [upN_upN, upN_at, bkN, hx, nI_clamp hi, hu]

abbrev rmX5_book : Room := { frames := 4, cells := 0, slots := 0, locals := 90 }
theorem hYX5_book : gY yX5_book wsX5_book cX5_book 4 (some .int) 1 := ⟨⟨_, rfl⟩, by decide +kernel, by decide +kernel, by decide +kernel⟩
theorem iwX5_book_X5 : ∀ w ∈ u_ws RX5 TX5 8, w ∈ wsX5_book := by decide +kernel
theorem lkX5_book_44 : Cond.fieldLink RX5 44 "MuffinBells" "sheets" "[LMuffinBells$Sheet;" ∈ wsX5_book := by decide +kernel
theorem lkX5_book_16 : Cond.fieldLink RX5 16 "MuffinBells" "trial" "LMuffinBells$Terrace;" ∈ wsX5_book := by decide +kernel
theorem lkX5_book_10 : Cond.fieldLink RX5 10 "MuffinBells" "present" "LMuffinBells$Terrace;" ∈ wsX5_book := by decide +kernel
theorem iwX5_book_X1 : ∀ w ∈ u_ws RX1 TX1 3, w ∈ wsX5_book := by decide +kernel
theorem lkX5_book_205 : Cond.fieldLink RX5 205 "MuffinBells$Sheet" "size" "I" ∈ wsX5_book := by decide +kernel
theorem iwX5_book_X3 : ∀ w ∈ u_ws RX3 TX3 11, w ∈ wsX5_book := by decide +kernel
theorem lkX5_book_97 : Cond.fieldLink RX5 97 "MuffinBells$Terrace" "rang" "I" ∈ wsX5_book := by decide +kernel
theorem m1X5_book_c211 : Cond.constant RX5 211 (-1000000006) ∈ wsX5_book := by decide +kernel
theorem m1X5_book_c61 : Cond.constant RX5 61 (-1000000001) ∈ wsX5_book := by decide +kernel
set_option maxRecDepth 100000 in
set_option maxHeartbeats 4000000 in
theorem c_X5_book (l : Launch) (E : gE) (a : Nat → Nat) (c : Cor) (g : Gar) (s0 : Int32) (hok : cOk c) : cti l yX5_book wsX5_book rmX5_book E [.ref (a 0), .int s0] (xW E a c g) (fun r w => ∃ g', r = (sp_book c s0).1 ∧ w = xW E a (sp_book c s0).2 g') := by
  refine mt_i (cc := cX5_book) (maxL := 4) (ret := some .int) (lv0 := [(0, .ref (a 0)), (1, .int s0)]) (by decide) rfl rfl (Nat.le_of_ble_eq_true rfl) (fun X cx gr hI => ?_)
  refine g_iload_n cx dX5_book_0 1 rfl ?_
  refine g_SPi (rest := []) (As := [.int s0]) cx hYX5_isSheet gX5_book_X5_isSheet (c_X5_isSheet l E s0 ) ⟨Nat.le_of_ble_eq_true rfl, Nat.le_of_ble_eq_true rfl⟩ rfl rfl (Nat.le_of_ble_eq_true rfl) ⟨Nat.le_of_ble_eq_true rfl, Nat.le_of_ble_eq_true rfl⟩ dX5_book_1 ?_
  refine g_if_ne (tgt := 14) cx dX5_book_4 (by decide) (fun c_1 => ?_) (fun c_1 => ?_)
  · obtain ⟨js0, hjs0, rfl⟩ := isW_nI 3 c_1 (by decide)
    rcases (show js0 = 0 ∨ js0 = 1 ∨ js0 = 2 ∨ js0 = 3 by omega) with rfl | rfl | rfl | rfl
    · refine g_aload_n cx dX5_book_14 0 rfl ?_
      refine g_get (C := RX5) (T := TX5) (N := 8) (v := .ref (a 19)) cx iwX5_book_X5 0 6 rfl rfl (by decide) lkX5_book_44 rfl dX5_book_15 ?_
      refine g_iload_n cx dX5_book_18 1 rfl ?_
      refine g_aald (v := a 20) cx 19 rfl rfl (vp_in_nI (by decide) (by decide)) rfl dX5_book_19 ?_
      refine g_astore_n (lv' := [(2, .ref (a 20)), (0, .ref (a 0)), (1, .int (nI 0))]) cx dX5_book_20 (by decide) rfl ?_
      refine g_aload_n cx dX5_book_21 0 rfl ?_
      refine g_Vi (rest := []) (As := []) (wr := ([0, 1, 2, 3, 4, 5, 6, 7, 8, 9, 10, 11, 12, 13, 14, 15, 16, 17, 18, 19, 22, 23, 24, 25, 26, 27, 28].filterMap (fun i => (xW E a c g)[i]?))) cx hYX1_isMissing gX5_book_X1_isMissing (c_X1_isMissing l E (fun i => a (20 + i)) (c.2.2.2.2.2.1 0, c.2.2.2.2.2.2.1 0, c.2.2.2.2.2.2.2.1 0)  ) rfl rfl rfl [20, 21] [0, 1, 2, 3, 4, 5, 6, 7, 8, 9, 10, 11, 12, 13, 14, 15, 16, 17, 18, 19, 22, 23, 24, 25, 26, 27, 28] rfl rfl rfl rfl (by decide) ⟨Nat.le_of_ble_eq_true rfl, Nat.le_of_ble_eq_true rfl⟩ rfl rfl (Nat.le_of_ble_eq_true rfl) ⟨Nat.le_of_ble_eq_true rfl, Nat.le_of_ble_eq_true rfl⟩ dX5_book_22 (fun r w1 hp => ?_)
      obtain ⟨rfl, rfl⟩ := hp
      refine g_ws (ws' := (xW E a c g)) [0, 1, 2, 3, 4, 5, 6, 7, 8, 9, 10, 11, 12, 13, 14, 15, 16, 17, 18, 19, 27, 28, 20, 21, 22, 23, 24, 25, 26] rfl rfl ?_
      refine g_if_eq (tgt := 35) cx dX5_book_25 (by decide) (fun c_2 => ?_) (fun c_2 => ?_)
      · obtain ⟨Zs0, hZs0, hzs0⟩ := sz_nI (j := 0) hok (by decide)
        refine g_aload_n cx dX5_book_35 1 rfl ?_
        refine g_get (C := RX5) (T := TX5) (N := 8) (v := .ref (a 6)) cx iwX5_book_X5 0 1 rfl rfl (by decide) lkX5_book_16 rfl dX5_book_36 ?_
        refine g_aload_n cx dX5_book_39 1 rfl ?_
        refine g_get (C := RX5) (T := TX5) (N := 8) (v := .ref (a 1)) cx iwX5_book_X5 0 0 rfl rfl (by decide) lkX5_book_10 rfl dX5_book_40 ?_
        refine g_XBtp cx gX5_book_X3_become ⟨Nat.le_of_ble_eq_true rfl, Nat.le_of_ble_eq_true rfl⟩ (Nat.le_of_ble_eq_true rfl) dX5_book_43 ?_ (Nat.zero_le _) (Nat.zero_le _)
        refine g_iconst (v := 0) cx dX5_book_46 (by decide) ?_
        refine g_istore_n (lv' := [(3, .int 0), (2, .ref (a 20)), (0, .ref (a 0)), (1, .int (nI 0))]) cx dX5_book_47 (by decide) rfl ?_
        have LP48 : ∀ (d : Nat) (i : Nat) (x : Int32) (u : Ter), i + d = Zs0 + 1 → i ≤ Zs0 → x = nI i → u = goHs i c.1 → gG X 0 0 (xW E a (c.1, c.2.1, c.2.2.1, c.2.2.2.1, c.2.2.2.2.1, c.2.2.2.2.2.1, c.2.2.2.2.2.2.1, upN c.2.2.2.2.2.2.2.1 0 (bkN (c.2.2.2.2.2.1 0) c.1 (c.2.2.2.2.2.2.2.1 0) i), c.2.2.2.2.2.2.2.2) (u, g.2.1, g.2.2.1, g.2.2.2.1, g.2.2.2.2)) 48 [(0, .ref (a 0)), (2, .ref (a 20)), (3, .int x)] [] := by
          intro d
          induction d with
          | zero =>
            intro i x u hi hiZ hx hu
            omega
          | succ d ih =>
            intro i x u hi hiZ hx hu
            refine g_iload_n cx dX5_book_48 2 rfl ?_
            refine g_aload_n cx dX5_book_49 1 rfl ?_
            refine g_get (C := RX1) (T := TX1) (N := 3) (v := .int (c.2.2.2.2.2.2.1 0)) cx iwX5_book_X1 20 1 rfl rfl (by decide) lkX5_book_205 rfl dX5_book_50 ?_
            refine g_icmp_ge (tgt := 82) cx dX5_book_53 (by decide) (fun c_3 => ?_) (fun c_3 => ?_)
            · refine g_aload_n cx dX5_book_82 1 rfl ?_
              refine g_get (C := RX1) (T := TX1) (N := 3) (v := .int (c.2.2.2.2.2.2.1 0)) cx iwX5_book_X1 20 1 rfl rfl (by decide) lkX5_book_205 rfl dX5_book_83 ?_
              exact g_iret cx gr (Nat.zero_le _) (Nat.zero_le _) dX5_book_86 (xleaf (by rw [sp_book, if_neg c_1, show (nI 0).toNatClampNeg = 0 from rfl, if_neg (ms_0 c_2)]; show (c.2.2.2.2.2.2.1 0, cNm c 0 (bkN _ _ _ (c.2.2.2.2.2.2.1 0).toNatClampNeg)) = _; rw [hzs0, nI_clamp (by omega), show Zs0 = i by have := ge_of Zs0 hx (by rw [← hzs0]; exact c_3) (by omega) (by omega); omega, cNm]))
            · refine g_aload_n cx dX5_book_56 1 rfl ?_
              refine g_iload_n cx dX5_book_57 2 rfl ?_
              refine g_aload_n cx dX5_book_58 0 rfl ?_
              refine g_get (C := RX5) (T := TX5) (N := 8) (v := .ref (a 6)) cx iwX5_book_X5 0 1 rfl rfl (by decide) lkX5_book_16 rfl dX5_book_59 ?_
              refine g_get (C := RX3) (T := TX3) (N := 11) (v := .int u.2.2.2.2.1) cx iwX5_book_X3 6 4 rfl rfl (by decide) lkX5_book_97 rfl dX5_book_62 ?_
              refine g_i2l cx dX5_book_65 ?_
              refine g_Vv (rest := []) (As := [.int x, .long u.2.2.2.2.1.toInt64]) (wr := ([0, 1, 2, 3, 4, 5, 6, 7, 8, 9, 10, 11, 12, 13, 14, 15, 16, 17, 18, 19, 22, 23, 24, 25, 26, 27, 28].filterMap (fun q9 => (xW E a (c.1, c.2.1, c.2.2.1, c.2.2.2.1, c.2.2.2.2.1, c.2.2.2.2.2.1, c.2.2.2.2.2.2.1, upN c.2.2.2.2.2.2.2.1 0 (bkN (c.2.2.2.2.2.1 0) c.1 (c.2.2.2.2.2.2.2.1 0) i), c.2.2.2.2.2.2.2.2) (u, g.2.1, g.2.2.1, g.2.2.2.1, g.2.2.2.2))[q9]?))) cx hYX1_put gX5_book_X1_put (c_X1_put l E (fun i => a (20 + i)) (c.2.2.2.2.2.1 0, c.2.2.2.2.2.2.1 0, (upN c.2.2.2.2.2.2.2.1 0 (bkN (c.2.2.2.2.2.1 0) c.1 (c.2.2.2.2.2.2.2.1 0) i)) 0) x u.2.2.2.2.1.toInt64 (vp_of_nI hx (by have := lt_of Zs0 hx (by rw [← hzs0]; exact c_3) (by omega) (by omega); omega) (by decide))) rfl rfl rfl [20, 21] [0, 1, 2, 3, 4, 5, 6, 7, 8, 9, 10, 11, 12, 13, 14, 15, 16, 17, 18, 19, 22, 23, 24, 25, 26, 27, 28] rfl rfl rfl rfl (by decide) ⟨Nat.le_of_ble_eq_true rfl, Nat.le_of_ble_eq_true rfl⟩ rfl rfl (Nat.le_of_ble_eq_true rfl) ⟨Nat.le_of_ble_eq_true rfl, Nat.le_of_ble_eq_true rfl⟩ dX5_book_66 (fun w1 hp => ?_)
              obtain rfl := hp
              refine g_ws (ws' := (xW E a (c.1, c.2.1, c.2.2.1, c.2.2.2.1, c.2.2.2.2.1, c.2.2.2.2.2.1, c.2.2.2.2.2.2.1, upN (upN c.2.2.2.2.2.2.2.1 0 (bkN (c.2.2.2.2.2.1 0) c.1 (c.2.2.2.2.2.2.2.1 0) i)) 0 (vp_updL ((upN c.2.2.2.2.2.2.2.1 0 (bkN (c.2.2.2.2.2.1 0) c.1 (c.2.2.2.2.2.2.2.1 0) i)) 0) x.toNatClampNeg (narL (c.2.2.2.2.2.1 0) u.2.2.2.2.1.toInt64)), c.2.2.2.2.2.2.2.2) (u, g.2.1, g.2.2.1, g.2.2.2.1, g.2.2.2.2))) [0, 1, 2, 3, 4, 5, 6, 7, 8, 9, 10, 11, 12, 13, 14, 15, 16, 17, 18, 19, 27, 28, 20, 21, 22, 23, 24, 25, 26] rfl rfl ?_
              refine g_aload_n cx dX5_book_69 0 rfl ?_
              refine g_get (C := RX5) (T := TX5) (N := 8) (v := .ref (a 6)) cx iwX5_book_X5 0 1 rfl rfl (by decide) lkX5_book_16 rfl dX5_book_70 ?_
              refine g_Xtv (rest := []) (As := []) cx hYX3_goHour gX5_book_X3_goHour (c_X3_goHour l E (fun i => a (6 + i)) u  (by rw [hu]; exact goHs_at i hok.1.1)) rfl ⟨Nat.le_of_ble_eq_true rfl, Nat.le_of_ble_eq_true rfl⟩ rfl rfl (Nat.le_of_ble_eq_true rfl) ⟨Nat.le_of_ble_eq_true rfl, Nat.le_of_ble_eq_true rfl⟩ dX5_book_73 ?_
              refine g_iinc (v := x + 1) (lv' := [(3, .int (x + 1)), (0, .ref (a 0)), (2, .ref (a 20))]) cx dX5_book_76 2 rfl rfl (by decide) rfl ?_
              refine g_goto (tgt := 48) cx dX5_book_79 (by decide) ?_
              exact g_lv [1, 2, 0] rfl (g_w (congrArg (fun F : Nat → Nat → Int64 => (xW E a (c.1, c.2.1, c.2.2.1, c.2.2.2.1, c.2.2.2.2.1, c.2.2.2.2.2.1, c.2.2.2.2.2.2.1, F, c.2.2.2.2.2.2.2.2) ((goHour u), g.2.1, g.2.2.1, g.2.2.2.1, g.2.2.2.2))) (bk_s hx (by omega) hu)) (ih (i + 1) (x + 1) (goHour u) (by omega) (by have := lt_of Zs0 hx (by rw [← hzs0]; exact c_3) (by omega) (by omega); omega) (by rw [hx]; exact nI_1 i) (by rw [hu, goHs_succ])))
        refine g_w (congrArg (fun F : Nat → Nat → Int64 => (xW E a (c.1, c.2.1, c.2.2.1, c.2.2.2.1, c.2.2.2.2.1, c.2.2.2.2.2.1, c.2.2.2.2.2.2.1, F, c.2.2.2.2.2.2.2.2) (c.1, g.2.1, g.2.2.1, g.2.2.2.1, g.2.2.2.2))) (upN_self c.2.2.2.2.2.2.2.1 0).symm) ?_
        exact g_lv [2, 1, 0] rfl (LP48 (Zs0 + 1) 0 0 c.1 (by omega) (by omega) rfl rfl)
      · refine g_aload_n cx dX5_book_28 1 rfl ?_
        refine g_ldc cx m1X5_book_c211 dX5_book_29 ?_
        refine g_VSi (rest := []) (As := [.int (-1000000006)]) cx hYX5_finding gX5_book_X5_finding (c_X5_finding l E a c g (-1000000006) (by unfold vp_in; decide +kernel)) rfl rfl rfl ⟨Nat.le_of_ble_eq_true rfl, Nat.le_of_ble_eq_true rfl⟩ rfl rfl (Nat.le_of_ble_eq_true rfl) ⟨Nat.le_of_ble_eq_true rfl, Nat.le_of_ble_eq_true rfl⟩ dX5_book_31 (fun r w1 hp => ?_)
        obtain ⟨rfl, rfl⟩ := hp
        exact g_iret cx gr (Nat.zero_le _) (Nat.zero_le _) dX5_book_34 (xleaf (by rw [sp_book, if_neg c_1, show (nI 0).toNatClampNeg = 0 from rfl, if_pos (ms_1 c_2)]; rfl))
    · refine g_aload_n cx dX5_book_14 0 rfl ?_
      refine g_get (C := RX5) (T := TX5) (N := 8) (v := .ref (a 19)) cx iwX5_book_X5 0 6 rfl rfl (by decide) lkX5_book_44 rfl dX5_book_15 ?_
      refine g_iload_n cx dX5_book_18 1 rfl ?_
      refine g_aald (v := a 22) cx 19 rfl rfl (vp_in_nI (by decide) (by decide)) rfl dX5_book_19 ?_
      refine g_astore_n (lv' := [(2, .ref (a 22)), (0, .ref (a 0)), (1, .int (nI 1))]) cx dX5_book_20 (by decide) rfl ?_
      refine g_aload_n cx dX5_book_21 0 rfl ?_
      refine g_Vi (rest := []) (As := []) (wr := ([0, 1, 2, 3, 4, 5, 6, 7, 8, 9, 10, 11, 12, 13, 14, 15, 16, 17, 18, 19, 20, 21, 24, 25, 26, 27, 28].filterMap (fun i => (xW E a c g)[i]?))) cx hYX1_isMissing gX5_book_X1_isMissing (c_X1_isMissing l E (fun i => a (22 + i)) (c.2.2.2.2.2.1 1, c.2.2.2.2.2.2.1 1, c.2.2.2.2.2.2.2.1 1)  ) rfl rfl rfl [22, 23] [0, 1, 2, 3, 4, 5, 6, 7, 8, 9, 10, 11, 12, 13, 14, 15, 16, 17, 18, 19, 20, 21, 24, 25, 26, 27, 28] rfl rfl rfl rfl (by decide) ⟨Nat.le_of_ble_eq_true rfl, Nat.le_of_ble_eq_true rfl⟩ rfl rfl (Nat.le_of_ble_eq_true rfl) ⟨Nat.le_of_ble_eq_true rfl, Nat.le_of_ble_eq_true rfl⟩ dX5_book_22 (fun r w1 hp => ?_)
      obtain ⟨rfl, rfl⟩ := hp
      refine g_ws (ws' := (xW E a c g)) [0, 1, 2, 3, 4, 5, 6, 7, 8, 9, 10, 11, 12, 13, 14, 15, 16, 17, 18, 19, 20, 21, 27, 28, 22, 23, 24, 25, 26] rfl rfl ?_
      refine g_if_eq (tgt := 35) cx dX5_book_25 (by decide) (fun c_4 => ?_) (fun c_4 => ?_)
      · obtain ⟨Zs0, hZs0, hzs0⟩ := sz_nI (j := 1) hok (by decide)
        refine g_aload_n cx dX5_book_35 1 rfl ?_
        refine g_get (C := RX5) (T := TX5) (N := 8) (v := .ref (a 6)) cx iwX5_book_X5 0 1 rfl rfl (by decide) lkX5_book_16 rfl dX5_book_36 ?_
        refine g_aload_n cx dX5_book_39 1 rfl ?_
        refine g_get (C := RX5) (T := TX5) (N := 8) (v := .ref (a 1)) cx iwX5_book_X5 0 0 rfl rfl (by decide) lkX5_book_10 rfl dX5_book_40 ?_
        refine g_XBtp cx gX5_book_X3_become ⟨Nat.le_of_ble_eq_true rfl, Nat.le_of_ble_eq_true rfl⟩ (Nat.le_of_ble_eq_true rfl) dX5_book_43 ?_ (Nat.zero_le _) (Nat.zero_le _)
        refine g_iconst (v := 0) cx dX5_book_46 (by decide) ?_
        refine g_istore_n (lv' := [(3, .int 0), (2, .ref (a 22)), (0, .ref (a 0)), (1, .int (nI 1))]) cx dX5_book_47 (by decide) rfl ?_
        have LP48 : ∀ (d : Nat) (i : Nat) (x : Int32) (u : Ter), i + d = Zs0 + 1 → i ≤ Zs0 → x = nI i → u = goHs i c.1 → gG X 0 0 (xW E a (c.1, c.2.1, c.2.2.1, c.2.2.2.1, c.2.2.2.2.1, c.2.2.2.2.2.1, c.2.2.2.2.2.2.1, upN c.2.2.2.2.2.2.2.1 1 (bkN (c.2.2.2.2.2.1 1) c.1 (c.2.2.2.2.2.2.2.1 1) i), c.2.2.2.2.2.2.2.2) (u, g.2.1, g.2.2.1, g.2.2.2.1, g.2.2.2.2)) 48 [(0, .ref (a 0)), (2, .ref (a 22)), (3, .int x)] [] := by
          intro d
          induction d with
          | zero =>
            intro i x u hi hiZ hx hu
            omega
          | succ d ih =>
            intro i x u hi hiZ hx hu
            refine g_iload_n cx dX5_book_48 2 rfl ?_
            refine g_aload_n cx dX5_book_49 1 rfl ?_
            refine g_get (C := RX1) (T := TX1) (N := 3) (v := .int (c.2.2.2.2.2.2.1 1)) cx iwX5_book_X1 22 1 rfl rfl (by decide) lkX5_book_205 rfl dX5_book_50 ?_
            refine g_icmp_ge (tgt := 82) cx dX5_book_53 (by decide) (fun c_5 => ?_) (fun c_5 => ?_)
            · refine g_aload_n cx dX5_book_82 1 rfl ?_
              refine g_get (C := RX1) (T := TX1) (N := 3) (v := .int (c.2.2.2.2.2.2.1 1)) cx iwX5_book_X1 22 1 rfl rfl (by decide) lkX5_book_205 rfl dX5_book_83 ?_
              exact g_iret cx gr (Nat.zero_le _) (Nat.zero_le _) dX5_book_86 (xleaf (by rw [sp_book, if_neg c_1, show (nI 1).toNatClampNeg = 1 from rfl, if_neg (ms_0 c_4)]; show (c.2.2.2.2.2.2.1 1, cNm c 1 (bkN _ _ _ (c.2.2.2.2.2.2.1 1).toNatClampNeg)) = _; rw [hzs0, nI_clamp (by omega), show Zs0 = i by have := ge_of Zs0 hx (by rw [← hzs0]; exact c_5) (by omega) (by omega); omega, cNm]))
            · refine g_aload_n cx dX5_book_56 1 rfl ?_
              refine g_iload_n cx dX5_book_57 2 rfl ?_
              refine g_aload_n cx dX5_book_58 0 rfl ?_
              refine g_get (C := RX5) (T := TX5) (N := 8) (v := .ref (a 6)) cx iwX5_book_X5 0 1 rfl rfl (by decide) lkX5_book_16 rfl dX5_book_59 ?_
              refine g_get (C := RX3) (T := TX3) (N := 11) (v := .int u.2.2.2.2.1) cx iwX5_book_X3 6 4 rfl rfl (by decide) lkX5_book_97 rfl dX5_book_62 ?_
              refine g_i2l cx dX5_book_65 ?_
              refine g_Vv (rest := []) (As := [.int x, .long u.2.2.2.2.1.toInt64]) (wr := ([0, 1, 2, 3, 4, 5, 6, 7, 8, 9, 10, 11, 12, 13, 14, 15, 16, 17, 18, 19, 20, 21, 24, 25, 26, 27, 28].filterMap (fun q9 => (xW E a (c.1, c.2.1, c.2.2.1, c.2.2.2.1, c.2.2.2.2.1, c.2.2.2.2.2.1, c.2.2.2.2.2.2.1, upN c.2.2.2.2.2.2.2.1 1 (bkN (c.2.2.2.2.2.1 1) c.1 (c.2.2.2.2.2.2.2.1 1) i), c.2.2.2.2.2.2.2.2) (u, g.2.1, g.2.2.1, g.2.2.2.1, g.2.2.2.2))[q9]?))) cx hYX1_put gX5_book_X1_put (c_X1_put l E (fun i => a (22 + i)) (c.2.2.2.2.2.1 1, c.2.2.2.2.2.2.1 1, (upN c.2.2.2.2.2.2.2.1 1 (bkN (c.2.2.2.2.2.1 1) c.1 (c.2.2.2.2.2.2.2.1 1) i)) 1) x u.2.2.2.2.1.toInt64 (vp_of_nI hx (by have := lt_of Zs0 hx (by rw [← hzs0]; exact c_5) (by omega) (by omega); omega) (by decide))) rfl rfl rfl [22, 23] [0, 1, 2, 3, 4, 5, 6, 7, 8, 9, 10, 11, 12, 13, 14, 15, 16, 17, 18, 19, 20, 21, 24, 25, 26, 27, 28] rfl rfl rfl rfl (by decide) ⟨Nat.le_of_ble_eq_true rfl, Nat.le_of_ble_eq_true rfl⟩ rfl rfl (Nat.le_of_ble_eq_true rfl) ⟨Nat.le_of_ble_eq_true rfl, Nat.le_of_ble_eq_true rfl⟩ dX5_book_66 (fun w1 hp => ?_)
              obtain rfl := hp
              refine g_ws (ws' := (xW E a (c.1, c.2.1, c.2.2.1, c.2.2.2.1, c.2.2.2.2.1, c.2.2.2.2.2.1, c.2.2.2.2.2.2.1, upN (upN c.2.2.2.2.2.2.2.1 1 (bkN (c.2.2.2.2.2.1 1) c.1 (c.2.2.2.2.2.2.2.1 1) i)) 1 (vp_updL ((upN c.2.2.2.2.2.2.2.1 1 (bkN (c.2.2.2.2.2.1 1) c.1 (c.2.2.2.2.2.2.2.1 1) i)) 1) x.toNatClampNeg (narL (c.2.2.2.2.2.1 1) u.2.2.2.2.1.toInt64)), c.2.2.2.2.2.2.2.2) (u, g.2.1, g.2.2.1, g.2.2.2.1, g.2.2.2.2))) [0, 1, 2, 3, 4, 5, 6, 7, 8, 9, 10, 11, 12, 13, 14, 15, 16, 17, 18, 19, 20, 21, 27, 28, 22, 23, 24, 25, 26] rfl rfl ?_
              refine g_aload_n cx dX5_book_69 0 rfl ?_
              refine g_get (C := RX5) (T := TX5) (N := 8) (v := .ref (a 6)) cx iwX5_book_X5 0 1 rfl rfl (by decide) lkX5_book_16 rfl dX5_book_70 ?_
              refine g_Xtv (rest := []) (As := []) cx hYX3_goHour gX5_book_X3_goHour (c_X3_goHour l E (fun i => a (6 + i)) u  (by rw [hu]; exact goHs_at i hok.1.1)) rfl ⟨Nat.le_of_ble_eq_true rfl, Nat.le_of_ble_eq_true rfl⟩ rfl rfl (Nat.le_of_ble_eq_true rfl) ⟨Nat.le_of_ble_eq_true rfl, Nat.le_of_ble_eq_true rfl⟩ dX5_book_73 ?_
              refine g_iinc (v := x + 1) (lv' := [(3, .int (x + 1)), (0, .ref (a 0)), (2, .ref (a 22))]) cx dX5_book_76 2 rfl rfl (by decide) rfl ?_
              refine g_goto (tgt := 48) cx dX5_book_79 (by decide) ?_
              exact g_lv [1, 2, 0] rfl (g_w (congrArg (fun F : Nat → Nat → Int64 => (xW E a (c.1, c.2.1, c.2.2.1, c.2.2.2.1, c.2.2.2.2.1, c.2.2.2.2.2.1, c.2.2.2.2.2.2.1, F, c.2.2.2.2.2.2.2.2) ((goHour u), g.2.1, g.2.2.1, g.2.2.2.1, g.2.2.2.2))) (bk_s hx (by omega) hu)) (ih (i + 1) (x + 1) (goHour u) (by omega) (by have := lt_of Zs0 hx (by rw [← hzs0]; exact c_5) (by omega) (by omega); omega) (by rw [hx]; exact nI_1 i) (by rw [hu, goHs_succ])))
        refine g_w (congrArg (fun F : Nat → Nat → Int64 => (xW E a (c.1, c.2.1, c.2.2.1, c.2.2.2.1, c.2.2.2.2.1, c.2.2.2.2.2.1, c.2.2.2.2.2.2.1, F, c.2.2.2.2.2.2.2.2) (c.1, g.2.1, g.2.2.1, g.2.2.2.1, g.2.2.2.2))) (upN_self c.2.2.2.2.2.2.2.1 1).symm) ?_
        exact g_lv [2, 1, 0] rfl (LP48 (Zs0 + 1) 0 0 c.1 (by omega) (by omega) rfl rfl)
      · refine g_aload_n cx dX5_book_28 1 rfl ?_
        refine g_ldc cx m1X5_book_c211 dX5_book_29 ?_
        refine g_VSi (rest := []) (As := [.int (-1000000006)]) cx hYX5_finding gX5_book_X5_finding (c_X5_finding l E a c g (-1000000006) (by unfold vp_in; decide +kernel)) rfl rfl rfl ⟨Nat.le_of_ble_eq_true rfl, Nat.le_of_ble_eq_true rfl⟩ rfl rfl (Nat.le_of_ble_eq_true rfl) ⟨Nat.le_of_ble_eq_true rfl, Nat.le_of_ble_eq_true rfl⟩ dX5_book_31 (fun r w1 hp => ?_)
        obtain ⟨rfl, rfl⟩ := hp
        exact g_iret cx gr (Nat.zero_le _) (Nat.zero_le _) dX5_book_34 (xleaf (by rw [sp_book, if_neg c_1, show (nI 1).toNatClampNeg = 1 from rfl, if_pos (ms_1 c_4)]; rfl))
    · refine g_aload_n cx dX5_book_14 0 rfl ?_
      refine g_get (C := RX5) (T := TX5) (N := 8) (v := .ref (a 19)) cx iwX5_book_X5 0 6 rfl rfl (by decide) lkX5_book_44 rfl dX5_book_15 ?_
      refine g_iload_n cx dX5_book_18 1 rfl ?_
      refine g_aald (v := a 24) cx 19 rfl rfl (vp_in_nI (by decide) (by decide)) rfl dX5_book_19 ?_
      refine g_astore_n (lv' := [(2, .ref (a 24)), (0, .ref (a 0)), (1, .int (nI 2))]) cx dX5_book_20 (by decide) rfl ?_
      refine g_aload_n cx dX5_book_21 0 rfl ?_
      refine g_Vi (rest := []) (As := []) (wr := ([0, 1, 2, 3, 4, 5, 6, 7, 8, 9, 10, 11, 12, 13, 14, 15, 16, 17, 18, 19, 20, 21, 22, 23, 26, 27, 28].filterMap (fun i => (xW E a c g)[i]?))) cx hYX1_isMissing gX5_book_X1_isMissing (c_X1_isMissing l E (fun i => a (24 + i)) (c.2.2.2.2.2.1 2, c.2.2.2.2.2.2.1 2, c.2.2.2.2.2.2.2.1 2)  ) rfl rfl rfl [24, 25] [0, 1, 2, 3, 4, 5, 6, 7, 8, 9, 10, 11, 12, 13, 14, 15, 16, 17, 18, 19, 20, 21, 22, 23, 26, 27, 28] rfl rfl rfl rfl (by decide) ⟨Nat.le_of_ble_eq_true rfl, Nat.le_of_ble_eq_true rfl⟩ rfl rfl (Nat.le_of_ble_eq_true rfl) ⟨Nat.le_of_ble_eq_true rfl, Nat.le_of_ble_eq_true rfl⟩ dX5_book_22 (fun r w1 hp => ?_)
      obtain ⟨rfl, rfl⟩ := hp
      refine g_ws (ws' := (xW E a c g)) [0, 1, 2, 3, 4, 5, 6, 7, 8, 9, 10, 11, 12, 13, 14, 15, 16, 17, 18, 19, 20, 21, 22, 23, 27, 28, 24, 25, 26] rfl rfl ?_
      refine g_if_eq (tgt := 35) cx dX5_book_25 (by decide) (fun c_6 => ?_) (fun c_6 => ?_)
      · obtain ⟨Zs0, hZs0, hzs0⟩ := sz_nI (j := 2) hok (by decide)
        refine g_aload_n cx dX5_book_35 1 rfl ?_
        refine g_get (C := RX5) (T := TX5) (N := 8) (v := .ref (a 6)) cx iwX5_book_X5 0 1 rfl rfl (by decide) lkX5_book_16 rfl dX5_book_36 ?_
        refine g_aload_n cx dX5_book_39 1 rfl ?_
        refine g_get (C := RX5) (T := TX5) (N := 8) (v := .ref (a 1)) cx iwX5_book_X5 0 0 rfl rfl (by decide) lkX5_book_10 rfl dX5_book_40 ?_
        refine g_XBtp cx gX5_book_X3_become ⟨Nat.le_of_ble_eq_true rfl, Nat.le_of_ble_eq_true rfl⟩ (Nat.le_of_ble_eq_true rfl) dX5_book_43 ?_ (Nat.zero_le _) (Nat.zero_le _)
        refine g_iconst (v := 0) cx dX5_book_46 (by decide) ?_
        refine g_istore_n (lv' := [(3, .int 0), (2, .ref (a 24)), (0, .ref (a 0)), (1, .int (nI 2))]) cx dX5_book_47 (by decide) rfl ?_
        have LP48 : ∀ (d : Nat) (i : Nat) (x : Int32) (u : Ter), i + d = Zs0 + 1 → i ≤ Zs0 → x = nI i → u = goHs i c.1 → gG X 0 0 (xW E a (c.1, c.2.1, c.2.2.1, c.2.2.2.1, c.2.2.2.2.1, c.2.2.2.2.2.1, c.2.2.2.2.2.2.1, upN c.2.2.2.2.2.2.2.1 2 (bkN (c.2.2.2.2.2.1 2) c.1 (c.2.2.2.2.2.2.2.1 2) i), c.2.2.2.2.2.2.2.2) (u, g.2.1, g.2.2.1, g.2.2.2.1, g.2.2.2.2)) 48 [(0, .ref (a 0)), (2, .ref (a 24)), (3, .int x)] [] := by
          intro d
          induction d with
          | zero =>
            intro i x u hi hiZ hx hu
            omega
          | succ d ih =>
            intro i x u hi hiZ hx hu
            refine g_iload_n cx dX5_book_48 2 rfl ?_
            refine g_aload_n cx dX5_book_49 1 rfl ?_
            refine g_get (C := RX1) (T := TX1) (N := 3) (v := .int (c.2.2.2.2.2.2.1 2)) cx iwX5_book_X1 24 1 rfl rfl (by decide) lkX5_book_205 rfl dX5_book_50 ?_
            refine g_icmp_ge (tgt := 82) cx dX5_book_53 (by decide) (fun c_7 => ?_) (fun c_7 => ?_)
            · refine g_aload_n cx dX5_book_82 1 rfl ?_
              refine g_get (C := RX1) (T := TX1) (N := 3) (v := .int (c.2.2.2.2.2.2.1 2)) cx iwX5_book_X1 24 1 rfl rfl (by decide) lkX5_book_205 rfl dX5_book_83 ?_
              exact g_iret cx gr (Nat.zero_le _) (Nat.zero_le _) dX5_book_86 (xleaf (by rw [sp_book, if_neg c_1, show (nI 2).toNatClampNeg = 2 from rfl, if_neg (ms_0 c_6)]; show (c.2.2.2.2.2.2.1 2, cNm c 2 (bkN _ _ _ (c.2.2.2.2.2.2.1 2).toNatClampNeg)) = _; rw [hzs0, nI_clamp (by omega), show Zs0 = i by have := ge_of Zs0 hx (by rw [← hzs0]; exact c_7) (by omega) (by omega); omega, cNm]))
            · refine g_aload_n cx dX5_book_56 1 rfl ?_
              refine g_iload_n cx dX5_book_57 2 rfl ?_
              refine g_aload_n cx dX5_book_58 0 rfl ?_
              refine g_get (C := RX5) (T := TX5) (N := 8) (v := .ref (a 6)) cx iwX5_book_X5 0 1 rfl rfl (by decide) lkX5_book_16 rfl dX5_book_59 ?_
              refine g_get (C := RX3) (T := TX3) (N := 11) (v := .int u.2.2.2.2.1) cx iwX5_book_X3 6 4 rfl rfl (by decide) lkX5_book_97 rfl dX5_book_62 ?_
              refine g_i2l cx dX5_book_65 ?_
              refine g_Vv (rest := []) (As := [.int x, .long u.2.2.2.2.1.toInt64]) (wr := ([0, 1, 2, 3, 4, 5, 6, 7, 8, 9, 10, 11, 12, 13, 14, 15, 16, 17, 18, 19, 20, 21, 22, 23, 26, 27, 28].filterMap (fun q9 => (xW E a (c.1, c.2.1, c.2.2.1, c.2.2.2.1, c.2.2.2.2.1, c.2.2.2.2.2.1, c.2.2.2.2.2.2.1, upN c.2.2.2.2.2.2.2.1 2 (bkN (c.2.2.2.2.2.1 2) c.1 (c.2.2.2.2.2.2.2.1 2) i), c.2.2.2.2.2.2.2.2) (u, g.2.1, g.2.2.1, g.2.2.2.1, g.2.2.2.2))[q9]?))) cx hYX1_put gX5_book_X1_put (c_X1_put l E (fun i => a (24 + i)) (c.2.2.2.2.2.1 2, c.2.2.2.2.2.2.1 2, (upN c.2.2.2.2.2.2.2.1 2 (bkN (c.2.2.2.2.2.1 2) c.1 (c.2.2.2.2.2.2.2.1 2) i)) 2) x u.2.2.2.2.1.toInt64 (vp_of_nI hx (by have := lt_of Zs0 hx (by rw [← hzs0]; exact c_7) (by omega) (by omega); omega) (by decide))) rfl rfl rfl [24, 25] [0, 1, 2, 3, 4, 5, 6, 7, 8, 9, 10, 11, 12, 13, 14, 15, 16, 17, 18, 19, 20, 21, 22, 23, 26, 27, 28] rfl rfl rfl rfl (by decide) ⟨Nat.le_of_ble_eq_true rfl, Nat.le_of_ble_eq_true rfl⟩ rfl rfl (Nat.le_of_ble_eq_true rfl) ⟨Nat.le_of_ble_eq_true rfl, Nat.le_of_ble_eq_true rfl⟩ dX5_book_66 (fun w1 hp => ?_)
              obtain rfl := hp
              refine g_ws (ws' := (xW E a (c.1, c.2.1, c.2.2.1, c.2.2.2.1, c.2.2.2.2.1, c.2.2.2.2.2.1, c.2.2.2.2.2.2.1, upN (upN c.2.2.2.2.2.2.2.1 2 (bkN (c.2.2.2.2.2.1 2) c.1 (c.2.2.2.2.2.2.2.1 2) i)) 2 (vp_updL ((upN c.2.2.2.2.2.2.2.1 2 (bkN (c.2.2.2.2.2.1 2) c.1 (c.2.2.2.2.2.2.2.1 2) i)) 2) x.toNatClampNeg (narL (c.2.2.2.2.2.1 2) u.2.2.2.2.1.toInt64)), c.2.2.2.2.2.2.2.2) (u, g.2.1, g.2.2.1, g.2.2.2.1, g.2.2.2.2))) [0, 1, 2, 3, 4, 5, 6, 7, 8, 9, 10, 11, 12, 13, 14, 15, 16, 17, 18, 19, 20, 21, 22, 23, 27, 28, 24, 25, 26] rfl rfl ?_
              refine g_aload_n cx dX5_book_69 0 rfl ?_
              refine g_get (C := RX5) (T := TX5) (N := 8) (v := .ref (a 6)) cx iwX5_book_X5 0 1 rfl rfl (by decide) lkX5_book_16 rfl dX5_book_70 ?_
              refine g_Xtv (rest := []) (As := []) cx hYX3_goHour gX5_book_X3_goHour (c_X3_goHour l E (fun i => a (6 + i)) u  (by rw [hu]; exact goHs_at i hok.1.1)) rfl ⟨Nat.le_of_ble_eq_true rfl, Nat.le_of_ble_eq_true rfl⟩ rfl rfl (Nat.le_of_ble_eq_true rfl) ⟨Nat.le_of_ble_eq_true rfl, Nat.le_of_ble_eq_true rfl⟩ dX5_book_73 ?_
              refine g_iinc (v := x + 1) (lv' := [(3, .int (x + 1)), (0, .ref (a 0)), (2, .ref (a 24))]) cx dX5_book_76 2 rfl rfl (by decide) rfl ?_
              refine g_goto (tgt := 48) cx dX5_book_79 (by decide) ?_
              exact g_lv [1, 2, 0] rfl (g_w (congrArg (fun F : Nat → Nat → Int64 => (xW E a (c.1, c.2.1, c.2.2.1, c.2.2.2.1, c.2.2.2.2.1, c.2.2.2.2.2.1, c.2.2.2.2.2.2.1, F, c.2.2.2.2.2.2.2.2) ((goHour u), g.2.1, g.2.2.1, g.2.2.2.1, g.2.2.2.2))) (bk_s hx (by omega) hu)) (ih (i + 1) (x + 1) (goHour u) (by omega) (by have := lt_of Zs0 hx (by rw [← hzs0]; exact c_7) (by omega) (by omega); omega) (by rw [hx]; exact nI_1 i) (by rw [hu, goHs_succ])))
        refine g_w (congrArg (fun F : Nat → Nat → Int64 => (xW E a (c.1, c.2.1, c.2.2.1, c.2.2.2.1, c.2.2.2.2.1, c.2.2.2.2.2.1, c.2.2.2.2.2.2.1, F, c.2.2.2.2.2.2.2.2) (c.1, g.2.1, g.2.2.1, g.2.2.2.1, g.2.2.2.2))) (upN_self c.2.2.2.2.2.2.2.1 2).symm) ?_
        exact g_lv [2, 1, 0] rfl (LP48 (Zs0 + 1) 0 0 c.1 (by omega) (by omega) rfl rfl)
      · refine g_aload_n cx dX5_book_28 1 rfl ?_
        refine g_ldc cx m1X5_book_c211 dX5_book_29 ?_
        refine g_VSi (rest := []) (As := [.int (-1000000006)]) cx hYX5_finding gX5_book_X5_finding (c_X5_finding l E a c g (-1000000006) (by unfold vp_in; decide +kernel)) rfl rfl rfl ⟨Nat.le_of_ble_eq_true rfl, Nat.le_of_ble_eq_true rfl⟩ rfl rfl (Nat.le_of_ble_eq_true rfl) ⟨Nat.le_of_ble_eq_true rfl, Nat.le_of_ble_eq_true rfl⟩ dX5_book_31 (fun r w1 hp => ?_)
        obtain ⟨rfl, rfl⟩ := hp
        exact g_iret cx gr (Nat.zero_le _) (Nat.zero_le _) dX5_book_34 (xleaf (by rw [sp_book, if_neg c_1, show (nI 2).toNatClampNeg = 2 from rfl, if_pos (ms_1 c_6)]; rfl))
    · refine g_aload_n cx dX5_book_14 0 rfl ?_
      refine g_get (C := RX5) (T := TX5) (N := 8) (v := .ref (a 19)) cx iwX5_book_X5 0 6 rfl rfl (by decide) lkX5_book_44 rfl dX5_book_15 ?_
      refine g_iload_n cx dX5_book_18 1 rfl ?_
      refine g_aald (v := a 26) cx 19 rfl rfl (vp_in_nI (by decide) (by decide)) rfl dX5_book_19 ?_
      refine g_astore_n (lv' := [(2, .ref (a 26)), (0, .ref (a 0)), (1, .int (nI 3))]) cx dX5_book_20 (by decide) rfl ?_
      refine g_aload_n cx dX5_book_21 0 rfl ?_
      refine g_Vi (rest := []) (As := []) (wr := ([0, 1, 2, 3, 4, 5, 6, 7, 8, 9, 10, 11, 12, 13, 14, 15, 16, 17, 18, 19, 20, 21, 22, 23, 24, 25, 28].filterMap (fun i => (xW E a c g)[i]?))) cx hYX1_isMissing gX5_book_X1_isMissing (c_X1_isMissing l E (fun i => a (26 + i)) (c.2.2.2.2.2.1 3, c.2.2.2.2.2.2.1 3, c.2.2.2.2.2.2.2.1 3)  ) rfl rfl rfl [26, 27] [0, 1, 2, 3, 4, 5, 6, 7, 8, 9, 10, 11, 12, 13, 14, 15, 16, 17, 18, 19, 20, 21, 22, 23, 24, 25, 28] rfl rfl rfl rfl (by decide) ⟨Nat.le_of_ble_eq_true rfl, Nat.le_of_ble_eq_true rfl⟩ rfl rfl (Nat.le_of_ble_eq_true rfl) ⟨Nat.le_of_ble_eq_true rfl, Nat.le_of_ble_eq_true rfl⟩ dX5_book_22 (fun r w1 hp => ?_)
      obtain ⟨rfl, rfl⟩ := hp
      refine g_ws (ws' := (xW E a c g)) [0, 1, 2, 3, 4, 5, 6, 7, 8, 9, 10, 11, 12, 13, 14, 15, 16, 17, 18, 19, 20, 21, 22, 23, 24, 25, 27, 28, 26] rfl rfl ?_
      refine g_if_eq (tgt := 35) cx dX5_book_25 (by decide) (fun c_8 => ?_) (fun c_8 => ?_)
      · obtain ⟨Zs0, hZs0, hzs0⟩ := sz_nI (j := 3) hok (by decide)
        refine g_aload_n cx dX5_book_35 1 rfl ?_
        refine g_get (C := RX5) (T := TX5) (N := 8) (v := .ref (a 6)) cx iwX5_book_X5 0 1 rfl rfl (by decide) lkX5_book_16 rfl dX5_book_36 ?_
        refine g_aload_n cx dX5_book_39 1 rfl ?_
        refine g_get (C := RX5) (T := TX5) (N := 8) (v := .ref (a 1)) cx iwX5_book_X5 0 0 rfl rfl (by decide) lkX5_book_10 rfl dX5_book_40 ?_
        refine g_XBtp cx gX5_book_X3_become ⟨Nat.le_of_ble_eq_true rfl, Nat.le_of_ble_eq_true rfl⟩ (Nat.le_of_ble_eq_true rfl) dX5_book_43 ?_ (Nat.zero_le _) (Nat.zero_le _)
        refine g_iconst (v := 0) cx dX5_book_46 (by decide) ?_
        refine g_istore_n (lv' := [(3, .int 0), (2, .ref (a 26)), (0, .ref (a 0)), (1, .int (nI 3))]) cx dX5_book_47 (by decide) rfl ?_
        have LP48 : ∀ (d : Nat) (i : Nat) (x : Int32) (u : Ter), i + d = Zs0 + 1 → i ≤ Zs0 → x = nI i → u = goHs i c.1 → gG X 0 0 (xW E a (c.1, c.2.1, c.2.2.1, c.2.2.2.1, c.2.2.2.2.1, c.2.2.2.2.2.1, c.2.2.2.2.2.2.1, upN c.2.2.2.2.2.2.2.1 3 (bkN (c.2.2.2.2.2.1 3) c.1 (c.2.2.2.2.2.2.2.1 3) i), c.2.2.2.2.2.2.2.2) (u, g.2.1, g.2.2.1, g.2.2.2.1, g.2.2.2.2)) 48 [(0, .ref (a 0)), (2, .ref (a 26)), (3, .int x)] [] := by
          intro d
          induction d with
          | zero =>
            intro i x u hi hiZ hx hu
            omega
          | succ d ih =>
            intro i x u hi hiZ hx hu
            refine g_iload_n cx dX5_book_48 2 rfl ?_
            refine g_aload_n cx dX5_book_49 1 rfl ?_
            refine g_get (C := RX1) (T := TX1) (N := 3) (v := .int (c.2.2.2.2.2.2.1 3)) cx iwX5_book_X1 26 1 rfl rfl (by decide) lkX5_book_205 rfl dX5_book_50 ?_
            refine g_icmp_ge (tgt := 82) cx dX5_book_53 (by decide) (fun c_9 => ?_) (fun c_9 => ?_)
            · refine g_aload_n cx dX5_book_82 1 rfl ?_
              refine g_get (C := RX1) (T := TX1) (N := 3) (v := .int (c.2.2.2.2.2.2.1 3)) cx iwX5_book_X1 26 1 rfl rfl (by decide) lkX5_book_205 rfl dX5_book_83 ?_
              exact g_iret cx gr (Nat.zero_le _) (Nat.zero_le _) dX5_book_86 (xleaf (by rw [sp_book, if_neg c_1, show (nI 3).toNatClampNeg = 3 from rfl, if_neg (ms_0 c_8)]; show (c.2.2.2.2.2.2.1 3, cNm c 3 (bkN _ _ _ (c.2.2.2.2.2.2.1 3).toNatClampNeg)) = _; rw [hzs0, nI_clamp (by omega), show Zs0 = i by have := ge_of Zs0 hx (by rw [← hzs0]; exact c_9) (by omega) (by omega); omega, cNm]))
            · refine g_aload_n cx dX5_book_56 1 rfl ?_
              refine g_iload_n cx dX5_book_57 2 rfl ?_
              refine g_aload_n cx dX5_book_58 0 rfl ?_
              refine g_get (C := RX5) (T := TX5) (N := 8) (v := .ref (a 6)) cx iwX5_book_X5 0 1 rfl rfl (by decide) lkX5_book_16 rfl dX5_book_59 ?_
              refine g_get (C := RX3) (T := TX3) (N := 11) (v := .int u.2.2.2.2.1) cx iwX5_book_X3 6 4 rfl rfl (by decide) lkX5_book_97 rfl dX5_book_62 ?_
              refine g_i2l cx dX5_book_65 ?_
              refine g_Vv (rest := []) (As := [.int x, .long u.2.2.2.2.1.toInt64]) (wr := ([0, 1, 2, 3, 4, 5, 6, 7, 8, 9, 10, 11, 12, 13, 14, 15, 16, 17, 18, 19, 20, 21, 22, 23, 24, 25, 28].filterMap (fun q9 => (xW E a (c.1, c.2.1, c.2.2.1, c.2.2.2.1, c.2.2.2.2.1, c.2.2.2.2.2.1, c.2.2.2.2.2.2.1, upN c.2.2.2.2.2.2.2.1 3 (bkN (c.2.2.2.2.2.1 3) c.1 (c.2.2.2.2.2.2.2.1 3) i), c.2.2.2.2.2.2.2.2) (u, g.2.1, g.2.2.1, g.2.2.2.1, g.2.2.2.2))[q9]?))) cx hYX1_put gX5_book_X1_put (c_X1_put l E (fun i => a (26 + i)) (c.2.2.2.2.2.1 3, c.2.2.2.2.2.2.1 3, (upN c.2.2.2.2.2.2.2.1 3 (bkN (c.2.2.2.2.2.1 3) c.1 (c.2.2.2.2.2.2.2.1 3) i)) 3) x u.2.2.2.2.1.toInt64 (vp_of_nI hx (by have := lt_of Zs0 hx (by rw [← hzs0]; exact c_9) (by omega) (by omega); omega) (by decide))) rfl rfl rfl [26, 27] [0, 1, 2, 3, 4, 5, 6, 7, 8, 9, 10, 11, 12, 13, 14, 15, 16, 17, 18, 19, 20, 21, 22, 23, 24, 25, 28] rfl rfl rfl rfl (by decide) ⟨Nat.le_of_ble_eq_true rfl, Nat.le_of_ble_eq_true rfl⟩ rfl rfl (Nat.le_of_ble_eq_true rfl) ⟨Nat.le_of_ble_eq_true rfl, Nat.le_of_ble_eq_true rfl⟩ dX5_book_66 (fun w1 hp => ?_)
              obtain rfl := hp
              refine g_ws (ws' := (xW E a (c.1, c.2.1, c.2.2.1, c.2.2.2.1, c.2.2.2.2.1, c.2.2.2.2.2.1, c.2.2.2.2.2.2.1, upN (upN c.2.2.2.2.2.2.2.1 3 (bkN (c.2.2.2.2.2.1 3) c.1 (c.2.2.2.2.2.2.2.1 3) i)) 3 (vp_updL ((upN c.2.2.2.2.2.2.2.1 3 (bkN (c.2.2.2.2.2.1 3) c.1 (c.2.2.2.2.2.2.2.1 3) i)) 3) x.toNatClampNeg (narL (c.2.2.2.2.2.1 3) u.2.2.2.2.1.toInt64)), c.2.2.2.2.2.2.2.2) (u, g.2.1, g.2.2.1, g.2.2.2.1, g.2.2.2.2))) [0, 1, 2, 3, 4, 5, 6, 7, 8, 9, 10, 11, 12, 13, 14, 15, 16, 17, 18, 19, 20, 21, 22, 23, 24, 25, 27, 28, 26] rfl rfl ?_
              refine g_aload_n cx dX5_book_69 0 rfl ?_
              refine g_get (C := RX5) (T := TX5) (N := 8) (v := .ref (a 6)) cx iwX5_book_X5 0 1 rfl rfl (by decide) lkX5_book_16 rfl dX5_book_70 ?_
              refine g_Xtv (rest := []) (As := []) cx hYX3_goHour gX5_book_X3_goHour (c_X3_goHour l E (fun i => a (6 + i)) u  (by rw [hu]; exact goHs_at i hok.1.1)) rfl ⟨Nat.le_of_ble_eq_true rfl, Nat.le_of_ble_eq_true rfl⟩ rfl rfl (Nat.le_of_ble_eq_true rfl) ⟨Nat.le_of_ble_eq_true rfl, Nat.le_of_ble_eq_true rfl⟩ dX5_book_73 ?_
              refine g_iinc (v := x + 1) (lv' := [(3, .int (x + 1)), (0, .ref (a 0)), (2, .ref (a 26))]) cx dX5_book_76 2 rfl rfl (by decide) rfl ?_
              refine g_goto (tgt := 48) cx dX5_book_79 (by decide) ?_
              exact g_lv [1, 2, 0] rfl (g_w (congrArg (fun F : Nat → Nat → Int64 => (xW E a (c.1, c.2.1, c.2.2.1, c.2.2.2.1, c.2.2.2.2.1, c.2.2.2.2.2.1, c.2.2.2.2.2.2.1, F, c.2.2.2.2.2.2.2.2) ((goHour u), g.2.1, g.2.2.1, g.2.2.2.1, g.2.2.2.2))) (bk_s hx (by omega) hu)) (ih (i + 1) (x + 1) (goHour u) (by omega) (by have := lt_of Zs0 hx (by rw [← hzs0]; exact c_9) (by omega) (by omega); omega) (by rw [hx]; exact nI_1 i) (by rw [hu, goHs_succ])))
        refine g_w (congrArg (fun F : Nat → Nat → Int64 => (xW E a (c.1, c.2.1, c.2.2.1, c.2.2.2.1, c.2.2.2.2.1, c.2.2.2.2.2.1, c.2.2.2.2.2.2.1, F, c.2.2.2.2.2.2.2.2) (c.1, g.2.1, g.2.2.1, g.2.2.2.1, g.2.2.2.2))) (upN_self c.2.2.2.2.2.2.2.1 3).symm) ?_
        exact g_lv [2, 1, 0] rfl (LP48 (Zs0 + 1) 0 0 c.1 (by omega) (by omega) rfl rfl)
      · refine g_aload_n cx dX5_book_28 1 rfl ?_
        refine g_ldc cx m1X5_book_c211 dX5_book_29 ?_
        refine g_VSi (rest := []) (As := [.int (-1000000006)]) cx hYX5_finding gX5_book_X5_finding (c_X5_finding l E a c g (-1000000006) (by unfold vp_in; decide +kernel)) rfl rfl rfl ⟨Nat.le_of_ble_eq_true rfl, Nat.le_of_ble_eq_true rfl⟩ rfl rfl (Nat.le_of_ble_eq_true rfl) ⟨Nat.le_of_ble_eq_true rfl, Nat.le_of_ble_eq_true rfl⟩ dX5_book_31 (fun r w1 hp => ?_)
        obtain ⟨rfl, rfl⟩ := hp
        exact g_iret cx gr (Nat.zero_le _) (Nat.zero_le _) dX5_book_34 (xleaf (by rw [sp_book, if_neg c_1, show (nI 3).toNatClampNeg = 3 from rfl, if_pos (ms_1 c_8)]; rfl))
  · refine g_aload_n cx dX5_book_7 0 rfl ?_
    refine g_ldc cx m1X5_book_c61 dX5_book_8 ?_
    refine g_VSi (rest := []) (As := [.int (-1000000001)]) cx hYX5_finding gX5_book_X5_finding (c_X5_finding l E a c g (-1000000001) (by unfold vp_in; decide +kernel)) rfl rfl rfl ⟨Nat.le_of_ble_eq_true rfl, Nat.le_of_ble_eq_true rfl⟩ rfl rfl (Nat.le_of_ble_eq_true rfl) ⟨Nat.le_of_ble_eq_true rfl, Nat.le_of_ble_eq_true rfl⟩ dX5_book_10 (fun r w1 hp => ?_)
    obtain ⟨rfl, rfl⟩ := hp
    exact g_iret cx gr (Nat.zero_le _) (Nat.zero_le _) dX5_book_13 (xleaf (by rw [sp_book, if_pos c_1]; rfl))
