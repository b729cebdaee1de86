theorem inl_0a {x : Int64} (h : x < 0) : inL x 0 20 = 0 := by rw [inL, if_pos h]
theorem inl_0b {x : Int64} (h1 : ¬ x < 0) (h : 20 < x) : inL x 0 20 = 0 := by rw [inL, if_neg h1, if_pos h]
theorem inl_1 {x : Int64} (h1 : ¬ x < 0) (h : ¬ 20 < x) : ¬ inL x 0 20 = 0 := by rw [inL, if_neg h1, if_neg h]; decide
theorem lay_z {m : Nat → Int64} {i : Nat} {s : (Nat → Int32) × Int32} {f : Nat → Int32} {y : Int32} (hs : (f, y) = layS m i s) (h : inL (m i) 0 20 = 0) : (f, y) = layS m (i + 1) s := by rw [layS, if_pos h, hs]
theorem lay_k {m : Nat → Int64} {i : Nat} {s : (Nat → Int32) × Int32} {f : Nat → Int32} {y : Int32} (hs : (f, y) = layS m i s) (h : ¬ inL (m i) 0 20 = 0) : (upd f i (m i).toInt32, y + 1) = layS m (i + 1) s := by rw [layS, if_neg h, ← hs]
theorem lay_e8 {Z i : Nat} (h1 : 8 ≤ i) (h2 : i ≤ 8) (h3 : i ≤ Z) : min8 Z = i := by
  unfold min8
  by_cases h : Z ≤ 8
  · rw [if_pos h]; omega
  · rw [if_neg h]; omega
theorem lay_eZ {Z i : Nat} (h1 : Z ≤ i) (h2 : i ≤ 8) (h3 : i ≤ Z) : min8 Z = i := by
  unfold min8
  by_cases h : Z ≤ 8
  · rw [if_pos h]; omega
  · rw [if_neg h]; omega

abbrev rmX5_lays : Room := { frames := 2, cells := 0, slots := 0, locals := 44 }
theorem hYX5_lays : gY yX5_lays wsX5_lays cX5_lays 7 (some .int) 1 := ⟨⟨_, rfl⟩, by decide +kernel, by decide +kernel, by decide +kernel⟩
theorem iwX5_lays_X5 : ∀ w ∈ u_ws RX5 TX5 8, w ∈ wsX5_lays := by decide +kernel
theorem lkX5_lays_44 : Cond.fieldLink RX5 44 "MuffinBells" "sheets" "[LMuffinBells$Sheet;" ∈ wsX5_lays := by decide +kernel
theorem iwX5_lays_X1 : ∀ w ∈ u_ws RX1 TX1 3, w ∈ wsX5_lays := by decide +kernel
theorem lkX5_lays_205 : Cond.fieldLink RX5 205 "MuffinBells$Sheet" "size" "I" ∈ wsX5_lays := by decide +kernel
theorem lkX5_lays_212 : Cond.fieldLink RX5 212 "MuffinBells$Sheet" "numbers" "[J" ∈ wsX5_lays := by decide +kernel
theorem m1X5_lays_c232 : Cond.constantLong RX5 232 (20) ∈ wsX5_lays := by decide +kernel
theorem lkX5_lays_10 : Cond.fieldLink RX5 10 "MuffinBells" "present" "LMuffinBells$Terrace;" ∈ wsX5_lays := by decide +kernel
theorem iwX5_lays_X3 : ∀ w ∈ u_ws RX3 TX3 11, w ∈ wsX5_lays := by decide +kernel
theorem lkX5_lays_113 : Cond.fieldLink RX5 113 "MuffinBells$Terrace" "moods" "[I" ∈ wsX5_lays := by decide +kernel
theorem m1X5_lays_c211 : Cond.constant RX5 211 (-1000000006) ∈ wsX5_lays := by decide +kernel
theorem m1X5_lays_c61 : Cond.constant RX5 61 (-1000000001) ∈ wsX5_lays := by decide +kernel
set_option maxRecDepth 100000 in
set_option maxHeartbeats 4000000 in
theorem c_X5_lays (l : Launch) (E : gE) (a : Nat → Nat) (c : Cor) (g : Gar) (s0 : Int32) (hok : cOk c) : cti l yX5_lays wsX5_lays rmX5_lays E [.ref (a 0), .int s0] (xW E a c g) (fun r w => ∃ g', r = (sp_lays c s0).1 ∧ w = xW E a (sp_lays c s0).2 g') := by
  refine mt_i (cc := cX5_lays) (maxL := 7) (ret := some .int) (lv0 := [(0, .ref (a 0)), (1, .int s0)]) (by decide) rfl rfl (Nat.le_of_ble_eq_true rfl) (fun X cx gr hI => ?_)
  refine g_iload_n cx dX5_lays_0 1 rfl ?_
  refine g_SPi (rest := []) (As := [.int s0]) cx hYX5_isSheet gX5_lays_X5_isSheet (c_X5_isSheet l E s0 ) ⟨Nat.le_of_ble_eq_true rfl, Nat.le_of_ble_eq_true rfl⟩ rfl rfl (Nat.le_of_ble_eq_true rfl) ⟨Nat.le_of_ble_eq_true rfl, Nat.le_of_ble_eq_true rfl⟩ dX5_lays_1 ?_
  refine g_if_ne (tgt := 14) cx dX5_lays_4 (by decide) (fun c_1 => ?_) (fun c_1 => ?_)
  · obtain ⟨js0, hjs0, rfl⟩ := isW_nI 3 c_1 (by decide)
    rcases (show js0 = 0 ∨ js0 = 1 ∨ js0 = 2 ∨ js0 = 3 by omega) with rfl | rfl | rfl | rfl
    · refine g_aload_n cx dX5_lays_14 0 rfl ?_
      refine g_get (C := RX5) (T := TX5) (N := 8) (v := .ref (a 19)) cx iwX5_lays_X5 0 6 rfl rfl (by decide) lkX5_lays_44 rfl dX5_lays_15 ?_
      refine g_iload_n cx dX5_lays_18 1 rfl ?_
      refine g_aald (v := a 20) cx 19 rfl rfl (vp_in_nI (by decide) (by decide)) rfl dX5_lays_19 ?_
      refine g_astore_n (lv' := [(2, .ref (a 20)), (0, .ref (a 0)), (1, .int (nI 0))]) cx dX5_lays_20 (by decide) rfl ?_
      refine g_aload_n cx dX5_lays_21 0 rfl ?_
      refine g_Vi (rest := []) (As := []) (wr := ([0, 1, 2, 3, 4, 5, 6, 7, 8, 9, 10, 11, 12, 13, 14, 15, 16, 17, 18, 19, 22, 23, 24, 25, 26, 27, 28].filterMap (fun i => (xW E a c g)[i]?))) cx hYX1_isMissing gX5_lays_X1_isMissing (c_X1_isMissing l E (fun i => a (20 + i)) (c.2.2.2.2.2.1 0, c.2.2.2.2.2.2.1 0, c.2.2.2.2.2.2.2.1 0)  ) rfl rfl rfl [20, 21] [0, 1, 2, 3, 4, 5, 6, 7, 8, 9, 10, 11, 12, 13, 14, 15, 16, 17, 18, 19, 22, 23, 24, 25, 26, 27, 28] rfl rfl rfl rfl (by decide) ⟨Nat.le_of_ble_eq_true rfl, Nat.le_of_ble_eq_true rfl⟩ rfl rfl (Nat.le_of_ble_eq_true rfl) ⟨Nat.le_of_ble_eq_true rfl, Nat.le_of_ble_eq_true rfl⟩ dX5_lays_22 (fun r w1 hp => ?_)
      obtain ⟨rfl, rfl⟩ := hp
      refine g_ws (ws' := (xW E a c g)) [0, 1, 2, 3, 4, 5, 6, 7, 8, 9, 10, 11, 12, 13, 14, 15, 16, 17, 18, 19, 27, 28, 20, 21, 22, 23, 24, 25, 26] rfl rfl ?_
      refine g_if_eq (tgt := 35) cx dX5_lays_25 (by decide) (fun c_2 => ?_) (fun c_2 => ?_)
      · obtain ⟨Zs0, hZs0, hzs0⟩ := sz_nI (j := 0) hok (by decide)
        refine g_iconst (v := 0) cx dX5_lays_35 (by decide) ?_
        refine g_istore_n (lv' := [(3, .int 0), (2, .ref (a 20)), (0, .ref (a 0)), (1, .int (nI 0))]) cx dX5_lays_36 (by decide) rfl ?_
        refine g_iconst (v := 0) cx dX5_lays_37 (by decide) ?_
        refine g_istore (lv' := [(4, .int 0), (3, .int 0), (2, .ref (a 20)), (0, .ref (a 0)), (1, .int (nI 0))]) cx dX5_lays_38 (by decide) rfl ?_
        have LP40 : ∀ (d : Nat) (i : Nat) (x : Int32) (f : Nat → Int32) (y : Int32), i + d = 9 → i ≤ 8 → i ≤ Zs0 → x = nI i → (f, y) = layS (c.2.2.2.2.2.2.2.1 0) i (c.1.2.2.2.2.2.2.2.2.1, 0) → gG X 0 0 (xW E a ((c.1.1, c.1.2.1, c.1.2.2.1, c.1.2.2.2.1, c.1.2.2.2.2.1, c.1.2.2.2.2.2.1, c.1.2.2.2.2.2.2.1, c.1.2.2.2.2.2.2.2.1, f, c.1.2.2.2.2.2.2.2.2.2.1, c.1.2.2.2.2.2.2.2.2.2.2), c.2.1, c.2.2.1, c.2.2.2.1, c.2.2.2.2.1, c.2.2.2.2.2.1, c.2.2.2.2.2.2.1, c.2.2.2.2.2.2.2.1, c.2.2.2.2.2.2.2.2) g) 40 [(0, .ref (a 0)), (2, .ref (a 20)), (3, .int y), (4, .int x)] [] := by
          intro d
          induction d with
          | zero =>
            intro i x f y hi hi8 hiZ hx hs
            omega
          | succ d ih =>
            intro i x f y hi hi8 hiZ hx hs
            refine g_iload cx dX5_lays_40 3 rfl ?_
            refine g_bipush (v := 8) cx dX5_lays_42 (by decide) ?_
            refine g_icmp_ge (tgt := 103) cx dX5_lays_44 (by decide) (fun c_3 => ?_) (fun c_3 => ?_)
            · refine g_iload_n cx dX5_lays_103 2 rfl ?_
              exact g_iret cx gr (Nat.zero_le _) (Nat.zero_le _) dX5_lays_104 (xleaf (by rw [sp_lays, if_neg c_1, show (nI 0).toNatClampNeg = 0 from rfl, if_neg (ms_0 c_2)]; show ((layS (c.2.2.2.2.2.2.2.1 0) (min8 (c.2.2.2.2.2.2.1 0).toNatClampNeg) _).2, cMo c (layS (c.2.2.2.2.2.2.2.1 0) (min8 (c.2.2.2.2.2.2.1 0).toNatClampNeg) _).1) = _; rw [hzs0, nI_clamp (by omega), lay_e8 (ge_of 8 hx c_3 (by omega) (by decide)) hi8 hiZ, ← hs]; rfl))
            · refine g_iload cx dX5_lays_47 3 rfl ?_
              refine g_aload_n cx dX5_lays_49 1 rfl ?_
              refine g_get (C := RX1) (T := TX1) (N := 3) (v := .int (c.2.2.2.2.2.2.1 0)) cx iwX5_lays_X1 20 1 rfl rfl (by decide) lkX5_lays_205 rfl dX5_lays_50 ?_
              refine g_icmp_ge (tgt := 103) cx dX5_lays_53 (by decide) (fun c_4 => ?_) (fun c_4 => ?_)
              · refine g_iload_n cx dX5_lays_103 2 rfl ?_
                exact g_iret cx gr (Nat.zero_le _) (Nat.zero_le _) dX5_lays_104 (xleaf (by rw [sp_lays, if_neg c_1, show (nI 0).toNatClampNeg = 0 from rfl, if_neg (ms_0 c_2)]; show ((layS (c.2.2.2.2.2.2.2.1 0) (min8 (c.2.2.2.2.2.2.1 0).toNatClampNeg) _).2, cMo c (layS (c.2.2.2.2.2.2.2.1 0) (min8 (c.2.2.2.2.2.2.1 0).toNatClampNeg) _).1) = _; rw [hzs0, nI_clamp (by omega), lay_eZ (ge_of Zs0 hx (by rw [← hzs0]; exact c_4) (by omega) (by omega)) hi8 hiZ, ← hs]; rfl))
              · refine g_aload_n cx dX5_lays_56 1 rfl ?_
                refine g_get (C := RX1) (T := TX1) (N := 3) (v := .ref (a 21)) cx iwX5_lays_X1 20 2 rfl rfl (by decide) lkX5_lays_212 rfl dX5_lays_57 ?_
                refine g_iload cx dX5_lays_60 3 rfl ?_
                refine g_lald cx 21 rfl rfl (vp_of_nI hx (by have := lt_of Zs0 hx (by rw [← hzs0]; exact c_4) (by omega) (by omega); omega) (by decide)) dX5_lays_62 ?_
                refine g_lstore (lv' := [(5, .long ((c.2.2.2.2.2.2.2.1 0) (x.toNatClampNeg))), (0, .ref (a 0)), (2, .ref (a 20)), (3, .int y), (4, .int x)]) cx dX5_lays_63 (by decide) rfl ?_
                refine g_lload cx dX5_lays_65 0 rfl ?_
                refine g_lconst (v := 0) cx dX5_lays_67 (by decide) ?_
                refine g_lc_lt (tgt := 97) cx dX5_lays_68 dX5_lays_69 (by decide) (fun c_5 => ?_) (fun c_5 => ?_)
                · refine g_iinc (v := x + 1) (lv' := [(4, .int (x + 1)), (5, .long ((c.2.2.2.2.2.2.2.1 0) (x.toNatClampNeg))), (0, .ref (a 0)), (2, .ref (a 20)), (3, .int y)]) cx dX5_lays_97 4 rfl rfl (by decide) rfl ?_
                  refine g_goto (tgt := 40) cx dX5_lays_100 (by decide) ?_
                  exact g_lv [2, 3, 4, 0] rfl (ih (i + 1) (x + 1) f y (by omega) (by have := (lt_of 8 hx c_3 (by omega) (by decide)); omega) (by have := (lt_of Zs0 hx (by rw [← hzs0]; exact c_4) (by omega) (by omega)); omega) (by rw [hx]; exact nI_1 i) (lay_z hs (inl_0a (by have q := c_5; rw [hx, nI_clamp (by omega)] at q; exact q))))
                · refine g_lload cx dX5_lays_72 0 rfl ?_
                  refine g_ldc2 cx m1X5_lays_c232 dX5_lays_74 ?_
                  refine g_lc_gt (tgt := 97) cx dX5_lays_77 dX5_lays_78 (by decide) (fun c_6 => ?_) (fun c_6 => ?_)
                  · refine g_iinc (v := x + 1) (lv' := [(4, .int (x + 1)), (5, .long ((c.2.2.2.2.2.2.2.1 0) (x.toNatClampNeg))), (0, .ref (a 0)), (2, .ref (a 20)), (3, .int y)]) cx dX5_lays_97 4 rfl rfl (by decide) rfl ?_
                    refine g_goto (tgt := 40) cx dX5_lays_100 (by decide) ?_
                    exact g_lv [2, 3, 4, 0] rfl (ih (i + 1) (x + 1) f y (by omega) (by have := (lt_of 8 hx c_3 (by omega) (by decide)); omega) (by have := (lt_of Zs0 hx (by rw [← hzs0]; exact c_4) (by omega) (by omega)); omega) (by rw [hx]; exact nI_1 i) (lay_z hs (inl_0b (by have q := c_5; rw [hx, nI_clamp (by omega)] at q; exact q) (by have q := c_6; rw [hx, nI_clamp (by omega)] at q; exact q))))
                  · refine g_aload_n cx dX5_lays_81 1 rfl ?_
                    refine g_get (C := RX5) (T := TX5) (N := 8) (v := .ref (a 1)) cx iwX5_lays_X5 0 0 rfl rfl (by decide) lkX5_lays_10 rfl dX5_lays_82 ?_
                    refine g_get (C := RX3) (T := TX3) (N := 11) (v := .ref (a 3)) cx iwX5_lays_X3 1 8 rfl rfl (by decide) lkX5_lays_113 rfl dX5_lays_85 ?_
                    refine g_iload cx dX5_lays_88 4 rfl ?_
                    refine g_lload cx dX5_lays_90 0 rfl ?_
                    refine g_l2i cx dX5_lays_92 ?_
                    refine g_iast (ws' := (xW E a ((c.1.1, c.1.2.1, c.1.2.2.1, c.1.2.2.2.1, c.1.2.2.2.2.1, c.1.2.2.2.2.2.1, c.1.2.2.2.2.2.2.1, c.1.2.2.2.2.2.2.2.1, upd f x.toNatClampNeg (((c.2.2.2.2.2.2.2.1 0) (x.toNatClampNeg)).toInt32), c.1.2.2.2.2.2.2.2.2.2.1, c.1.2.2.2.2.2.2.2.2.2.2), c.2.1, c.2.2.1, c.2.2.2.1, c.2.2.2.2.1, c.2.2.2.2.2.1, c.2.2.2.2.2.2.1, c.2.2.2.2.2.2.2.1, c.2.2.2.2.2.2.2.2) g)) cx 3 rfl rfl (vp_of_nI hx (lt_of 8 hx c_3 (by omega) (by decide)) (by decide)) dX5_lays_93 rfl ?_
                    refine g_iinc (v := y + 1) (lv' := [(3, .int (y + 1)), (5, .long ((c.2.2.2.2.2.2.2.1 0) (x.toNatClampNeg))), (0, .ref (a 0)), (2, .ref (a 20)), (4, .int x)]) cx dX5_lays_94 3 rfl rfl (by decide) rfl ?_
                    refine g_iinc (v := x + 1) (lv' := [(4, .int (x + 1)), (3, .int (y + 1)), (5, .long ((c.2.2.2.2.2.2.2.1 0) (x.toNatClampNeg))), (0, .ref (a 0)), (2, .ref (a 20))]) cx dX5_lays_97 4 rfl rfl (by decide) rfl ?_
                    refine g_goto (tgt := 40) cx dX5_lays_100 (by decide) ?_
                    exact g_lv [3, 4, 1, 0] rfl (ih (i + 1) (x + 1) (upd f x.toNatClampNeg (((c.2.2.2.2.2.2.2.1 0) (x.toNatClampNeg)).toInt32)) (y + 1) (by omega) (by have := (lt_of 8 hx c_3 (by omega) (by decide)); omega) (by have := (lt_of Zs0 hx (by rw [← hzs0]; exact c_4) (by omega) (by omega)); omega) (by rw [hx]; exact nI_1 i) (by have q := lay_k hs (inl_1 (by have q := c_5; rw [hx, nI_clamp (by omega)] at q; exact q) (by have q := c_6; rw [hx, nI_clamp (by omega)] at q; exact q)); rw [hx, nI_clamp (by omega)]; exact q))
        exact g_lv [3, 2, 1, 0] rfl (LP40 9 0 0 _ 0 (by omega) (by omega) (by omega) rfl rfl)
      · refine g_aload_n cx dX5_lays_28 1 rfl ?_
        refine g_ldc cx m1X5_lays_c211 dX5_lays_29 ?_
        refine g_VSi (rest := []) (As := [.int (-1000000006)]) cx hYX5_finding gX5_lays_X5_finding (c_X5_finding l E a c g (-1000000006) (by unfold vp_in; decide +kernel)) rfl rfl rfl ⟨Nat.le_of_ble_eq_true rfl, Nat.le_of_ble_eq_true rfl⟩ rfl rfl (Nat.le_of_ble_eq_true rfl) ⟨Nat.le_of_ble_eq_true rfl, Nat.le_of_ble_eq_true rfl⟩ dX5_lays_31 (fun r w1 hp => ?_)
        obtain ⟨rfl, rfl⟩ := hp
        exact g_iret cx gr (Nat.zero_le _) (Nat.zero_le _) dX5_lays_34 (xleaf (by rw [sp_lays, if_neg c_1, show (nI 0).toNatClampNeg = 0 from rfl, if_pos (ms_1 c_2)]; rfl))
    · refine g_aload_n cx dX5_lays_14 0 rfl ?_
      refine g_get (C := RX5) (T := TX5) (N := 8) (v := .ref (a 19)) cx iwX5_lays_X5 0 6 rfl rfl (by decide) lkX5_lays_44 rfl dX5_lays_15 ?_
      refine g_iload_n cx dX5_lays_18 1 rfl ?_
      refine g_aald (v := a 22) cx 19 rfl rfl (vp_in_nI (by decide) (by decide)) rfl dX5_lays_19 ?_
      refine g_astore_n (lv' := [(2, .ref (a 22)), (0, .ref (a 0)), (1, .int (nI 1))]) cx dX5_lays_20 (by decide) rfl ?_
      refine g_aload_n cx dX5_lays_21 0 rfl ?_
      refine g_Vi (rest := []) (As := []) (wr := ([0, 1, 2, 3, 4, 5, 6, 7, 8, 9, 10, 11, 12, 13, 14, 15, 16, 17, 18, 19, 20, 21, 24, 25, 26, 27, 28].filterMap (fun i => (xW E a c g)[i]?))) cx hYX1_isMissing gX5_lays_X1_isMissing (c_X1_isMissing l E (fun i => a (22 + i)) (c.2.2.2.2.2.1 1, c.2.2.2.2.2.2.1 1, c.2.2.2.2.2.2.2.1 1)  ) rfl rfl rfl [22, 23] [0, 1, 2, 3, 4, 5, 6, 7, 8, 9, 10, 11, 12, 13, 14, 15, 16, 17, 18, 19, 20, 21, 24, 25, 26, 27, 28] rfl rfl rfl rfl (by decide) ⟨Nat.le_of_ble_eq_true rfl, Nat.le_of_ble_eq_true rfl⟩ rfl rfl (Nat.le_of_ble_eq_true rfl) ⟨Nat.le_of_ble_eq_true rfl, Nat.le_of_ble_eq_true rfl⟩ dX5_lays_22 (fun r w1 hp => ?_)
      obtain ⟨rfl, rfl⟩ := hp
      refine g_ws (ws' := (xW E a c g)) [0, 1, 2, 3, 4, 5, 6, 7, 8, 9, 10, 11, 12, 13, 14, 15, 16, 17, 18, 19, 20, 21, 27, 28, 22, 23, 24, 25, 26] rfl rfl ?_
      refine g_if_eq (tgt := 35) cx dX5_lays_25 (by decide) (fun c_7 => ?_) (fun c_7 => ?_)
      · obtain ⟨Zs0, hZs0, hzs0⟩ := sz_nI (j := 1) hok (by decide)
        refine g_iconst (v := 0) cx dX5_lays_35 (by decide) ?_
        refine g_istore_n (lv' := [(3, .int 0), (2, .ref (a 22)), (0, .ref (a 0)), (1, .int (nI 1))]) cx dX5_lays_36 (by decide) rfl ?_
        refine g_iconst (v := 0) cx dX5_lays_37 (by decide) ?_
        refine g_istore (lv' := [(4, .int 0), (3, .int 0), (2, .ref (a 22)), (0, .ref (a 0)), (1, .int (nI 1))]) cx dX5_lays_38 (by decide) rfl ?_
        have LP40 : ∀ (d : Nat) (i : Nat) (x : Int32) (f : Nat → Int32) (y : Int32), i + d = 9 → i ≤ 8 → i ≤ Zs0 → x = nI i → (f, y) = layS (c.2.2.2.2.2.2.2.1 1) i (c.1.2.2.2.2.2.2.2.2.1, 0) → gG X 0 0 (xW E a ((c.1.1, c.1.2.1, c.1.2.2.1, c.1.2.2.2.1, c.1.2.2.2.2.1, c.1.2.2.2.2.2.1, c.1.2.2.2.2.2.2.1, c.1.2.2.2.2.2.2.2.1, f, c.1.2.2.2.2.2.2.2.2.2.1, c.1.2.2.2.2.2.2.2.2.2.2), c.2.1, c.2.2.1, c.2.2.2.1, c.2.2.2.2.1, c.2.2.2.2.2.1, c.2.2.2.2.2.2.1, c.2.2.2.2.2.2.2.1, c.2.2.2.2.2.2.2.2) g) 40 [(0, .ref (a 0)), (2, .ref (a 22)), (3, .int y), (4, .int x)] [] := by
          intro d
          induction d with
          | zero =>
            intro i x f y hi hi8 hiZ hx hs
            omega
          | succ d ih =>
            intro i x f y hi hi8 hiZ hx hs
            refine g_iload cx dX5_lays_40 3 rfl ?_
            refine g_bipush (v := 8) cx dX5_lays_42 (by decide) ?_
            refine g_icmp_ge (tgt := 103) cx dX5_lays_44 (by decide) (fun c_8 => ?_) (fun c_8 => ?_)
            · refine g_iload_n cx dX5_lays_103 2 rfl ?_
              exact g_iret cx gr (Nat.zero_le _) (Nat.zero_le _) dX5_lays_104 (xleaf (by rw [sp_lays, if_neg c_1, show (nI 1).toNatClampNeg = 1 from rfl, if_neg (ms_0 c_7)]; show ((layS (c.2.2.2.2.2.2.2.1 1) (min8 (c.2.2.2.2.2.2.1 1).toNatClampNeg) _).2, cMo c (layS (c.2.2.2.2.2.2.2.1 1) (min8 (c.2.2.2.2.2.2.1 1).toNatClampNeg) _).1) = _; rw [hzs0, nI_clamp (by omega), lay_e8 (ge_of 8 hx c_8 (by omega) (by decide)) hi8 hiZ, ← hs]; rfl))
            · refine g_iload cx dX5_lays_47 3 rfl ?_
              refine g_aload_n cx dX5_lays_49 1 rfl ?_
              refine g_get (C := RX1) (T := TX1) (N := 3) (v := .int (c.2.2.2.2.2.2.1 1)) cx iwX5_lays_X1 22 1 rfl rfl (by decide) lkX5_lays_205 rfl dX5_lays_50 ?_
              refine g_icmp_ge (tgt := 103) cx dX5_lays_53 (by decide) (fun c_9 => ?_) (fun c_9 => ?_)
              · refine g_iload_n cx dX5_lays_103 2 rfl ?_
                exact g_iret cx gr (Nat.zero_le _) (Nat.zero_le _) dX5_lays_104 (xleaf (by rw [sp_lays, if_neg c_1, show (nI 1).toNatClampNeg = 1 from rfl, if_neg (ms_0 c_7)]; show ((layS (c.2.2.2.2.2.2.2.1 1) (min8 (c.2.2.2.2.2.2.1 1).toNatClampNeg) _).2, cMo c (layS (c.2.2.2.2.2.2.2.1 1) (min8 (c.2.2.2.2.2.2.1 1).toNatClampNeg) _).1) = _; rw [hzs0, nI_clamp (by omega), lay_eZ (ge_of Zs0 hx (by rw [← hzs0]; exact c_9) (by omega) (by omega)) hi8 hiZ, ← hs]; rfl))
              · refine g_aload_n cx dX5_lays_56 1 rfl ?_
                refine g_get (C := RX1) (T := TX1) (N := 3) (v := .ref (a 23)) cx iwX5_lays_X1 22 2 rfl rfl (by decide) lkX5_lays_212 rfl dX5_lays_57 ?_
                refine g_iload cx dX5_lays_60 3 rfl ?_
                refine g_lald cx 23 rfl rfl (vp_of_nI hx (by have := lt_of Zs0 hx (by rw [← hzs0]; exact c_9) (by omega) (by omega); omega) (by decide)) dX5_lays_62 ?_
                refine g_lstore (lv' := [(5, .long ((c.2.2.2.2.2.2.2.1 1) (x.toNatClampNeg))), (0, .ref (a 0)), (2, .ref (a 22)), (3, .int y), (4, .int x)]) cx dX5_lays_63 (by decide) rfl ?_
                refine g_lload cx dX5_lays_65 0 rfl ?_
                refine g_lconst (v := 0) cx dX5_lays_67 (by decide) ?_
                refine g_lc_lt (tgt := 97) cx dX5_lays_68 dX5_lays_69 (by decide) (fun c_10 => ?_) (fun c_10 => ?_)
                · refine g_iinc (v := x + 1) (lv' := [(4, .int (x + 1)), (5, .long ((c.2.2.2.2.2.2.2.1 1) (x.toNatClampNeg))), (0, .ref (a 0)), (2, .ref (a 22)), (3, .int y)]) cx dX5_lays_97 4 rfl rfl (by decide) rfl ?_
                  refine g_goto (tgt := 40) cx dX5_lays_100 (by decide) ?_
                  exact g_lv [2, 3, 4, 0] rfl (ih (i + 1) (x + 1) f y (by omega) (by have := (lt_of 8 hx c_8 (by omega) (by decide)); omega) (by have := (lt_of Zs0 hx (by rw [← hzs0]; exact c_9) (by omega) (by omega)); omega) (by rw [hx]; exact nI_1 i) (lay_z hs (inl_0a (by have q := c_10; rw [hx, nI_clamp (by omega)] at q; exact q))))
                · refine g_lload cx dX5_lays_72 0 rfl ?_
                  refine g_ldc2 cx m1X5_lays_c232 dX5_lays_74 ?_
                  refine g_lc_gt (tgt := 97) cx dX5_lays_77 dX5_lays_78 (by decide) (fun c_11 => ?_) (fun c_11 => ?_)
                  · refine g_iinc (v := x + 1) (lv' := [(4, .int (x + 1)), (5, .long ((c.2.2.2.2.2.2.2.1 1) (x.toNatClampNeg))), (0, .ref (a 0)), (2, .ref (a 22)), (3, .int y)]) cx dX5_lays_97 4 rfl rfl (by decide) rfl ?_
                    refine g_goto (tgt := 40) cx dX5_lays_100 (by decide) ?_
                    exact g_lv [2, 3, 4, 0] rfl (ih (i + 1) (x + 1) f y (by omega) (by have := (lt_of 8 hx c_8 (by omega) (by decide)); omega) (by have := (lt_of Zs0 hx (by rw [← hzs0]; exact c_9) (by omega) (by omega)); omega) (by rw [hx]; exact nI_1 i) (lay_z hs (inl_0b (by have q := c_10; rw [hx, nI_clamp (by omega)] at q; exact q) (by have q := c_11; rw [hx, nI_clamp (by omega)] at q; exact q))))
                  · refine g_aload_n cx dX5_lays_81 1 rfl ?_
                    refine g_get (C := RX5) (T := TX5) (N := 8) (v := .ref (a 1)) cx iwX5_lays_X5 0 0 rfl rfl (by decide) lkX5_lays_10 rfl dX5_lays_82 ?_
                    refine g_get (C := RX3) (T := TX3) (N := 11) (v := .ref (a 3)) cx iwX5_lays_X3 1 8 rfl rfl (by decide) lkX5_lays_113 rfl dX5_lays_85 ?_
                    refine g_iload cx dX5_lays_88 4 rfl ?_
                    refine g_lload cx dX5_lays_90 0 rfl ?_
                    refine g_l2i cx dX5_lays_92 ?_
                    refine g_iast (ws' := (xW E a ((c.1.1, c.1.2.1, c.1.2.2.1, c.1.2.2.2.1, c.1.2.2.2.2.1, c.1.2.2.2.2.2.1, c.1.2.2.2.2.2.2.1, c.1.2.2.2.2.2.2.2.1, upd f x.toNatClampNeg (((c.2.2.2.2.2.2.2.1 1) (x.toNatClampNeg)).toInt32), c.1.2.2.2.2.2.2.2.2.2.1, c.1.2.2.2.2.2.2.2.2.2.2), c.2.1, c.2.2.1, c.2.2.2.1, c.2.2.2.2.1, c.2.2.2.2.2.1, c.2.2.2.2.2.2.1, c.2.2.2.2.2.2.2.1, c.2.2.2.2.2.2.2.2) g)) cx 3 rfl rfl (vp_of_nI hx (lt_of 8 hx c_8 (by omega) (by decide)) (by decide)) dX5_lays_93 rfl ?_
                    refine g_iinc (v := y + 1) (lv' := [(3, .int (y + 1)), (5, .long ((c.2.2.2.2.2.2.2.1 1) (x.toNatClampNeg))), (0, .ref (a 0)), (2, .ref (a 22)), (4, .int x)]) cx dX5_lays_94 3 rfl rfl (by decide) rfl ?_
                    refine g_iinc (v := x + 1) (lv' := [(4, .int (x + 1)), (3, .int (y + 1)), (5, .long ((c.2.2.2.2.2.2.2.1 1) (x.toNatClampNeg))), (0, .ref (a 0)), (2, .ref (a 22))]) cx dX5_lays_97 4 rfl rfl (by decide) rfl ?_
                    refine g_goto (tgt := 40) cx dX5_lays_100 (by decide) ?_
                    exact g_lv [3, 4, 1, 0] rfl (ih (i + 1) (x + 1) (upd f x.toNatClampNeg (((c.2.2.2.2.2.2.2.1 1) (x.toNatClampNeg)).toInt32)) (y + 1) (by omega) (by have := (lt_of 8 hx c_8 (by omega) (by decide)); omega) (by have := (lt_of Zs0 hx (by rw [← hzs0]; exact c_9) (by omega) (by omega)); omega) (by rw [hx]; exact nI_1 i) (by have q := lay_k hs (inl_1 (by have q := c_10; rw [hx, nI_clamp (by omega)] at q; exact q) (by have q := c_11; rw [hx, nI_clamp (by omega)] at q; exact q)); rw [hx, nI_clamp (by omega)]; exact q))
        exact g_lv [3, 2, 1, 0] rfl (LP40 9 0 0 _ 0 (by omega) (by omega) (by omega) rfl rfl)
      · refine g_aload_n cx dX5_lays_28 1 rfl ?_
        refine g_ldc cx m1X5_lays_c211 dX5_lays_29 ?_
        refine g_VSi (rest := []) (As := [.int (-1000000006)]) cx hYX5_finding gX5_lays_X5_finding (c_X5_finding l E a c g (-1000000006) (by unfold vp_in; decide +kernel)) rfl rfl rfl ⟨Nat.le_of_ble_eq_true rfl, Nat.le_of_ble_eq_true rfl⟩ rfl rfl (Nat.le_of_ble_eq_true rfl) ⟨Nat.le_of_ble_eq_true rfl, Nat.le_of_ble_eq_true rfl⟩ dX5_lays_31 (fun r w1 hp => ?_)
        obtain ⟨rfl, rfl⟩ := hp
        exact g_iret cx gr (Nat.zero_le _) (Nat.zero_le _) dX5_lays_34 (xleaf (by rw [sp_lays, if_neg c_1, show (nI 1).toNatClampNeg = 1 from rfl, if_pos (ms_1 c_7)]; rfl))
    · refine g_aload_n cx dX5_lays_14 0 rfl ?_
      refine g_get (C := RX5) (T := TX5) (N := 8) (v := .ref (a 19)) cx iwX5_lays_X5 0 6 rfl rfl (by decide) lkX5_lays_44 rfl dX5_lays_15 ?_
      refine g_iload_n cx dX5_lays_18 1 rfl ?_
      refine g_aald (v := a 24) cx 19 rfl rfl (vp_in_nI (by decide) (by decide)) rfl dX5_lays_19 ?_
      refine g_astore_n (lv' := [(2, .ref (a 24)), (0, .ref (a 0)), (1, .int (nI 2))]) cx dX5_lays_20 (by decide) rfl ?_
      refine g_aload_n cx dX5_lays_21 0 rfl ?_
      refine g_Vi (rest := []) (As := []) (wr := ([0, 1, 2, 3, 4, 5, 6, 7, 8, 9, 10, 11, 12, 13, 14, 15, 16, 17, 18, 19, 20, 21, 22, 23, 26, 27, 28].filterMap (fun i => (xW E a c g)[i]?))) cx hYX1_isMissing gX5_lays_X1_isMissing (c_X1_isMissing l E (fun i => a (24 + i)) (c.2.2.2.2.2.1 2, c.2.2.2.2.2.2.1 2, c.2.2.2.2.2.2.2.1 2)  ) rfl rfl rfl [24, 25] [0, 1, 2, 3, 4, 5, 6, 7, 8, 9, 10, 11, 12, 13, 14, 15, 16, 17, 18, 19, 20, 21, 22, 23, 26, 27, 28] rfl rfl rfl rfl (by decide) ⟨Nat.le_of_ble_eq_true rfl, Nat.le_of_ble_eq_true rfl⟩ rfl rfl (Nat.le_of_ble_eq_true rfl) ⟨Nat.le_of_ble_eq_true rfl, Nat.le_of_ble_eq_true rfl⟩ dX5_lays_22 (fun r w1 hp => ?_)
      obtain ⟨rfl, rfl⟩ := hp
      refine g_ws (ws' := (xW E a c g)) [0, 1, 2, 3, 4, 5, 6, 7, 8, 9, 10, 11, 12, 13, 14, 15, 16, 17, 18, 19, 20, 21, 22, 23, 27, 28, 24, 25, 26] rfl rfl ?_
      refine g_if_eq (tgt := 35) cx dX5_lays_25 (by decide) (fun c_12 => ?_) (fun c_12 => ?_)
      · obtain ⟨Zs0, hZs0, hzs0⟩ := sz_nI (j := 2) hok (by decide)
        refine g_iconst (v := 0) cx dX5_lays_35 (by decide) ?_
        refine g_istore_n (lv' := [(3, .int 0), (2, .ref (a 24)), (0, .ref (a 0)), (1, .int (nI 2))]) cx dX5_lays_36 (by decide) rfl ?_
        refine g_iconst (v := 0) cx dX5_lays_37 (by decide) ?_
        refine g_istore (lv' := [(4, .int 0), (3, .int 0), (2, .ref (a 24)), (0, .ref (a 0)), (1, .int (nI 2))]) cx dX5_lays_38 (by decide) rfl ?_
        have LP40 : ∀ (d : Nat) (i : Nat) (x : Int32) (f : Nat → Int32) (y : Int32), i + d = 9 → i ≤ 8 → i ≤ Zs0 → x = nI i → (f, y) = layS (c.2.2.2.2.2.2.2.1 2) i (c.1.2.2.2.2.2.2.2.2.1, 0) → gG X 0 0 (xW E a ((c.1.1, c.1.2.1, c.1.2.2.1, c.1.2.2.2.1, c.1.2.2.2.2.1, c.1.2.2.2.2.2.1, c.1.2.2.2.2.2.2.1, c.1.2.2.2.2.2.2.2.1, f, c.1.2.2.2.2.2.2.2.2.2.1, c.1.2.2.2.2.2.2.2.2.2.2), c.2.1, c.2.2.1, c.2.2.2.1, c.2.2.2.2.1, c.2.2.2.2.2.1, c.2.2.2.2.2.2.1, c.2.2.2.2.2.2.2.1, c.2.2.2.2.2.2.2.2) g) 40 [(0, .ref (a 0)), (2, .ref (a 24)), (3, .int y), (4, .int x)] [] := by
          intro d
          induction d with
          | zero =>
            intro i x f y hi hi8 hiZ hx hs
            omega
          | succ d ih =>
            intro i x f y hi hi8 hiZ hx hs
            refine g_iload cx dX5_lays_40 3 rfl ?_
            refine g_bipush (v := 8) cx dX5_lays_42 (by decide) ?_
            refine g_icmp_ge (tgt := 103) cx dX5_lays_44 (by decide) (fun c_13 => ?_) (fun c_13 => ?_)
            · refine g_iload_n cx dX5_lays_103 2 rfl ?_
              exact g_iret cx gr (Nat.zero_le _) (Nat.zero_le _) dX5_lays_104 (xleaf (by rw [sp_lays, if_neg c_1, show (nI 2).toNatClampNeg = 2 from rfl, if_neg (ms_0 c_12)]; show ((layS (c.2.2.2.2.2.2.2.1 2) (min8 (c.2.2.2.2.2.2.1 2).toNatClampNeg) _).2, cMo c (layS (c.2.2.2.2.2.2.2.1 2) (min8 (c.2.2.2.2.2.2.1 2).toNatClampNeg) _).1) = _; rw [hzs0, nI_clamp (by omega), lay_e8 (ge_of 8 hx c_13 (by omega) (by decide)) hi8 hiZ, ← hs]; rfl))
            · refine g_iload cx dX5_lays_47 3 rfl ?_
              refine g_aload_n cx dX5_lays_49 1 rfl ?_
              refine g_get (C := RX1) (T := TX1) (N := 3) (v := .int (c.2.2.2.2.2.2.1 2)) cx iwX5_lays_X1 24 1 rfl rfl (by decide) lkX5_lays_205 rfl dX5_lays_50 ?_
              refine g_icmp_ge (tgt := 103) cx dX5_lays_53 (by decide) (fun c_14 => ?_) (fun c_14 => ?_)
              · refine g_iload_n cx dX5_lays_103 2 rfl ?_
                exact g_iret cx gr (Nat.zero_le _) (Nat.zero_le _) dX5_lays_104 (xleaf (by rw [sp_lays, if_neg c_1, show (nI 2).toNatClampNeg = 2 from rfl, if_neg (ms_0 c_12)]; show ((layS (c.2.2.2.2.2.2.2.1 2) (min8 (c.2.2.2.2.2.2.1 2).toNatClampNeg) _).2, cMo c (layS (c.2.2.2.2.2.2.2.1 2) (min8 (c.2.2.2.2.2.2.1 2).toNatClampNeg) _).1) = _; rw [hzs0, nI_clamp (by omega), lay_eZ (ge_of Zs0 hx (by rw [← hzs0]; exact c_14) (by omega) (by omega)) hi8 hiZ, ← hs]; rfl))
              · refine g_aload_n cx dX5_lays_56 1 rfl ?_
                refine g_get (C := RX1) (T := TX1) (N := 3) (v := .ref (a 25)) cx iwX5_lays_X1 24 2 rfl rfl (by decide) lkX5_lays_212 rfl dX5_lays_57 ?_
                refine g_iload cx dX5_lays_60 3 rfl ?_
                refine g_lald cx 25 rfl rfl (vp_of_nI hx (by have := lt_of Zs0 hx (by rw [← hzs0]; exact c_14) (by omega) (by omega); omega) (by decide)) dX5_lays_62 ?_
                refine g_lstore (lv' := [(5, .long ((c.2.2.2.2.2.2.2.1 2) (x.toNatClampNeg))), (0, .ref (a 0)), (2, .ref (a 24)), (3, .int y), (4, .int x)]) cx dX5_lays_63 (by decide) rfl ?_
                refine g_lload cx dX5_lays_65 0 rfl ?_
                refine g_lconst (v := 0) cx dX5_lays_67 (by decide) ?_
                refine g_lc_lt (tgt := 97) cx dX5_lays_68 dX5_lays_69 (by decide) (fun c_15 => ?_) (fun c_15 => ?_)
                · refine g_iinc (v := x + 1) (lv' := [(4, .int (x + 1)), (5, .long ((c.2.2.2.2.2.2.2.1 2) (x.toNatClampNeg))), (0, .ref (a 0)), (2, .ref (a 24)), (3, .int y)]) cx dX5_lays_97 4 rfl rfl (by decide) rfl ?_
                  refine g_goto (tgt := 40) cx dX5_lays_100 (by decide) ?_
                  exact g_lv [2, 3, 4, 0] rfl (ih (i + 1) (x + 1) f y (by omega) (by have := (lt_of 8 hx c_13 (by omega) (by decide)); omega) (by have := (lt_of Zs0 hx (by rw [← hzs0]; exact c_14) (by omega) (by omega)); omega) (by rw [hx]; exact nI_1 i) (lay_z hs (inl_0a (by have q := c_15; rw [hx, nI_clamp (by omega)] at q; exact q))))
                · refine g_lload cx dX5_lays_72 0 rfl ?_
                  refine g_ldc2 cx m1X5_lays_c232 dX5_lays_74 ?_
                  refine g_lc_gt (tgt := 97) cx dX5_lays_77 dX5_lays_78 (by decide) (fun c_16 => ?_) (fun c_16 => ?_)
                  · refine g_iinc (v := x + 1) (lv' := [(4, .int (x + 1)), (5, .long ((c.2.2.2.2.2.2.2.1 2) (x.toNatClampNeg))), (0, .ref (a 0)), (2, .ref (a 24)), (3, .int y)]) cx dX5_lays_97 4 rfl rfl (by decide) rfl ?_
                    refine g_goto (tgt := 40) cx dX5_lays_100 (by decide) ?_
                    exact g_lv [2, 3, 4, 0] rfl (ih (i + 1) (x + 1) f y (by omega) (by have := (lt_of 8 hx c_13 (by omega) (by decide)); omega) (by have := (lt_of Zs0 hx (by rw [← hzs0]; exact c_14) (by omega) (by omega)); omega) (by rw [hx]; exact nI_1 i) (lay_z hs (inl_0b (by have q := c_15; rw [hx, nI_clamp (by omega)] at q; exact q) (by have q := c_16; rw [hx, nI_clamp (by omega)] at q; exact q))))
                  · refine g_aload_n cx dX5_lays_81 1 rfl ?_
                    refine g_get (C := RX5) (T := TX5) (N := 8) (v := .ref (a 1)) cx iwX5_lays_X5 0 0 rfl rfl (by decide) lkX5_lays_10 rfl dX5_lays_82 ?_
                    refine g_get (C := RX3) (T := TX3) (N := 11) (v := .ref (a 3)) cx iwX5_lays_X3 1 8 rfl rfl (by decide) lkX5_lays_113 rfl dX5_lays_85 ?_
                    refine g_iload cx dX5_lays_88 4 rfl ?_
                    refine g_lload cx dX5_lays_90 0 rfl ?_
                    refine g_l2i cx dX5_lays_92 ?_
                    refine g_iast (ws' := (xW E a ((c.1.1, c.1.2.1, c.1.2.2.1, c.1.2.2.2.1, c.1.2.2.2.2.1, c.1.2.2.2.2.2.1, c.1.2.2.2.2.2.2.1, c.1.2.2.2.2.2.2.2.1, upd f x.toNatClampNeg (((c.2.2.2.2.2.2.2.1 2) (x.toNatClampNeg)).toInt32), c.1.2.2.2.2.2.2.2.2.2.1, c.1.2.2.2.2.2.2.2.2.2.2), c.2.1, c.2.2.1, c.2.2.2.1, c.2.2.2.2.1, c.2.2.2.2.2.1, c.2.2.2.2.2.2.1, c.2.2.2.2.2.2.2.1, c.2.2.2.2.2.2.2.2) g)) cx 3 rfl rfl (vp_of_nI hx (lt_of 8 hx c_13 (by omega) (by decide)) (by decide)) dX5_lays_93 rfl ?_
                    refine g_iinc (v := y + 1) (lv' := [(3, .int (y + 1)), (5, .long ((c.2.2.2.2.2.2.2.1 2) (x.toNatClampNeg))), (0, .ref (a 0)), (2, .ref (a 24)), (4, .int x)]) cx dX5_lays_94 3 rfl rfl (by decide) rfl ?_
                    refine g_iinc (v := x + 1) (lv' := [(4, .int (x + 1)), (3, .int (y + 1)), (5, .long ((c.2.2.2.2.2.2.2.1 2) (x.toNatClampNeg))), (0, .ref (a 0)), (2, .ref (a 24))]) cx dX5_lays_97 4 rfl rfl (by decide) rfl ?_
                    refine g_goto (tgt := 40) cx dX5_lays_100 (by decide) ?_
                    exact g_lv [3, 4, 1, 0] rfl (ih (i + 1) (x + 1) (upd f x.toNatClampNeg (((c.2.2.2.2.2.2.2.1 2) (x.toNatClampNeg)).toInt32)) (y + 1) (by omega) (by have := (lt_of 8 hx c_13 (by omega) (by decide)); omega) (by have := (lt_of Zs0 hx (by rw [← hzs0]; exact c_14) (by omega) (by omega)); omega) (by rw [hx]; exact nI_1 i) (by have q := lay_k hs (inl_1 (by have q := c_15; rw [hx, nI_clamp (by omega)] at q; exact q) (by have q := c_16; rw [hx, nI_clamp (by omega)] at q; exact q)); rw [hx, nI_clamp (by omega)]; exact q))
        exact g_lv [3, 2, 1, 0] rfl (LP40 9 0 0 _ 0 (by omega) (by omega) (by omega) rfl rfl)
      · refine g_aload_n cx dX5_lays_28 1 rfl ?_
        refine g_ldc cx m1X5_lays_c211 dX5_lays_29 ?_
        refine g_VSi (rest := []) (As := [.int (-1000000006)]) cx hYX5_finding gX5_lays_X5_finding (c_X5_finding l E a c g (-1000000006) (by unfold vp_in; decide +kernel)) rfl rfl rfl ⟨Nat.le_of_ble_eq_true rfl, Nat.le_of_ble_eq_true rfl⟩ rfl rfl (Nat.le_of_ble_eq_true rfl) ⟨Nat.le_of_ble_eq_true rfl, Nat.le_of_ble_eq_true rfl⟩ dX5_lays_31 (fun r w1 hp => ?_)
        obtain ⟨rfl, rfl⟩ := hp
        exact g_iret cx gr (Nat.zero_le _) (Nat.zero_le _) dX5_lays_34 (xleaf (by rw [sp_lays, if_neg c_1, show (nI 2).toNatClampNeg = 2 from rfl, if_pos (ms_1 c_12)]; rfl))
    · refine g_aload_n cx dX5_lays_14 0 rfl ?_
      refine g_get (C := RX5) (T := TX5) (N := 8) (v := .ref (a 19)) cx iwX5_lays_X5 0 6 rfl rfl (by decide) lkX5_lays_44 rfl dX5_lays_15 ?_
      refine g_iload_n cx dX5_lays_18 1 rfl ?_
      refine g_aald (v := a 26) cx 19 rfl rfl (vp_in_nI (by decide) (by decide)) rfl dX5_lays_19 ?_
      refine g_astore_n (lv' := [(2, .ref (a 26)), (0, .ref (a 0)), (1, .int (nI 3))]) cx dX5_lays_20 (by decide) rfl ?_
      refine g_aload_n cx dX5_lays_21 0 rfl ?_
      refine g_Vi (rest := []) (As := []) (wr := ([0, 1, 2, 3, 4, 5, 6, 7, 8, 9, 10, 11, 12, 13, 14, 15, 16, 17, 18, 19, 20, 21, 22, 23, 24, 25, 28].filterMap (fun i => (xW E a c g)[i]?))) cx hYX1_isMissing gX5_lays_X1_isMissing (c_X1_isMissing l E (fun i => a (26 + i)) (c.2.2.2.2.2.1 3, c.2.2.2.2.2.2.1 3, c.2.2.2.2.2.2.2.1 3)  ) rfl rfl rfl [26, 27] [0, 1, 2, 3, 4, 5, 6, 7, 8, 9, 10, 11, 12, 13, 14, 15, 16, 17, 18, 19, 20, 21, 22, 23, 24, 25, 28] rfl rfl rfl rfl (by decide) ⟨Nat.le_of_ble_eq_true rfl, Nat.le_of_ble_eq_true rfl⟩ rfl rfl (Nat.le_of_ble_eq_true rfl) ⟨Nat.le_of_ble_eq_true rfl, Nat.le_of_ble_eq_true rfl⟩ dX5_lays_22 (fun r w1 hp => ?_)
      obtain ⟨rfl, rfl⟩ := hp
      refine g_ws (ws' := (xW E a c g)) [0, 1, 2, 3, 4, 5, 6, 7, 8, 9, 10, 11, 12, 13, 14, 15, 16, 17, 18, 19, 20, 21, 22, 23, 24, 25, 27, 28, 26] rfl rfl ?_
      refine g_if_eq (tgt := 35) cx dX5_lays_25 (by decide) (fun c_17 => ?_) (fun c_17 => ?_)
      · obtain ⟨Zs0, hZs0, hzs0⟩ := sz_nI (j := 3) hok (by decide)
        refine g_iconst (v := 0) cx dX5_lays_35 (by decide) ?_
        refine g_istore_n (lv' := [(3, .int 0), (2, .ref (a 26)), (0, .ref (a 0)), (1, .int (nI 3))]) cx dX5_lays_36 (by decide) rfl ?_
        refine g_iconst (v := 0) cx dX5_lays_37 (by decide) ?_
        refine g_istore (lv' := [(4, .int 0), (3, .int 0), (2, .ref (a 26)), (0, .ref (a 0)), (1, .int (nI 3))]) cx dX5_lays_38 (by decide) rfl ?_
        have LP40 : ∀ (d : Nat) (i : Nat) (x : Int32) (f : Nat → Int32) (y : Int32), i + d = 9 → i ≤ 8 → i ≤ Zs0 → x = nI i → (f, y) = layS (c.2.2.2.2.2.2.2.1 3) i (c.1.2.2.2.2.2.2.2.2.1, 0) → gG X 0 0 (xW E a ((c.1.1, c.1.2.1, c.1.2.2.1, c.1.2.2.2.1, c.1.2.2.2.2.1, c.1.2.2.2.2.2.1, c.1.2.2.2.2.2.2.1, c.1.2.2.2.2.2.2.2.1, f, c.1.2.2.2.2.2.2.2.2.2.1, c.1.2.2.2.2.2.2.2.2.2.2), c.2.1, c.2.2.1, c.2.2.2.1, c.2.2.2.2.1, c.2.2.2.2.2.1, c.2.2.2.2.2.2.1, c.2.2.2.2.2.2.2.1, c.2.2.2.2.2.2.2.2) g) 40 [(0, .ref (a 0)), (2, .ref (a 26)), (3, .int y), (4, .int x)] [] := by
          intro d
          induction d with
          | zero =>
            intro i x f y hi hi8 hiZ hx hs
            omega
          | succ d ih =>
            intro i x f y hi hi8 hiZ hx hs
            refine g_iload cx dX5_lays_40 3 rfl ?_
            refine g_bipush (v := 8) cx dX5_lays_42 (by decide) ?_
            refine g_icmp_ge (tgt := 103) cx dX5_lays_44 (by decide) (fun c_18 => ?_) (fun c_18 => ?_)
            · refine g_iload_n cx dX5_lays_103 2 rfl ?_
              exact g_iret cx gr (Nat.zero_le _) (Nat.zero_le _) dX5_lays_104 (xleaf (by rw [sp_lays, if_neg c_1, show (nI 3).toNatClampNeg = 3 from rfl, if_neg (ms_0 c_17)]; show ((layS (c.2.2.2.2.2.2.2.1 3) (min8 (c.2.2.2.2.2.2.1 3).toNatClampNeg) _).2, cMo c (layS (c.2.2.2.2.2.2.2.1 3) (min8 (c.2.2.2.2.2.2.1 3).toNatClampNeg) _).1) = _; rw [hzs0, nI_clamp (by omega), lay_e8 (ge_of 8 hx c_18 (by omega) (by decide)) hi8 hiZ, ← hs]; rfl))
            · refine g_iload cx dX5_lays_47 3 rfl ?_
              refine g_aload_n cx dX5_lays_49 1 rfl ?_
              refine g_get (C := RX1) (T := TX1) (N := 3) (v := .int (c.2.2.2.2.2.2.1 3)) cx iwX5_lays_X1 26 1 rfl rfl (by decide) lkX5_lays_205 rfl dX5_lays_50 ?_
              refine g_icmp_ge (tgt := 103) cx dX5_lays_53 (by decide) (fun c_19 => ?_) (fun c_19 => ?_)
              · refine g_iload_n cx dX5_lays_103 2 rfl ?_
                exact g_iret cx gr (Nat.zero_le _) (Nat.zero_le _) dX5_lays_104 (xleaf (by rw [sp_lays, if_neg c_1, show (nI 3).toNatClampNeg = 3 from rfl, if_neg (ms_0 c_17)]; show ((layS (c.2.2.2.2.2.2.2.1 3) (min8 (c.2.2.2.2.2.2.1 3).toNatClampNeg) _).2, cMo c (layS (c.2.2.2.2.2.2.2.1 3) (min8 (c.2.2.2.2.2.2.1 3).toNatClampNeg) _).1) = _; rw [hzs0, nI_clamp (by omega), lay_eZ (ge_of Zs0 hx (by rw [← hzs0]; exact c_19) (by omega) (by omega)) hi8 hiZ, ← hs]; rfl))
              · refine g_aload_n cx dX5_lays_56 1 rfl ?_
                refine g_get (C := RX1) (T := TX1) (N := 3) (v := .ref (a 27)) cx iwX5_lays_X1 26 2 rfl rfl (by decide) lkX5_lays_212 rfl dX5_lays_57 ?_
                refine g_iload cx dX5_lays_60 3 rfl ?_
                refine g_lald cx 27 rfl rfl (vp_of_nI hx (by have := lt_of Zs0 hx (by rw [← hzs0]; exact c_19) (by omega) (by omega); omega) (by decide)) dX5_lays_62 ?_
                refine g_lstore (lv' := [(5, .long ((c.2.2.2.2.2.2.2.1 3) (x.toNatClampNeg))), (0, .ref (a 0)), (2, .ref (a 26)), (3, .int y), (4, .int x)]) cx dX5_lays_63 (by decide) rfl ?_
                refine g_lload cx dX5_lays_65 0 rfl ?_
                refine g_lconst (v := 0) cx dX5_lays_67 (by decide) ?_
                refine g_lc_lt (tgt := 97) cx dX5_lays_68 dX5_lays_69 (by decide) (fun c_20 => ?_) (fun c_20 => ?_)
                · refine g_iinc (v := x + 1) (lv' := [(4, .int (x + 1)), (5, .long ((c.2.2.2.2.2.2.2.1 3) (x.toNatClampNeg))), (0, .ref (a 0)), (2, .ref (a 26)), (3, .int y)]) cx dX5_lays_97 4 rfl rfl (by decide) rfl ?_
                  refine g_goto (tgt := 40) cx dX5_lays_100 (by decide) ?_
                  exact g_lv [2, 3, 4, 0] rfl (ih (i + 1) (x + 1) f y (by omega) (by have := (lt_of 8 hx c_18 (by omega) (by decide)); omega) (by have := (lt_of Zs0 hx (by rw [← hzs0]; exact c_19) (by omega) (by omega)); omega) (by rw [hx]; exact nI_1 i) (lay_z hs (inl_0a (by have q := c_20; rw [hx, nI_clamp (by omega)] at q; exact q))))
                · refine g_lload cx dX5_lays_72 0 rfl ?_
                  refine g_ldc2 cx m1X5_lays_c232 dX5_lays_74 ?_
                  refine g_lc_gt (tgt := 97) cx dX5_lays_77 dX5_lays_78 (by decide) (fun c_21 => ?_) (fun c_21 => ?_)
                  · refine g_iinc (v := x + 1) (lv' := [(4, .int (x + 1)), (5, .long ((c.2.2.2.2.2.2.2.1 3) (x.toNatClampNeg))), (0, .ref (a 0)), (2, .ref (a 26)), (3, .int y)]) cx dX5_lays_97 4 rfl rfl (by decide) rfl ?_
                    refine g_goto (tgt := 40) cx dX5_lays_100 (by decide) ?_
                    exact g_lv [2, 3, 4, 0] rfl (ih (i + 1) (x + 1) f y (by omega) (by have := (lt_of 8 hx c_18 (by omega) (by decide)); omega) (by have := (lt_of Zs0 hx (by rw [← hzs0]; exact c_19) (by omega) (by omega)); omega) (by rw [hx]; exact nI_1 i) (lay_z hs (inl_0b (by have q := c_20; rw [hx, nI_clamp (by omega)] at q; exact q) (by have q := c_21; rw [hx, nI_clamp (by omega)] at q; exact q))))
                  · refine g_aload_n cx dX5_lays_81 1 rfl ?_
                    refine g_get (C := RX5) (T := TX5) (N := 8) (v := .ref (a 1)) cx iwX5_lays_X5 0 0 rfl rfl (by decide) lkX5_lays_10 rfl dX5_lays_82 ?_
                    refine g_get (C := RX3) (T := TX3) (N := 11) (v := .ref (a 3)) cx iwX5_lays_X3 1 8 rfl rfl (by decide) lkX5_lays_113 rfl dX5_lays_85 ?_
                    refine g_iload cx dX5_lays_88 4 rfl ?_
                    refine g_lload cx dX5_lays_90 0 rfl ?_
                    refine g_l2i cx dX5_lays_92 ?_
                    refine g_iast (ws' := (xW E a ((c.1.1, c.1.2.1, c.1.2.2.1, c.1.2.2.2.1, c.1.2.2.2.2.1, c.1.2.2.2.2.2.1, c.1.2.2.2.2.2.2.1, c.1.2.2.2.2.2.2.2.1, upd f x.toNatClampNeg (((c.2.2.2.2.2.2.2.1 3) (x.toNatClampNeg)).toInt32), c.1.2.2.2.2.2.2.2.2.2.1, c.1.2.2.2.2.2.2.2.2.2.2), c.2.1, c.2.2.1, c.2.2.2.1, c.2.2.2.2.1, c.2.2.2.2.2.1, c.2.2.2.2.2.2.1, c.2.2.2.2.2.2.2.1, c.2.2.2.2.2.2.2.2) g)) cx 3 rfl rfl (vp_of_nI hx (lt_of 8 hx c_18 (by omega) (by decide)) (by decide)) dX5_lays_93 rfl ?_
                    refine g_iinc (v := y + 1) (lv' := [(3, .int (y + 1)), (5, .long ((c.2.2.2.2.2.2.2.1 3) (x.toNatClampNeg))), (0, .ref (a 0)), (2, .ref (a 26)), (4, .int x)]) cx dX5_lays_94 3 rfl rfl (by decide) rfl ?_
                    refine g_iinc (v := x + 1) (lv' := [(4, .int (x + 1)), (3, .int (y + 1)), (5, .long ((c.2.2.2.2.2.2.2.1 3) (x.toNatClampNeg))), (0, .ref (a 0)), (2, .ref (a 26))]) cx dX5_lays_97 4 rfl rfl (by decide) rfl ?_
                    refine g_goto (tgt := 40) cx dX5_lays_100 (by decide) ?_
                    exact g_lv [3, 4, 1, 0] rfl (ih (i + 1) (x + 1) (upd f x.toNatClampNeg (((c.2.2.2.2.2.2.2.1 3) (x.toNatClampNeg)).toInt32)) (y + 1) (by omega) (by have := (lt_of 8 hx c_18 (by omega) (by decide)); omega) (by have := (lt_of Zs0 hx (by rw [← hzs0]; exact c_19) (by omega) (by omega)); omega) (by rw [hx]; exact nI_1 i) (by have q := lay_k hs (inl_1 (by have q := c_20; rw [hx, nI_clamp (by omega)] at q; exact q) (by have q := c_21; rw [hx, nI_clamp (by omega)] at q; exact q)); rw [hx, nI_clamp (by omega)]; exact q))
        exact g_lv [3, 2, 1, 0] rfl (LP40 9 0 0 _ 0 (by omega) (by omega) (by omega) rfl rfl)
      · refine g_aload_n cx dX5_lays_28 1 rfl ?_
        refine g_ldc cx m1X5_lays_c211 dX5_lays_29 ?_
        refine g_VSi (rest := []) (As := [.int (-1000000006)]) cx hYX5_finding gX5_lays_X5_finding (c_X5_finding l E a c g (-1000000006) (by unfold vp_in; decide +kernel)) rfl rfl rfl ⟨Nat.le_of_ble_eq_true rfl, Nat.le_of_ble_eq_true rfl⟩ rfl rfl (Nat.le_of_ble_eq_true rfl) ⟨Nat.le_of_ble_eq_true rfl, Nat.le_of_ble_eq_true rfl⟩ dX5_lays_31 (fun r w1 hp => ?_)
        obtain ⟨rfl, rfl⟩ := hp
        exact g_iret cx gr (Nat.zero_le _) (Nat.zero_le _) dX5_lays_34 (xleaf (by rw [sp_lays, if_neg c_1, show (nI 3).toNatClampNeg = 3 from rfl, if_pos (ms_1 c_17)]; rfl))
  · refine g_aload_n cx dX5_lays_7 0 rfl ?_
    refine g_ldc cx m1X5_lays_c61 dX5_lays_8 ?_
    refine g_VSi (rest := []) (As := [.int (-1000000001)]) cx hYX5_finding gX5_lays_X5_finding (c_X5_finding l E a c g (-1000000001) (by unfold vp_in; decide +kernel)) rfl rfl rfl ⟨Nat.le_of_ble_eq_true rfl, Nat.le_of_ble_eq_true rfl⟩ rfl rfl (Nat.le_of_ble_eq_true rfl) ⟨Nat.le_of_ble_eq_true rfl, Nat.le_of_ble_eq_true rfl⟩ dX5_lays_10 (fun r w1 hp => ?_)
    obtain ⟨rfl, rfl⟩ := hp
    exact g_iret cx gr (Nat.zero_le _) (Nat.zero_le _) dX5_lays_13 (xleaf (by rw [sp_lays, if_pos c_1]; rfl))
