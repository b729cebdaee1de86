abbrev rmX5_trialRingsAs : Room := { frames := 4, cells := 0, slots := 0, locals := 90 }
theorem hYX5_trialRingsAs : gY yX5_trialRingsAs wsX5_trialRingsAs cX5_trialRingsAs 3 (some .boolean) 1 := ⟨⟨_, rfl⟩, by decide +kernel, by decide +kernel, by decide +kernel⟩
theorem iwX5_trialRingsAs_X1 : ∀ w ∈ u_ws RX1 TX1 3, w ∈ wsX5_trialRingsAs := by decide +kernel
theorem lkX5_trialRingsAs_205 : Cond.fieldLink RX5 205 "MuffinBells$Sheet" "size" "I" ∈ wsX5_trialRingsAs := by decide +kernel
theorem lkX5_trialRingsAs_212 : Cond.fieldLink RX5 212 "MuffinBells$Sheet" "numbers" "[J" ∈ wsX5_trialRingsAs := by decide +kernel
theorem iwX5_trialRingsAs_X5 : ∀ w ∈ u_ws RX5 TX5 8, w ∈ wsX5_trialRingsAs := by decide +kernel
theorem lkX5_trialRingsAs_16 : Cond.fieldLink RX5 16 "MuffinBells" "trial" "LMuffinBells$Terrace;" ∈ wsX5_trialRingsAs := by decide +kernel
theorem iwX5_trialRingsAs_X3 : ∀ w ∈ u_ws RX3 TX3 11, w ∈ wsX5_trialRingsAs := by decide +kernel
theorem lkX5_trialRingsAs_97 : Cond.fieldLink RX5 97 "MuffinBells$Terrace" "rang" "I" ∈ wsX5_trialRingsAs := by decide +kernel
set_option maxRecDepth 100000 in
set_option maxHeartbeats 4000000 in
theorem c_X5_tra0 (l : Launch) (E : gE) (a : Nat → Nat) (c : Cor) (g : Gar) (Z : Nat) (hat : vp_in (tAt g.1) 8) (hZ : Z ≤ 40) (hz : c.2.2.2.2.2.2.1 0 = nI Z) : cti l yX5_trialRingsAs wsX5_trialRingsAs rmX5_trialRingsAs E [.ref (a 0), .ref (a 20)] (xW E a c g) (fun r w => ∃ u : Ter, r = rgL (c.2.2.2.2.2.2.2.1 0) Z 0 g.1 ∧ w = xW E a c (u, g.2)) := by
  refine mt_i (cc := cX5_trialRingsAs) (maxL := 3) (ret := some .boolean) (lv0 := [(0, .ref (a 0)), (1, .ref (a 20))]) (by decide) rfl rfl (Nat.le_of_ble_eq_true rfl) (fun X cx gr hI => ?_)
  refine g_iconst (v := 0) cx dX5_trialRingsAs_0 (by decide) ?_
  refine g_istore_n (lv' := [(2, .int 0), (0, .ref (a 0)), (1, .ref (a 20))]) cx dX5_trialRingsAs_1 (by decide) rfl ?_
  have LP2 : ∀ (d : Nat) (i : Nat) (x : Int32) (u : Ter), i + d = Z + 1 → i ≤ Z → x = nI i → vp_in (tAt u) 8 → rgL (c.2.2.2.2.2.2.2.1 0) Z 0 g.1 = rgL (c.2.2.2.2.2.2.2.1 0) (Z - i) i u → gG X 0 0 (xW E a c (u, g.2.1, g.2.2.1, g.2.2.2.1, g.2.2.2.2)) 2 [(0, .ref (a 0)), (1, .ref (a 20)), (2, .int x)] [] := by
    intro d
    induction d with
    | zero =>
      intro i x u hi hiZ hx hat hs
      omega
    | succ d ih =>
      intro i x u hi hiZ hx hat hs
      refine g_iload_n cx dX5_trialRingsAs_2 2 rfl ?_
      refine g_aload_n cx dX5_trialRingsAs_3 1 rfl ?_
      refine g_get (C := RX1) (T := TX1) (N := 3) (v := .int (c.2.2.2.2.2.2.1 0)) cx iwX5_trialRingsAs_X1 20 1 rfl rfl (by decide) lkX5_trialRingsAs_205 rfl dX5_trialRingsAs_4 ?_
      refine g_icmp_ge (tgt := 43) cx dX5_trialRingsAs_7 (by decide) (fun c_1 => ?_) (fun c_1 => ?_)
      · refine g_iconst (v := 1) cx dX5_trialRingsAs_43 (by decide) ?_
        exact g_zret cx gr rfl (Nat.zero_le _) (Nat.zero_le _) dX5_trialRingsAs_44 ⟨_, by rw [hs, show Z - i = 0 by have := ge_of Z hx (by rw [← hz]; exact c_1) (by omega) (by omega); omega]; rfl, rfl⟩
      · refine g_aload_n cx dX5_trialRingsAs_10 1 rfl ?_
        refine g_get (C := RX1) (T := TX1) (N := 3) (v := .ref (a 21)) cx iwX5_trialRingsAs_X1 20 2 rfl rfl (by decide) lkX5_trialRingsAs_212 rfl dX5_trialRingsAs_11 ?_
        refine g_iload_n cx dX5_trialRingsAs_14 2 rfl ?_
        refine g_lald cx 21 rfl rfl (vp_of_nI hx (by have := lt_of Z hx (by rw [← hz]; exact c_1) (by omega) (by omega); omega) (by decide)) dX5_trialRingsAs_15 ?_
        refine g_aload_n cx dX5_trialRingsAs_16 0 rfl ?_
        refine g_get (C := RX5) (T := TX5) (N := 8) (v := .ref (a 6)) cx iwX5_trialRingsAs_X5 0 1 rfl rfl (by decide) lkX5_trialRingsAs_16 rfl dX5_trialRingsAs_17 ?_
        refine g_get (C := RX3) (T := TX3) (N := 11) (v := .int u.2.2.2.2.1) cx iwX5_trialRingsAs_X3 6 4 rfl rfl (by decide) lkX5_trialRingsAs_97 rfl dX5_trialRingsAs_20 ?_
        refine g_i2l cx dX5_trialRingsAs_23 ?_
        refine g_lc_eq (tgt := 30) cx dX5_trialRingsAs_24 dX5_trialRingsAs_25 (by decide) (fun c_2 => ?_) (fun c_2 => ?_)
        · refine g_aload_n cx dX5_trialRingsAs_30 0 rfl ?_
          refine g_get (C := RX5) (T := TX5) (N := 8) (v := .ref (a 6)) cx iwX5_trialRingsAs_X5 0 1 rfl rfl (by decide) lkX5_trialRingsAs_16 rfl dX5_trialRingsAs_31 ?_
          refine g_Xtv (rest := []) (As := []) cx hYX3_goHour gX5_trialRingsAs_X3_goHour (c_X3_goHour l E (fun i => a (6 + i)) u  hat) rfl ⟨Nat.le_of_ble_eq_true rfl, Nat.le_of_ble_eq_true rfl⟩ rfl rfl (Nat.le_of_ble_eq_true rfl) ⟨Nat.le_of_ble_eq_true rfl, Nat.le_of_ble_eq_true rfl⟩ dX5_trialRingsAs_34 ?_
          refine g_iinc (v := x + 1) (lv' := [(2, .int (x + 1)), (0, .ref (a 0)), (1, .ref (a 20))]) cx dX5_trialRingsAs_37 2 rfl rfl (by decide) rfl ?_
          refine g_goto (tgt := 2) cx dX5_trialRingsAs_40 (by decide) ?_
          exact g_lv [1, 2, 0] rfl (ih (i + 1) (x + 1) (goHour u) (by omega) (by have := (lt_of Z hx (by rw [← hz]; exact c_1) (by omega) (by omega)); omega) (by rw [hx]; exact nI_1 i) (goHour_at hat) (by rw [hs, show Z - i = (Z - (i + 1)) + 1 by have := (lt_of Z hx (by rw [← hz]; exact c_1) (by omega) (by omega)); omega, rgL, if_pos (by have q := c_2; rw [hx, nI_clamp (by omega)] at q; exact q)]))
        · refine g_iconst (v := 0) cx dX5_trialRingsAs_28 (by decide) ?_
          exact g_zret cx gr rfl (Nat.zero_le _) (Nat.zero_le _) dX5_trialRingsAs_29 ⟨_, by rw [hs, show Z - i = (Z - (i + 1)) + 1 by have := lt_of Z hx (by rw [← hz]; exact c_1) (by omega) (by omega); omega, rgL, if_neg (by have q := c_2; rw [hx, nI_clamp (by omega)] at q; exact q)], rfl⟩
  exact g_lv [1, 2, 0] rfl (LP2 (Z + 1) 0 0 g.1 (by omega) (by omega) rfl hat rfl)

set_option maxRecDepth 100000 in
set_option maxHeartbeats 4000000 in
theorem c_X5_tra1 (l : Launch) (E : gE) (a : Nat → Nat) (c : Cor) (g : Gar) (Z : Nat) (hat : vp_in (tAt g.1) 8) (hZ : Z ≤ 40) (hz : c.2.2.2.2.2.2.1 1 = nI Z) : cti l yX5_trialRingsAs wsX5_trialRingsAs rmX5_trialRingsAs E [.ref (a 0), .ref (a 22)] (xW E a c g) (fun r w => ∃ u : Ter, r = rgL (c.2.2.2.2.2.2.2.1 1) Z 0 g.1 ∧ w = xW E a c (u, g.2)) := by
  refine mt_i (cc := cX5_trialRingsAs) (maxL := 3) (ret := some .boolean) (lv0 := [(0, .ref (a 0)), (1, .ref (a 22))]) (by decide) rfl rfl (Nat.le_of_ble_eq_true rfl) (fun X cx gr hI => ?_)
  refine g_iconst (v := 0) cx dX5_trialRingsAs_0 (by decide) ?_
  refine g_istore_n (lv' := [(2, .int 0), (0, .ref (a 0)), (1, .ref (a 22))]) cx dX5_trialRingsAs_1 (by decide) rfl ?_
  have LP2 : ∀ (d : Nat) (i : Nat) (x : Int32) (u : Ter), i + d = Z + 1 → i ≤ Z → x = nI i → vp_in (tAt u) 8 → rgL (c.2.2.2.2.2.2.2.1 1) Z 0 g.1 = rgL (c.2.2.2.2.2.2.2.1 1) (Z - i) i u → gG X 0 0 (xW E a c (u, g.2.1, g.2.2.1, g.2.2.2.1, g.2.2.2.2)) 2 [(0, .ref (a 0)), (1, .ref (a 22)), (2, .int x)] [] := by
    intro d
    induction d with
    | zero =>
      intro i x u hi hiZ hx hat hs
      omega
    | succ d ih =>
      intro i x u hi hiZ hx hat hs
      refine g_iload_n cx dX5_trialRingsAs_2 2 rfl ?_
      refine g_aload_n cx dX5_trialRingsAs_3 1 rfl ?_
      refine g_get (C := RX1) (T := TX1) (N := 3) (v := .int (c.2.2.2.2.2.2.1 1)) cx iwX5_trialRingsAs_X1 22 1 rfl rfl (by decide) lkX5_trialRingsAs_205 rfl dX5_trialRingsAs_4 ?_
      refine g_icmp_ge (tgt := 43) cx dX5_trialRingsAs_7 (by decide) (fun c_1 => ?_) (fun c_1 => ?_)
      · refine g_iconst (v := 1) cx dX5_trialRingsAs_43 (by decide) ?_
        exact g_zret cx gr rfl (Nat.zero_le _) (Nat.zero_le _) dX5_trialRingsAs_44 ⟨_, by rw [hs, show Z - i = 0 by have := ge_of Z hx (by rw [← hz]; exact c_1) (by omega) (by omega); omega]; rfl, rfl⟩
      · refine g_aload_n cx dX5_trialRingsAs_10 1 rfl ?_
        refine g_get (C := RX1) (T := TX1) (N := 3) (v := .ref (a 23)) cx iwX5_trialRingsAs_X1 22 2 rfl rfl (by decide) lkX5_trialRingsAs_212 rfl dX5_trialRingsAs_11 ?_
        refine g_iload_n cx dX5_trialRingsAs_14 2 rfl ?_
        refine g_lald cx 23 rfl rfl (vp_of_nI hx (by have := lt_of Z hx (by rw [← hz]; exact c_1) (by omega) (by omega); omega) (by decide)) dX5_trialRingsAs_15 ?_
        refine g_aload_n cx dX5_trialRingsAs_16 0 rfl ?_
        refine g_get (C := RX5) (T := TX5) (N := 8) (v := .ref (a 6)) cx iwX5_trialRingsAs_X5 0 1 rfl rfl (by decide) lkX5_trialRingsAs_16 rfl dX5_trialRingsAs_17 ?_
        refine g_get (C := RX3) (T := TX3) (N := 11) (v := .int u.2.2.2.2.1) cx iwX5_trialRingsAs_X3 6 4 rfl rfl (by decide) lkX5_trialRingsAs_97 rfl dX5_trialRingsAs_20 ?_
        refine g_i2l cx dX5_trialRingsAs_23 ?_
        refine g_lc_eq (tgt := 30) cx dX5_trialRingsAs_24 dX5_trialRingsAs_25 (by decide) (fun c_2 => ?_) (fun c_2 => ?_)
        · refine g_aload_n cx dX5_trialRingsAs_30 0 rfl ?_
          refine g_get (C := RX5) (T := TX5) (N := 8) (v := .ref (a 6)) cx iwX5_trialRingsAs_X5 0 1 rfl rfl (by decide) lkX5_trialRingsAs_16 rfl dX5_trialRingsAs_31 ?_
          refine g_Xtv (rest := []) (As := []) cx hYX3_goHour gX5_trialRingsAs_X3_goHour (c_X3_goHour l E (fun i => a (6 + i)) u  hat) rfl ⟨Nat.le_of_ble_eq_true rfl, Nat.le_of_ble_eq_true rfl⟩ rfl rfl (Nat.le_of_ble_eq_true rfl) ⟨Nat.le_of_ble_eq_true rfl, Nat.le_of_ble_eq_true rfl⟩ dX5_trialRingsAs_34 ?_
          refine g_iinc (v := x + 1) (lv' := [(2, .int (x + 1)), (0, .ref (a 0)), (1, .ref (a 22))]) cx dX5_trialRingsAs_37 2 rfl rfl (by decide) rfl ?_
          refine g_goto (tgt := 2) cx dX5_trialRingsAs_40 (by decide) ?_
          exact g_lv [1, 2, 0] rfl (ih (i + 1) (x + 1) (goHour u) (by omega) (by have := (lt_of Z hx (by rw [← hz]; exact c_1) (by omega) (by omega)); omega) (by rw [hx]; exact nI_1 i) (goHour_at hat) (by rw [hs, show Z - i = (Z - (i + 1)) + 1 by have := (lt_of Z hx (by rw [← hz]; exact c_1) (by omega) (by omega)); omega, rgL, if_pos (by have q := c_2; rw [hx, nI_clamp (by omega)] at q; exact q)]))
        · refine g_iconst (v := 0) cx dX5_trialRingsAs_28 (by decide) ?_
          exact g_zret cx gr rfl (Nat.zero_le _) (Nat.zero_le _) dX5_trialRingsAs_29 ⟨_, by rw [hs, show Z - i = (Z - (i + 1)) + 1 by have := lt_of Z hx (by rw [← hz]; exact c_1) (by omega) (by omega); omega, rgL, if_neg (by have q := c_2; rw [hx, nI_clamp (by omega)] at q; exact q)], rfl⟩
  exact g_lv [1, 2, 0] rfl (LP2 (Z + 1) 0 0 g.1 (by omega) (by omega) rfl hat rfl)

set_option maxRecDepth 100000 in
set_option maxHeartbeats 4000000 in
theorem c_X5_tra2 (l : Launch) (E : gE) (a : Nat → Nat) (c : Cor) (g : Gar) (Z : Nat) (hat : vp_in (tAt g.1) 8) (hZ : Z ≤ 40) (hz : c.2.2.2.2.2.2.1 2 = nI Z) : cti l yX5_trialRingsAs wsX5_trialRingsAs rmX5_trialRingsAs E [.ref (a 0), .ref (a 24)] (xW E a c g) (fun r w => ∃ u : Ter, r = rgL (c.2.2.2.2.2.2.2.1 2) Z 0 g.1 ∧ w = xW E a c (u, g.2)) := by
  refine mt_i (cc := cX5_trialRingsAs) (maxL := 3) (ret := some .boolean) (lv0 := [(0, .ref (a 0)), (1, .ref (a 24))]) (by decide) rfl rfl (Nat.le_of_ble_eq_true rfl) (fun X cx gr hI => ?_)
  refine g_iconst (v := 0) cx dX5_trialRingsAs_0 (by decide) ?_
  refine g_istore_n (lv' := [(2, .int 0), (0, .ref (a 0)), (1, .ref (a 24))]) cx dX5_trialRingsAs_1 (by decide) rfl ?_
  have LP2 : ∀ (d : Nat) (i : Nat) (x : Int32) (u : Ter), i + d = Z + 1 → i ≤ Z → x = nI i → vp_in (tAt u) 8 → rgL (c.2.2.2.2.2.2.2.1 2) Z 0 g.1 = rgL (c.2.2.2.2.2.2.2.1 2) (Z - i) i u → gG X 0 0 (xW E a c (u, g.2.1, g.2.2.1, g.2.2.2.1, g.2.2.2.2)) 2 [(0, .ref (a 0)), (1, .ref (a 24)), (2, .int x)] [] := by
    intro d
    induction d with
    | zero =>
      intro i x u hi hiZ hx hat hs
      omega
    | succ d ih =>
      intro i x u hi hiZ hx hat hs
      refine g_iload_n cx dX5_trialRingsAs_2 2 rfl ?_
      refine g_aload_n cx dX5_trialRingsAs_3 1 rfl ?_
      refine g_get (C := RX1) (T := TX1) (N := 3) (v := .int (c.2.2.2.2.2.2.1 2)) cx iwX5_trialRingsAs_X1 24 1 rfl rfl (by decide) lkX5_trialRingsAs_205 rfl dX5_trialRingsAs_4 ?_
      refine g_icmp_ge (tgt := 43) cx dX5_trialRingsAs_7 (by decide) (fun c_1 => ?_) (fun c_1 => ?_)
      · refine g_iconst (v := 1) cx dX5_trialRingsAs_43 (by decide) ?_
        exact g_zret cx gr rfl (Nat.zero_le _) (Nat.zero_le _) dX5_trialRingsAs_44 ⟨_, by rw [hs, show Z - i = 0 by have := ge_of Z hx (by rw [← hz]; exact c_1) (by omega) (by omega); omega]; rfl, rfl⟩
      · refine g_aload_n cx dX5_trialRingsAs_10 1 rfl ?_
        refine g_get (C := RX1) (T := TX1) (N := 3) (v := .ref (a 25)) cx iwX5_trialRingsAs_X1 24 2 rfl rfl (by decide) lkX5_trialRingsAs_212 rfl dX5_trialRingsAs_11 ?_
        refine g_iload_n cx dX5_trialRingsAs_14 2 rfl ?_
        refine g_lald cx 25 rfl rfl (vp_of_nI hx (by have := lt_of Z hx (by rw [← hz]; exact c_1) (by omega) (by omega); omega) (by decide)) dX5_trialRingsAs_15 ?_
        refine g_aload_n cx dX5_trialRingsAs_16 0 rfl ?_
        refine g_get (C := RX5) (T := TX5) (N := 8) (v := .ref (a 6)) cx iwX5_trialRingsAs_X5 0 1 rfl rfl (by decide) lkX5_trialRingsAs_16 rfl dX5_trialRingsAs_17 ?_
        refine g_get (C := RX3) (T := TX3) (N := 11) (v := .int u.2.2.2.2.1) cx iwX5_trialRingsAs_X3 6 4 rfl rfl (by decide) lkX5_trialRingsAs_97 rfl dX5_trialRingsAs_20 ?_
        refine g_i2l cx dX5_trialRingsAs_23 ?_
        refine g_lc_eq (tgt := 30) cx dX5_trialRingsAs_24 dX5_trialRingsAs_25 (by decide) (fun c_2 => ?_) (fun c_2 => ?_)
        · refine g_aload_n cx dX5_trialRingsAs_30 0 rfl ?_
          refine g_get (C := RX5) (T := TX5) (N := 8) (v := .ref (a 6)) cx iwX5_trialRingsAs_X5 0 1 rfl rfl (by decide) lkX5_trialRingsAs_16 rfl dX5_trialRingsAs_31 ?_
          refine g_Xtv (rest := []) (As := []) cx hYX3_goHour gX5_trialRingsAs_X3_goHour (c_X3_goHour l E (fun i => a (6 + i)) u  hat) rfl ⟨Nat.le_of_ble_eq_true rfl, Nat.le_of_ble_eq_true rfl⟩ rfl rfl (Nat.le_of_ble_eq_true rfl) ⟨Nat.le_of_ble_eq_true rfl, Nat.le_of_ble_eq_true rfl⟩ dX5_trialRingsAs_34 ?_
          refine g_iinc (v := x + 1) (lv' := [(2, .int (x + 1)), (0, .ref (a 0)), (1, .ref (a 24))]) cx dX5_trialRingsAs_37 2 rfl rfl (by decide) rfl ?_
          refine g_goto (tgt := 2) cx dX5_trialRingsAs_40 (by decide) ?_
          exact g_lv [1, 2, 0] rfl (ih (i + 1) (x + 1) (goHour u) (by omega) (by have := (lt_of Z hx (by rw [← hz]; exact c_1) (by omega) (by omega)); omega) (by rw [hx]; exact nI_1 i) (goHour_at hat) (by rw [hs, show Z - i = (Z - (i + 1)) + 1 by have := (lt_of Z hx (by rw [← hz]; exact c_1) (by omega) (by omega)); omega, rgL, if_pos (by have q := c_2; rw [hx, nI_clamp (by omega)] at q; exact q)]))
        · refine g_iconst (v := 0) cx dX5_trialRingsAs_28 (by decide) ?_
          exact g_zret cx gr rfl (Nat.zero_le _) (Nat.zero_le _) dX5_trialRingsAs_29 ⟨_, by rw [hs, show Z - i = (Z - (i + 1)) + 1 by have := lt_of Z hx (by rw [← hz]; exact c_1) (by omega) (by omega); omega, rgL, if_neg (by have q := c_2; rw [hx, nI_clamp (by omega)] at q; exact q)], rfl⟩
  exact g_lv [1, 2, 0] rfl (LP2 (Z + 1) 0 0 g.1 (by omega) (by omega) rfl hat rfl)

set_option maxRecDepth 100000 in
set_option maxHeartbeats 4000000 in
theorem c_X5_tra3 (l : Launch) (E : gE) (a : Nat → Nat) (c : Cor) (g : Gar) (Z : Nat) (hat : vp_in (tAt g.1) 8) (hZ : Z ≤ 40) (hz : c.2.2.2.2.2.2.1 3 = nI Z) : cti l yX5_trialRingsAs wsX5_trialRingsAs rmX5_trialRingsAs E [.ref (a 0), .ref (a 26)] (xW E a c g) (fun r w => ∃ u : Ter, r = rgL (c.2.2.2.2.2.2.2.1 3) Z 0 g.1 ∧ w = xW E a c (u, g.2)) := by
  refine mt_i (cc := cX5_trialRingsAs) (maxL := 3) (ret := some .boolean) (lv0 := [(0, .ref (a 0)), (1, .ref (a 26))]) (by decide) rfl rfl (Nat.le_of_ble_eq_true rfl) (fun X cx gr hI => ?_)
  refine g_iconst (v := 0) cx dX5_trialRingsAs_0 (by decide) ?_
  refine g_istore_n (lv' := [(2, .int 0), (0, .ref (a 0)), (1, .ref (a 26))]) cx dX5_trialRingsAs_1 (by decide) rfl ?_
  have LP2 : ∀ (d : Nat) (i : Nat) (x : Int32) (u : Ter), i + d = Z + 1 → i ≤ Z → x = nI i → vp_in (tAt u) 8 → rgL (c.2.2.2.2.2.2.2.1 3) Z 0 g.1 = rgL (c.2.2.2.2.2.2.2.1 3) (Z - i) i u → gG X 0 0 (xW E a c (u, g.2.1, g.2.2.1, g.2.2.2.1, g.2.2.2.2)) 2 [(0, .ref (a 0)), (1, .ref (a 26)), (2, .int x)] [] := by
    intro d
    induction d with
    | zero =>
      intro i x u hi hiZ hx hat hs
      omega
    | succ d ih =>
      intro i x u hi hiZ hx hat hs
      refine g_iload_n cx dX5_trialRingsAs_2 2 rfl ?_
      refine g_aload_n cx dX5_trialRingsAs_3 1 rfl ?_
      refine g_get (C := RX1) (T := TX1) (N := 3) (v := .int (c.2.2.2.2.2.2.1 3)) cx iwX5_trialRingsAs_X1 26 1 rfl rfl (by decide) lkX5_trialRingsAs_205 rfl dX5_trialRingsAs_4 ?_
      refine g_icmp_ge (tgt := 43) cx dX5_trialRingsAs_7 (by decide) (fun c_1 => ?_) (fun c_1 => ?_)
      · refine g_iconst (v := 1) cx dX5_trialRingsAs_43 (by decide) ?_
        exact g_zret cx gr rfl (Nat.zero_le _) (Nat.zero_le _) dX5_trialRingsAs_44 ⟨_, by rw [hs, show Z - i = 0 by have := ge_of Z hx (by rw [← hz]; exact c_1) (by omega) (by omega); omega]; rfl, rfl⟩
      · refine g_aload_n cx dX5_trialRingsAs_10 1 rfl ?_
        refine g_get (C := RX1) (T := TX1) (N := 3) (v := .ref (a 27)) cx iwX5_trialRingsAs_X1 26 2 rfl rfl (by decide) lkX5_trialRingsAs_212 rfl dX5_trialRingsAs_11 ?_
        refine g_iload_n cx dX5_trialRingsAs_14 2 rfl ?_
        refine g_lald cx 27 rfl rfl (vp_of_nI hx (by have := lt_of Z hx (by rw [← hz]; exact c_1) (by omega) (by omega); omega) (by decide)) dX5_trialRingsAs_15 ?_
        refine g_aload_n cx dX5_trialRingsAs_16 0 rfl ?_
        refine g_get (C := RX5) (T := TX5) (N := 8) (v := .ref (a 6)) cx iwX5_trialRingsAs_X5 0 1 rfl rfl (by decide) lkX5_trialRingsAs_16 rfl dX5_trialRingsAs_17 ?_
        refine g_get (C := RX3) (T := TX3) (N := 11) (v := .int u.2.2.2.2.1) cx iwX5_trialRingsAs_X3 6 4 rfl rfl (by decide) lkX5_trialRingsAs_97 rfl dX5_trialRingsAs_20 ?_
        refine g_i2l cx dX5_trialRingsAs_23 ?_
        refine g_lc_eq (tgt := 30) cx dX5_trialRingsAs_24 dX5_trialRingsAs_25 (by decide) (fun c_2 => ?_) (fun c_2 => ?_)
        · refine g_aload_n cx dX5_trialRingsAs_30 0 rfl ?_
          refine g_get (C := RX5) (T := TX5) (N := 8) (v := .ref (a 6)) cx iwX5_trialRingsAs_X5 0 1 rfl rfl (by decide) lkX5_trialRingsAs_16 rfl dX5_trialRingsAs_31 ?_
          refine g_Xtv (rest := []) (As := []) cx hYX3_goHour gX5_trialRingsAs_X3_goHour (c_X3_goHour l E (fun i => a (6 + i)) u  hat) rfl ⟨Nat.le_of_ble_eq_true rfl, Nat.le_of_ble_eq_true rfl⟩ rfl rfl (Nat.le_of_ble_eq_true rfl) ⟨Nat.le_of_ble_eq_true rfl, Nat.le_of_ble_eq_true rfl⟩ dX5_trialRingsAs_34 ?_
          refine g_iinc (v := x + 1) (lv' := [(2, .int (x + 1)), (0, .ref (a 0)), (1, .ref (a 26))]) cx dX5_trialRingsAs_37 2 rfl rfl (by decide) rfl ?_
          refine g_goto (tgt := 2) cx dX5_trialRingsAs_40 (by decide) ?_
          exact g_lv [1, 2, 0] rfl (ih (i + 1) (x + 1) (goHour u) (by omega) (by have := (lt_of Z hx (by rw [← hz]; exact c_1) (by omega) (by omega)); omega) (by rw [hx]; exact nI_1 i) (goHour_at hat) (by rw [hs, show Z - i = (Z - (i + 1)) + 1 by have := (lt_of Z hx (by rw [← hz]; exact c_1) (by omega) (by omega)); omega, rgL, if_pos (by have q := c_2; rw [hx, nI_clamp (by omega)] at q; exact q)]))
        · refine g_iconst (v := 0) cx dX5_trialRingsAs_28 (by decide) ?_
          exact g_zret cx gr rfl (Nat.zero_le _) (Nat.zero_le _) dX5_trialRingsAs_29 ⟨_, by rw [hs, show Z - i = (Z - (i + 1)) + 1 by have := lt_of Z hx (by rw [← hz]; exact c_1) (by omega) (by omega); omega, rgL, if_neg (by have q := c_2; rw [hx, nI_clamp (by omega)] at q; exact q)], rfl⟩
  exact g_lv [1, 2, 0] rfl (LP2 (Z + 1) 0 0 g.1 (by omega) (by omega) rfl hat rfl)

theorem rd_s {m : Nat → Int64} {z : Nat} {t : Ter} {h i j : Nat} {y x w : Int32} (hj : j < 21) (hy : y = rdC m z t h (21 * i + j)) (hx : x = nI i) (hw : w = nI j) (c : rgL m z 0 (tKM t h x w) = 0) : y = rdC m z t h (21 * i + (j + 1)) := by
  rw [show 21 * i + (j + 1) = (21 * i + j) + 1 by omega, rdC, show (21 * i + j) / 21 = i by omega, show (21 * i + j) % 21 = j by omega, ← hx, ← hw, if_pos c, hy]
theorem rd_k {m : Nat → Int64} {z : Nat} {t : Ter} {h i j : Nat} {y x w : Int32} (hj : j < 21) (hy : y = rdC m z t h (21 * i + j)) (hx : x = nI i) (hw : w = nI j) (c : ¬ rgL m z 0 (tKM t h x w) = 0) : y + 1 = rdC m z t h (21 * i + (j + 1)) := by
  rw [show 21 * i + (j + 1) = (21 * i + j) + 1 by omega, rdC, show (21 * i + j) / 21 = i by omega, show (21 * i + j) % 21 = j by omega, ← hx, ← hw, if_neg c, hy]

abbrev rmX5_read : Room := { frames := 5, cells := 0, slots := 0, locals := 112 }
theorem hYX5_read : gY yX5_read wsX5_read cX5_read 7 (some .int) 2 := ⟨⟨_, rfl⟩, by decide +kernel, by decide +kernel, by decide +kernel⟩
theorem iwX5_read_X5 : ∀ w ∈ u_ws RX5 TX5 8, w ∈ wsX5_read := by decide +kernel
theorem lkX5_read_44 : Cond.fieldLink RX5 44 "MuffinBells" "sheets" "[LMuffinBells$Sheet;" ∈ wsX5_read := by decide +kernel
theorem lkX5_read_16 : Cond.fieldLink RX5 16 "MuffinBells" "trial" "LMuffinBells$Terrace;" ∈ wsX5_read := by decide +kernel
theorem lkX5_read_10 : Cond.fieldLink RX5 10 "MuffinBells" "present" "LMuffinBells$Terrace;" ∈ wsX5_read := by decide +kernel
theorem iwX5_read_X3 : ∀ w ∈ u_ws RX3 TX3 11, w ∈ wsX5_read := by decide +kernel
theorem lkX5_read_110 : Cond.fieldLink RX5 110 "MuffinBells$Terrace" "kinds" "[I" ∈ wsX5_read := by decide +kernel
theorem lkX5_read_113 : Cond.fieldLink RX5 113 "MuffinBells$Terrace" "moods" "[I" ∈ wsX5_read := by decide +kernel
theorem m1X5_read_c61 : Cond.constant RX5 61 (-1000000001) ∈ wsX5_read := by decide +kernel
theorem m1X5_read_c211 : Cond.constant RX5 211 (-1000000006) ∈ wsX5_read := by decide +kernel
set_option maxRecDepth 100000 in
set_option maxHeartbeats 4000000 in
theorem c_X5_read (l : Launch) (E : gE) (a : Nat → Nat) (c : Cor) (g : Gar) (s0 : Int32) (h0 : Int32) (hok : cOk c) : cti l yX5_read wsX5_read rmX5_read E [.ref (a 0), .int s0, .int h0] (xW E a c g) (fun r w => ∃ g', r = (sp_read c s0 h0).1 ∧ w = xW E a (sp_read c s0 h0).2 g') := by
  refine mt_i (cc := cX5_read) (maxL := 7) (ret := some .int) (lv0 := [(0, .ref (a 0)), (1, .int s0), (2, .int h0)]) (by decide) rfl rfl (Nat.le_of_ble_eq_true rfl) (fun X cx gr hI => ?_)
  refine g_iload_n cx dX5_read_0 1 rfl ?_
  refine g_SPi (rest := []) (As := [.int s0]) cx hYX5_isSheet gX5_read_X5_isSheet (c_X5_isSheet l E s0 ) ⟨Nat.le_of_ble_eq_true rfl, Nat.le_of_ble_eq_true rfl⟩ rfl rfl (Nat.le_of_ble_eq_true rfl) ⟨Nat.le_of_ble_eq_true rfl, Nat.le_of_ble_eq_true rfl⟩ dX5_read_1 ?_
  refine g_if_ne (tgt := 14) cx dX5_read_4 (by decide) (fun c_1 => ?_) (fun c_1 => ?_)
  · obtain ⟨js0, hjs0, rfl⟩ := isW_nI 3 c_1 (by decide)
    rcases (show js0 = 0 ∨ js0 = 1 ∨ js0 = 2 ∨ js0 = 3 by omega) with rfl | rfl | rfl | rfl
    · refine g_aload_n cx dX5_read_14 0 rfl ?_
      refine g_get (C := RX5) (T := TX5) (N := 8) (v := .ref (a 19)) cx iwX5_read_X5 0 6 rfl rfl (by decide) lkX5_read_44 rfl dX5_read_15 ?_
      refine g_iload_n cx dX5_read_18 1 rfl ?_
      refine g_aald (v := a 20) cx 19 rfl rfl (vp_in_nI (by decide) (by decide)) rfl dX5_read_19 ?_
      refine g_astore_n (lv' := [(3, .ref (a 20)), (0, .ref (a 0)), (1, .int (nI 0)), (2, .int h0)]) cx dX5_read_20 (by decide) rfl ?_
      refine g_aload_n cx dX5_read_21 0 rfl ?_
      refine g_Vi (rest := []) (As := []) (wr := ([0, 1, 2, 3, 4, 5, 6, 7, 8, 9, 10, 11, 12, 13, 14, 15, 16, 17, 18, 19, 22, 23, 24, 25, 26, 27, 28].filterMap (fun i => (xW E a c g)[i]?))) cx hYX1_isMissing gX5_read_X1_isMissing (c_X1_isMissing l E (fun i => a (20 + i)) (c.2.2.2.2.2.1 0, c.2.2.2.2.2.2.1 0, c.2.2.2.2.2.2.2.1 0)  ) rfl rfl rfl [20, 21] [0, 1, 2, 3, 4, 5, 6, 7, 8, 9, 10, 11, 12, 13, 14, 15, 16, 17, 18, 19, 22, 23, 24, 25, 26, 27, 28] rfl rfl rfl rfl (by decide) ⟨Nat.le_of_ble_eq_true rfl, Nat.le_of_ble_eq_true rfl⟩ rfl rfl (Nat.le_of_ble_eq_true rfl) ⟨Nat.le_of_ble_eq_true rfl, Nat.le_of_ble_eq_true rfl⟩ dX5_read_22 (fun r w1 hp => ?_)
      obtain ⟨rfl, rfl⟩ := hp
      refine g_ws (ws' := (xW E a c g)) [0, 1, 2, 3, 4, 5, 6, 7, 8, 9, 10, 11, 12, 13, 14, 15, 16, 17, 18, 19, 27, 28, 20, 21, 22, 23, 24, 25, 26] rfl rfl ?_
      refine g_if_eq (tgt := 35) cx dX5_read_25 (by decide) (fun c_2 => ?_) (fun c_2 => ?_)
      · refine g_iload_n cx dX5_read_35 3 rfl ?_
        refine g_SPi (rest := []) (As := [.int h0]) cx hYX5_isHouse gX5_read_X5_isHouse (c_X5_isHouse l E h0 ) ⟨Nat.le_of_ble_eq_true rfl, Nat.le_of_ble_eq_true rfl⟩ rfl rfl (Nat.le_of_ble_eq_true rfl) ⟨Nat.le_of_ble_eq_true rfl, Nat.le_of_ble_eq_true rfl⟩ dX5_read_36 ?_
        refine g_if_ne (tgt := 49) cx dX5_read_39 (by decide) (fun c_3 => ?_) (fun c_3 => ?_)
        · obtain ⟨Zs0, hZs0, hzs0⟩ := sz_nI (j := 0) hok (by decide)
          refine g_iconst (v := 0) cx dX5_read_49 (by decide) ?_
          refine g_istore (lv' := [(4, .int 0), (3, .ref (a 20)), (0, .ref (a 0)), (1, .int (nI 0)), (2, .int h0)]) cx dX5_read_50 (by decide) rfl ?_
          refine g_iconst (v := 0) cx dX5_read_52 (by decide) ?_
          refine g_istore (lv' := [(5, .int 0), (4, .int 0), (3, .ref (a 20)), (0, .ref (a 0)), (1, .int (nI 0)), (2, .int h0)]) cx dX5_read_53 (by decide) rfl ?_
          have LP55 : ∀ (d1 : Nat) (i : Nat) (x : Int32) (y : Int32) (u : Ter), i + d1 = 7 → i ≤ 6 → x = nI i → y = rdC (c.2.2.2.2.2.2.2.1 0) Zs0 c.1 h0.toNatClampNeg (21 * i) → gG X 0 0 (xW E a c (u, g.2.1, g.2.2.1, g.2.2.2.1, g.2.2.2.2)) 55 [(0, .ref (a 0)), (2, .int h0), (3, .ref (a 20)), (4, .int y), (5, .int x)] [] := by
            intro d1
            induction d1 with
            | zero =>
              intro i x y u hi hiN hx hy
              omega
            | succ d1 ih1 =>
              intro i x y u hi hiN hx hy
              refine g_iload cx dX5_read_55 4 rfl ?_
              refine g_bipush (v := 6) cx dX5_read_57 (by decide) ?_
              refine g_icmp_ge (tgt := 128) cx dX5_read_59 (by decide) (fun c_4 => ?_) (fun c_4 => ?_)
              · refine g_iload cx dX5_read_128 3 rfl ?_
                exact g_iret cx gr (Nat.zero_le _) (Nat.zero_le _) dX5_read_130 (xleaf (by rw [sp_read, if_neg c_1, show (nI 0).toNatClampNeg = 0 from rfl, if_neg (ms_0 c_2), if_neg c_3]; show (rdC _ (c.2.2.2.2.2.2.1 0).toNatClampNeg _ _ 126, c) = _; rw [hzs0, nI_clamp (by omega), hy, show i = 6 by have := ge_of 6 hx c_4 (by omega) (by decide); omega]))
              · refine g_iconst (v := 0) cx dX5_read_62 (by decide) ?_
                refine g_istore (lv' := [(6, .int 0), (0, .ref (a 0)), (2, .int h0), (3, .ref (a 20)), (4, .int y), (5, .int x)]) cx dX5_read_63 (by decide) rfl ?_
                have LP65 : ∀ (d2 : Nat) (j : Nat) (z : Int32) (y2 : Int32) (u2 : Ter), j + d2 = 22 → j ≤ 21 → z = nI j → y2 = rdC (c.2.2.2.2.2.2.2.1 0) Zs0 c.1 h0.toNatClampNeg (21 * i + j) → gG X 0 0 (xW E a c (u2, g.2.1, g.2.2.1, g.2.2.2.1, g.2.2.2.2)) 65 [(0, .ref (a 0)), (2, .int h0), (3, .ref (a 20)), (4, .int y2), (5, .int x), (6, .int z)] [] := by
                  intro d2
                  induction d2 with
                  | zero =>
                    intro j z y2 u2 hj hjN hz2 hy2
                    omega
                  | succ d2 ih2 =>
                    intro j z y2 u2 hj hjN hz2 hy2
                    refine g_iload cx dX5_read_65 5 rfl ?_
                    refine g_bipush (v := 20) cx dX5_read_67 (by decide) ?_
                    refine g_icmp_gt (tgt := 122) cx dX5_read_69 (by decide) (fun c_5 => ?_) (fun c_5 => ?_)
                    · refine g_iinc (v := x + 1) (lv' := [(5, .int (x + 1)), (0, .ref (a 0)), (2, .int h0), (3, .ref (a 20)), (4, .int y2), (6, .int z)]) cx dX5_read_122 4 rfl rfl (by decide) rfl ?_
                      refine g_goto (tgt := 55) cx dX5_read_125 (by decide) ?_
                      exact g_lv [1, 2, 3, 4, 0] rfl (ih1 (i + 1) (x + 1) y2 u2 (by omega) (by have := lt_of 6 hx c_4 (by omega) (by decide); omega) (by rw [hx]; exact nI_1 i) (by rw [hy2, show j = 21 by have := gt_of 20 hz2 c_5 (by omega) (by decide); omega, show 21 * i + 21 = 21 * (i + 1) by omega]))
                    · refine g_aload_n cx dX5_read_72 0 rfl ?_
                      refine g_get (C := RX5) (T := TX5) (N := 8) (v := .ref (a 6)) cx iwX5_read_X5 0 1 rfl rfl (by decide) lkX5_read_16 rfl dX5_read_73 ?_
                      refine g_aload_n cx dX5_read_76 0 rfl ?_
                      refine g_get (C := RX5) (T := TX5) (N := 8) (v := .ref (a 1)) cx iwX5_read_X5 0 0 rfl rfl (by decide) lkX5_read_10 rfl dX5_read_77 ?_
                      refine g_XBtp cx gX5_read_X3_become ⟨Nat.le_of_ble_eq_true rfl, Nat.le_of_ble_eq_true rfl⟩ (Nat.le_of_ble_eq_true rfl) dX5_read_80 ?_ (Nat.zero_le _) (Nat.zero_le _)
                      refine g_aload_n cx dX5_read_83 0 rfl ?_
                      refine g_get (C := RX5) (T := TX5) (N := 8) (v := .ref (a 6)) cx iwX5_read_X5 0 1 rfl rfl (by decide) lkX5_read_16 rfl dX5_read_84 ?_
                      refine g_get (C := RX3) (T := TX3) (N := 11) (v := .ref (a 7)) cx iwX5_read_X3 6 7 rfl rfl (by decide) lkX5_read_110 rfl dX5_read_87 ?_
                      refine g_iload_n cx dX5_read_90 1 rfl ?_
                      refine g_iload cx dX5_read_91 4 rfl ?_
                      refine g_iast (ws' := (xW E a c ((c.1.1, c.1.2.1, c.1.2.2.1, c.1.2.2.2.1, c.1.2.2.2.2.1, c.1.2.2.2.2.2.1, c.1.2.2.2.2.2.2.1, upd c.1.2.2.2.2.2.2.2.1 h0.toNatClampNeg x, c.1.2.2.2.2.2.2.2.2.1, c.1.2.2.2.2.2.2.2.2.2.1, c.1.2.2.2.2.2.2.2.2.2.2), g.2.1, g.2.2.1, g.2.2.2.1, g.2.2.2.2))) cx 7 rfl rfl (isW_vp 7 c_3 (by decide)) dX5_read_93 rfl ?_
                      refine g_aload_n cx dX5_read_94 0 rfl ?_
                      refine g_get (C := RX5) (T := TX5) (N := 8) (v := .ref (a 6)) cx iwX5_read_X5 0 1 rfl rfl (by decide) lkX5_read_16 rfl dX5_read_95 ?_
                      refine g_get (C := RX3) (T := TX3) (N := 11) (v := .ref (a 8)) cx iwX5_read_X3 6 8 rfl rfl (by decide) lkX5_read_113 rfl dX5_read_98 ?_
                      refine g_iload_n cx dX5_read_101 1 rfl ?_
                      refine g_iload cx dX5_read_102 5 rfl ?_
                      refine g_iast (ws' := (xW E a c ((c.1.1, c.1.2.1, c.1.2.2.1, c.1.2.2.2.1, c.1.2.2.2.2.1, c.1.2.2.2.2.2.1, c.1.2.2.2.2.2.2.1, upd c.1.2.2.2.2.2.2.2.1 h0.toNatClampNeg x, upd c.1.2.2.2.2.2.2.2.2.1 h0.toNatClampNeg z, c.1.2.2.2.2.2.2.2.2.2.1, c.1.2.2.2.2.2.2.2.2.2.2), g.2.1, g.2.2.1, g.2.2.2.1, g.2.2.2.2))) cx 8 rfl rfl (isW_vp 7 c_3 (by decide)) dX5_read_104 rfl ?_
                      refine g_aload_n cx dX5_read_105 0 rfl ?_
                      refine g_aload_n cx dX5_read_106 2 rfl ?_
                      refine g_VSi (rest := []) (As := [.ref (a 20)]) cx hYX5_trialRingsAs gX5_read_X5_trialRingsAs (c_X5_tra0 l E a c ((c.1.1, c.1.2.1, c.1.2.2.1, c.1.2.2.2.1, c.1.2.2.2.2.1, c.1.2.2.2.2.2.1, c.1.2.2.2.2.2.2.1, upd c.1.2.2.2.2.2.2.2.1 h0.toNatClampNeg x, upd c.1.2.2.2.2.2.2.2.2.1 h0.toNatClampNeg z, c.1.2.2.2.2.2.2.2.2.2.1, c.1.2.2.2.2.2.2.2.2.2.2), g.2.1, g.2.2.1, g.2.2.2.1, g.2.2.2.2) Zs0 (by exact hok.1.1) hZs0 hzs0) rfl rfl rfl ⟨Nat.le_of_ble_eq_true rfl, Nat.le_of_ble_eq_true rfl⟩ rfl rfl (Nat.le_of_ble_eq_true rfl) ⟨Nat.le_of_ble_eq_true rfl, Nat.le_of_ble_eq_true rfl⟩ dX5_read_107 (fun r w1 hp => ?_)
                      obtain ⟨u9, hr, rfl⟩ := hp
                      rw [hr]
                      refine g_if_eq (tgt := 116) cx dX5_read_110 (by decide) (fun c_6 => ?_) (fun c_6 => ?_)
                      · refine g_iinc (v := z + 1) (lv' := [(6, .int (z + 1)), (0, .ref (a 0)), (2, .int h0), (3, .ref (a 20)), (4, .int y2), (5, .int x)]) cx dX5_read_116 5 rfl rfl (by decide) rfl ?_
                        refine g_goto (tgt := 65) cx dX5_read_119 (by decide) ?_
                        exact g_lv [1, 2, 3, 4, 5, 0] rfl (ih2 (j + 1) (z + 1) y2 _ (by omega) (by have := (le_of 20 hz2 c_5 (by omega) (by decide)); omega) (by rw [hz2]; exact nI_1 j) (rd_s (by have := (le_of 20 hz2 c_5 (by omega) (by decide)); omega) hy2 hx hz2 c_6))
                      · refine g_iinc (v := y2 + 1) (lv' := [(4, .int (y2 + 1)), (0, .ref (a 0)), (2, .int h0), (3, .ref (a 20)), (5, .int x), (6, .int z)]) cx dX5_read_113 3 rfl rfl (by decide) rfl ?_
                        refine g_iinc (v := z + 1) (lv' := [(6, .int (z + 1)), (4, .int (y2 + 1)), (0, .ref (a 0)), (2, .int h0), (3, .ref (a 20)), (5, .int x)]) cx dX5_read_116 5 rfl rfl (by decide) rfl ?_
                        refine g_goto (tgt := 65) cx dX5_read_119 (by decide) ?_
                        exact g_lv [2, 3, 4, 1, 5, 0] rfl (ih2 (j + 1) (z + 1) (y2 + 1) _ (by omega) (by have := (le_of 20 hz2 c_5 (by omega) (by decide)); omega) (by rw [hz2]; exact nI_1 j) (rd_k (by have := (le_of 20 hz2 c_5 (by omega) (by decide)); omega) hy2 hx hz2 c_6))
                exact g_lv [1, 2, 3, 4, 5, 0] rfl (LP65 22 0 0 y u (by omega) (by omega) rfl hy)
          exact g_lv [3, 5, 2, 1, 0] rfl (LP55 7 0 0 0 _ (by omega) (by omega) rfl rfl)
        · refine g_aload_n cx dX5_read_42 1 rfl ?_
          refine g_ldc cx m1X5_read_c61 dX5_read_43 ?_
          refine g_VSi (rest := []) (As := [.int (-1000000001)]) cx hYX5_finding gX5_read_X5_finding (c_X5_finding l E a c g (-1000000001) (by unfold vp_in; decide +kernel)) rfl rfl rfl ⟨Nat.le_of_ble_eq_true rfl, Nat.le_of_ble_eq_true rfl⟩ rfl rfl (Nat.le_of_ble_eq_true rfl) ⟨Nat.le_of_ble_eq_true rfl, Nat.le_of_ble_eq_true rfl⟩ dX5_read_45 (fun r w1 hp => ?_)
          obtain ⟨rfl, rfl⟩ := hp
          exact g_iret cx gr (Nat.zero_le _) (Nat.zero_le _) dX5_read_48 (xleaf (by rw [sp_read, if_neg c_1, show (nI 0).toNatClampNeg = 0 from rfl, if_neg (ms_0 c_2), if_pos c_3]; rfl))
      · refine g_aload_n cx dX5_read_28 1 rfl ?_
        refine g_ldc cx m1X5_read_c211 dX5_read_29 ?_
        refine g_VSi (rest := []) (As := [.int (-1000000006)]) cx hYX5_finding gX5_read_X5_finding (c_X5_finding l E a c g (-1000000006) (by unfold vp_in; decide +kernel)) rfl rfl rfl ⟨Nat.le_of_ble_eq_true rfl, Nat.le_of_ble_eq_true rfl⟩ rfl rfl (Nat.le_of_ble_eq_true rfl) ⟨Nat.le_of_ble_eq_true rfl, Nat.le_of_ble_eq_true rfl⟩ dX5_read_31 (fun r w1 hp => ?_)
        obtain ⟨rfl, rfl⟩ := hp
        exact g_iret cx gr (Nat.zero_le _) (Nat.zero_le _) dX5_read_34 (xleaf (by rw [sp_read, if_neg c_1, show (nI 0).toNatClampNeg = 0 from rfl, if_pos (ms_1 c_2)]; rfl))
    · refine g_aload_n cx dX5_read_14 0 rfl ?_
      refine g_get (C := RX5) (T := TX5) (N := 8) (v := .ref (a 19)) cx iwX5_read_X5 0 6 rfl rfl (by decide) lkX5_read_44 rfl dX5_read_15 ?_
      refine g_iload_n cx dX5_read_18 1 rfl ?_
      refine g_aald (v := a 22) cx 19 rfl rfl (vp_in_nI (by decide) (by decide)) rfl dX5_read_19 ?_
      refine g_astore_n (lv' := [(3, .ref (a 22)), (0, .ref (a 0)), (1, .int (nI 1)), (2, .int h0)]) cx dX5_read_20 (by decide) rfl ?_
      refine g_aload_n cx dX5_read_21 0 rfl ?_
      refine g_Vi (rest := []) (As := []) (wr := ([0, 1, 2, 3, 4, 5, 6, 7, 8, 9, 10, 11, 12, 13, 14, 15, 16, 17, 18, 19, 20, 21, 24, 25, 26, 27, 28].filterMap (fun i => (xW E a c g)[i]?))) cx hYX1_isMissing gX5_read_X1_isMissing (c_X1_isMissing l E (fun i => a (22 + i)) (c.2.2.2.2.2.1 1, c.2.2.2.2.2.2.1 1, c.2.2.2.2.2.2.2.1 1)  ) rfl rfl rfl [22, 23] [0, 1, 2, 3, 4, 5, 6, 7, 8, 9, 10, 11, 12, 13, 14, 15, 16, 17, 18, 19, 20, 21, 24, 25, 26, 27, 28] rfl rfl rfl rfl (by decide) ⟨Nat.le_of_ble_eq_true rfl, Nat.le_of_ble_eq_true rfl⟩ rfl rfl (Nat.le_of_ble_eq_true rfl) ⟨Nat.le_of_ble_eq_true rfl, Nat.le_of_ble_eq_true rfl⟩ dX5_read_22 (fun r w1 hp => ?_)
      obtain ⟨rfl, rfl⟩ := hp
      refine g_ws (ws' := (xW E a c g)) [0, 1, 2, 3, 4, 5, 6, 7, 8, 9, 10, 11, 12, 13, 14, 15, 16, 17, 18, 19, 20, 21, 27, 28, 22, 23, 24, 25, 26] rfl rfl ?_
      refine g_if_eq (tgt := 35) cx dX5_read_25 (by decide) (fun c_7 => ?_) (fun c_7 => ?_)
      · refine g_iload_n cx dX5_read_35 3 rfl ?_
        refine g_SPi (rest := []) (As := [.int h0]) cx hYX5_isHouse gX5_read_X5_isHouse (c_X5_isHouse l E h0 ) ⟨Nat.le_of_ble_eq_true rfl, Nat.le_of_ble_eq_true rfl⟩ rfl rfl (Nat.le_of_ble_eq_true rfl) ⟨Nat.le_of_ble_eq_true rfl, Nat.le_of_ble_eq_true rfl⟩ dX5_read_36 ?_
        refine g_if_ne (tgt := 49) cx dX5_read_39 (by decide) (fun c_8 => ?_) (fun c_8 => ?_)
        · obtain ⟨Zs0, hZs0, hzs0⟩ := sz_nI (j := 1) hok (by decide)
          refine g_iconst (v := 0) cx dX5_read_49 (by decide) ?_
          refine g_istore (lv' := [(4, .int 0), (3, .ref (a 22)), (0, .ref (a 0)), (1, .int (nI 1)), (2, .int h0)]) cx dX5_read_50 (by decide) rfl ?_
          refine g_iconst (v := 0) cx dX5_read_52 (by decide) ?_
          refine g_istore (lv' := [(5, .int 0), (4, .int 0), (3, .ref (a 22)), (0, .ref (a 0)), (1, .int (nI 1)), (2, .int h0)]) cx dX5_read_53 (by decide) rfl ?_
          have LP55 : ∀ (d1 : Nat) (i : Nat) (x : Int32) (y : Int32) (u : Ter), i + d1 = 7 → i ≤ 6 → x = nI i → y = rdC (c.2.2.2.2.2.2.2.1 1) Zs0 c.1 h0.toNatClampNeg (21 * i) → gG X 0 0 (xW E a c (u, g.2.1, g.2.2.1, g.2.2.2.1, g.2.2.2.2)) 55 [(0, .ref (a 0)), (2, .int h0), (3, .ref (a 22)), (4, .int y), (5, .int x)] [] := by
            intro d1
            induction d1 with
            | zero =>
              intro i x y u hi hiN hx hy
              omega
            | succ d1 ih1 =>
              intro i x y u hi hiN hx hy
              refine g_iload cx dX5_read_55 4 rfl ?_
              refine g_bipush (v := 6) cx dX5_read_57 (by decide) ?_
              refine g_icmp_ge (tgt := 128) cx dX5_read_59 (by decide) (fun c_9 => ?_) (fun c_9 => ?_)
              · refine g_iload cx dX5_read_128 3 rfl ?_
                exact g_iret cx gr (Nat.zero_le _) (Nat.zero_le _) dX5_read_130 (xleaf (by rw [sp_read, if_neg c_1, show (nI 1).toNatClampNeg = 1 from rfl, if_neg (ms_0 c_7), if_neg c_8]; show (rdC _ (c.2.2.2.2.2.2.1 1).toNatClampNeg _ _ 126, c) = _; rw [hzs0, nI_clamp (by omega), hy, show i = 6 by have := ge_of 6 hx c_9 (by omega) (by decide); omega]))
              · refine g_iconst (v := 0) cx dX5_read_62 (by decide) ?_
                refine g_istore (lv' := [(6, .int 0), (0, .ref (a 0)), (2, .int h0), (3, .ref (a 22)), (4, .int y), (5, .int x)]) cx dX5_read_63 (by decide) rfl ?_
                have LP65 : ∀ (d2 : Nat) (j : Nat) (z : Int32) (y2 : Int32) (u2 : Ter), j + d2 = 22 → j ≤ 21 → z = nI j → y2 = rdC (c.2.2.2.2.2.2.2.1 1) Zs0 c.1 h0.toNatClampNeg (21 * i + j) → gG X 0 0 (xW E a c (u2, g.2.1, g.2.2.1, g.2.2.2.1, g.2.2.2.2)) 65 [(0, .ref (a 0)), (2, .int h0), (3, .ref (a 22)), (4, .int y2), (5, .int x), (6, .int z)] [] := by
                  intro d2
                  induction d2 with
                  | zero =>
                    intro j z y2 u2 hj hjN hz2 hy2
                    omega
                  | succ d2 ih2 =>
                    intro j z y2 u2 hj hjN hz2 hy2
                    refine g_iload cx dX5_read_65 5 rfl ?_
                    refine g_bipush (v := 20) cx dX5_read_67 (by decide) ?_
                    refine g_icmp_gt (tgt := 122) cx dX5_read_69 (by decide) (fun c_10 => ?_) (fun c_10 => ?_)
                    · refine g_iinc (v := x + 1) (lv' := [(5, .int (x + 1)), (0, .ref (a 0)), (2, .int h0), (3, .ref (a 22)), (4, .int y2), (6, .int z)]) cx dX5_read_122 4 rfl rfl (by decide) rfl ?_
                      refine g_goto (tgt := 55) cx dX5_read_125 (by decide) ?_
                      exact g_lv [1, 2, 3, 4, 0] rfl (ih1 (i + 1) (x + 1) y2 u2 (by omega) (by have := lt_of 6 hx c_9 (by omega) (by decide); omega) (by rw [hx]; exact nI_1 i) (by rw [hy2, show j = 21 by have := gt_of 20 hz2 c_10 (by omega) (by decide); omega, show 21 * i + 21 = 21 * (i + 1) by omega]))
                    · refine g_aload_n cx dX5_read_72 0 rfl ?_
                      refine g_get (C := RX5) (T := TX5) (N := 8) (v := .ref (a 6)) cx iwX5_read_X5 0 1 rfl rfl (by decide) lkX5_read_16 rfl dX5_read_73 ?_
                      refine g_aload_n cx dX5_read_76 0 rfl ?_
                      refine g_get (C := RX5) (T := TX5) (N := 8) (v := .ref (a 1)) cx iwX5_read_X5 0 0 rfl rfl (by decide) lkX5_read_10 rfl dX5_read_77 ?_
                      refine g_XBtp cx gX5_read_X3_become ⟨Nat.le_of_ble_eq_true rfl, Nat.le_of_ble_eq_true rfl⟩ (Nat.le_of_ble_eq_true rfl) dX5_read_80 ?_ (Nat.zero_le _) (Nat.zero_le _)
                      refine g_aload_n cx dX5_read_83 0 rfl ?_
                      refine g_get (C := RX5) (T := TX5) (N := 8) (v := .ref (a 6)) cx iwX5_read_X5 0 1 rfl rfl (by decide) lkX5_read_16 rfl dX5_read_84 ?_
                      refine g_get (C := RX3) (T := TX3) (N := 11) (v := .ref (a 7)) cx iwX5_read_X3 6 7 rfl rfl (by decide) lkX5_read_110 rfl dX5_read_87 ?_
                      refine g_iload_n cx dX5_read_90 1 rfl ?_
                      refine g_iload cx dX5_read_91 4 rfl ?_
                      refine g_iast (ws' := (xW E a c ((c.1.1, c.1.2.1, c.1.2.2.1, c.1.2.2.2.1, c.1.2.2.2.2.1, c.1.2.2.2.2.2.1, c.1.2.2.2.2.2.2.1, upd c.1.2.2.2.2.2.2.2.1 h0.toNatClampNeg x, c.1.2.2.2.2.2.2.2.2.1, c.1.2.2.2.2.2.2.2.2.2.1, c.1.2.2.2.2.2.2.2.2.2.2), g.2.1, g.2.2.1, g.2.2.2.1, g.2.2.2.2))) cx 7 rfl rfl (isW_vp 7 c_8 (by decide)) dX5_read_93 rfl ?_
                      refine g_aload_n cx dX5_read_94 0 rfl ?_
                      refine g_get (C := RX5) (T := TX5) (N := 8) (v := .ref (a 6)) cx iwX5_read_X5 0 1 rfl rfl (by decide) lkX5_read_16 rfl dX5_read_95 ?_
                      refine g_get (C := RX3) (T := TX3) (N := 11) (v := .ref (a 8)) cx iwX5_read_X3 6 8 rfl rfl (by decide) lkX5_read_113 rfl dX5_read_98 ?_
                      refine g_iload_n cx dX5_read_101 1 rfl ?_
                      refine g_iload cx dX5_read_102 5 rfl ?_
                      refine g_iast (ws' := (xW E a c ((c.1.1, c.1.2.1, c.1.2.2.1, c.1.2.2.2.1, c.1.2.2.2.2.1, c.1.2.2.2.2.2.1, c.1.2.2.2.2.2.2.1, upd c.1.2.2.2.2.2.2.2.1 h0.toNatClampNeg x, upd c.1.2.2.2.2.2.2.2.2.1 h0.toNatClampNeg z, c.1.2.2.2.2.2.2.2.2.2.1, c.1.2.2.2.2.2.2.2.2.2.2), g.2.1, g.2.2.1, g.2.2.2.1, g.2.2.2.2))) cx 8 rfl rfl (isW_vp 7 c_8 (by decide)) dX5_read_104 rfl ?_
                      refine g_aload_n cx dX5_read_105 0 rfl ?_
                      refine g_aload_n cx dX5_read_106 2 rfl ?_
                      refine g_VSi (rest := []) (As := [.ref (a 22)]) cx hYX5_trialRingsAs gX5_read_X5_trialRingsAs (c_X5_tra1 l E a c ((c.1.1, c.1.2.1, c.1.2.2.1, c.1.2.2.2.1, c.1.2.2.2.2.1, c.1.2.2.2.2.2.1, c.1.2.2.2.2.2.2.1, upd c.1.2.2.2.2.2.2.2.1 h0.toNatClampNeg x, upd c.1.2.2.2.2.2.2.2.2.1 h0.toNatClampNeg z, c.1.2.2.2.2.2.2.2.2.2.1, c.1.2.2.2.2.2.2.2.2.2.2), g.2.1, g.2.2.1, g.2.2.2.1, g.2.2.2.2) Zs0 (by exact hok.1.1) hZs0 hzs0) rfl rfl rfl ⟨Nat.le_of_ble_eq_true rfl, Nat.le_of_ble_eq_true rfl⟩ rfl rfl (Nat.le_of_ble_eq_true rfl) ⟨Nat.le_of_ble_eq_true rfl, Nat.le_of_ble_eq_true rfl⟩ dX5_read_107 (fun r w1 hp => ?_)
                      obtain ⟨u9, hr, rfl⟩ := hp
                      rw [hr]
                      refine g_if_eq (tgt := 116) cx dX5_read_110 (by decide) (fun c_11 => ?_) (fun c_11 => ?_)
                      · refine g_iinc (v := z + 1) (lv' := [(6, .int (z + 1)), (0, .ref (a 0)), (2, .int h0), (3, .ref (a 22)), (4, .int y2), (5, .int x)]) cx dX5_read_116 5 rfl rfl (by decide) rfl ?_
                        refine g_goto (tgt := 65) cx dX5_read_119 (by decide) ?_
                        exact g_lv [1, 2, 3, 4, 5, 0] rfl (ih2 (j + 1) (z + 1) y2 _ (by omega) (by have := (le_of 20 hz2 c_10 (by omega) (by decide)); omega) (by rw [hz2]; exact nI_1 j) (rd_s (by have := (le_of 20 hz2 c_10 (by omega) (by decide)); omega) hy2 hx hz2 c_11))
                      · refine g_iinc (v := y2 + 1) (lv' := [(4, .int (y2 + 1)), (0, .ref (a 0)), (2, .int h0), (3, .ref (a 22)), (5, .int x), (6, .int z)]) cx dX5_read_113 3 rfl rfl (by decide) rfl ?_
                        refine g_iinc (v := z + 1) (lv' := [(6, .int (z + 1)), (4, .int (y2 + 1)), (0, .ref (a 0)), (2, .int h0), (3, .ref (a 22)), (5, .int x)]) cx dX5_read_116 5 rfl rfl (by decide) rfl ?_
                        refine g_goto (tgt := 65) cx dX5_read_119 (by decide) ?_
                        exact g_lv [2, 3, 4, 1, 5, 0] rfl (ih2 (j + 1) (z + 1) (y2 + 1) _ (by omega) (by have := (le_of 20 hz2 c_10 (by omega) (by decide)); omega) (by rw [hz2]; exact nI_1 j) (rd_k (by have := (le_of 20 hz2 c_10 (by omega) (by decide)); omega) hy2 hx hz2 c_11))
                exact g_lv [1, 2, 3, 4, 5, 0] rfl (LP65 22 0 0 y u (by omega) (by omega) rfl hy)
          exact g_lv [3, 5, 2, 1, 0] rfl (LP55 7 0 0 0 _ (by omega) (by omega) rfl rfl)
        · refine g_aload_n cx dX5_read_42 1 rfl ?_
          refine g_ldc cx m1X5_read_c61 dX5_read_43 ?_
          refine g_VSi (rest := []) (As := [.int (-1000000001)]) cx hYX5_finding gX5_read_X5_finding (c_X5_finding l E a c g (-1000000001) (by unfold vp_in; decide +kernel)) rfl rfl rfl ⟨Nat.le_of_ble_eq_true rfl, Nat.le_of_ble_eq_true rfl⟩ rfl rfl (Nat.le_of_ble_eq_true rfl) ⟨Nat.le_of_ble_eq_true rfl, Nat.le_of_ble_eq_true rfl⟩ dX5_read_45 (fun r w1 hp => ?_)
          obtain ⟨rfl, rfl⟩ := hp
          exact g_iret cx gr (Nat.zero_le _) (Nat.zero_le _) dX5_read_48 (xleaf (by rw [sp_read, if_neg c_1, show (nI 1).toNatClampNeg = 1 from rfl, if_neg (ms_0 c_7), if_pos c_8]; rfl))
      · refine g_aload_n cx dX5_read_28 1 rfl ?_
        refine g_ldc cx m1X5_read_c211 dX5_read_29 ?_
        refine g_VSi (rest := []) (As := [.int (-1000000006)]) cx hYX5_finding gX5_read_X5_finding (c_X5_finding l E a c g (-1000000006) (by unfold vp_in; decide +kernel)) rfl rfl rfl ⟨Nat.le_of_ble_eq_true rfl, Nat.le_of_ble_eq_true rfl⟩ rfl rfl (Nat.le_of_ble_eq_true rfl) ⟨Nat.le_of_ble_eq_true rfl, Nat.le_of_ble_eq_true rfl⟩ dX5_read_31 (fun r w1 hp => ?_)
        obtain ⟨rfl, rfl⟩ := hp
        exact g_iret cx gr (Nat.zero_le _) (Nat.zero_le _) dX5_read_34 (xleaf (by rw [sp_read, if_neg c_1, show (nI 1).toNatClampNeg = 1 from rfl, if_pos (ms_1 c_7)]; rfl))
    · refine g_aload_n cx dX5_read_14 0 rfl ?_
      refine g_get (C := RX5) (T := TX5) (N := 8) (v := .ref (a 19)) cx iwX5_read_X5 0 6 rfl rfl (by decide) lkX5_read_44 rfl dX5_read_15 ?_
      refine g_iload_n cx dX5_read_18 1 rfl ?_
      refine g_aald (v := a 24) cx 19 rfl rfl (vp_in_nI (by decide) (by decide)) rfl dX5_read_19 ?_
      refine g_astore_n (lv' := [(3, .ref (a 24)), (0, .ref (a 0)), (1, .int (nI 2)), (2, .int h0)]) cx dX5_read_20 (by decide) rfl ?_
      refine g_aload_n cx dX5_read_21 0 rfl ?_
      refine g_Vi (rest := []) (As := []) (wr := ([0, 1, 2, 3, 4, 5, 6, 7, 8, 9, 10, 11, 12, 13, 14, 15, 16, 17, 18, 19, 20, 21, 22, 23, 26, 27, 28].filterMap (fun i => (xW E a c g)[i]?))) cx hYX1_isMissing gX5_read_X1_isMissing (c_X1_isMissing l E (fun i => a (24 + i)) (c.2.2.2.2.2.1 2, c.2.2.2.2.2.2.1 2, c.2.2.2.2.2.2.2.1 2)  ) rfl rfl rfl [24, 25] [0, 1, 2, 3, 4, 5, 6, 7, 8, 9, 10, 11, 12, 13, 14, 15, 16, 17, 18, 19, 20, 21, 22, 23, 26, 27, 28] rfl rfl rfl rfl (by decide) ⟨Nat.le_of_ble_eq_true rfl, Nat.le_of_ble_eq_true rfl⟩ rfl rfl (Nat.le_of_ble_eq_true rfl) ⟨Nat.le_of_ble_eq_true rfl, Nat.le_of_ble_eq_true rfl⟩ dX5_read_22 (fun r w1 hp => ?_)
      obtain ⟨rfl, rfl⟩ := hp
      refine g_ws (ws' := (xW E a c g)) [0, 1, 2, 3, 4, 5, 6, 7, 8, 9, 10, 11, 12, 13, 14, 15, 16, 17, 18, 19, 20, 21, 22, 23, 27, 28, 24, 25, 26] rfl rfl ?_
      refine g_if_eq (tgt := 35) cx dX5_read_25 (by decide) (fun c_12 => ?_) (fun c_12 => ?_)
      · refine g_iload_n cx dX5_read_35 3 rfl ?_
        refine g_SPi (rest := []) (As := [.int h0]) cx hYX5_isHouse gX5_read_X5_isHouse (c_X5_isHouse l E h0 ) ⟨Nat.le_of_ble_eq_true rfl, Nat.le_of_ble_eq_true rfl⟩ rfl rfl (Nat.le_of_ble_eq_true rfl) ⟨Nat.le_of_ble_eq_true rfl, Nat.le_of_ble_eq_true rfl⟩ dX5_read_36 ?_
        refine g_if_ne (tgt := 49) cx dX5_read_39 (by decide) (fun c_13 => ?_) (fun c_13 => ?_)
        · obtain ⟨Zs0, hZs0, hzs0⟩ := sz_nI (j := 2) hok (by decide)
          refine g_iconst (v := 0) cx dX5_read_49 (by decide) ?_
          refine g_istore (lv' := [(4, .int 0), (3, .ref (a 24)), (0, .ref (a 0)), (1, .int (nI 2)), (2, .int h0)]) cx dX5_read_50 (by decide) rfl ?_
          refine g_iconst (v := 0) cx dX5_read_52 (by decide) ?_
          refine g_istore (lv' := [(5, .int 0), (4, .int 0), (3, .ref (a 24)), (0, .ref (a 0)), (1, .int (nI 2)), (2, .int h0)]) cx dX5_read_53 (by decide) rfl ?_
          have LP55 : ∀ (d1 : Nat) (i : Nat) (x : Int32) (y : Int32) (u : Ter), i + d1 = 7 → i ≤ 6 → x = nI i → y = rdC (c.2.2.2.2.2.2.2.1 2) Zs0 c.1 h0.toNatClampNeg (21 * i) → gG X 0 0 (xW E a c (u, g.2.1, g.2.2.1, g.2.2.2.1, g.2.2.2.2)) 55 [(0, .ref (a 0)), (2, .int h0), (3, .ref (a 24)), (4, .int y), (5, .int x)] [] := by
            intro d1
            induction d1 with
            | zero =>
              intro i x y u hi hiN hx hy
              omega
            | succ d1 ih1 =>
              intro i x y u hi hiN hx hy
              refine g_iload cx dX5_read_55 4 rfl ?_
              refine g_bipush (v := 6) cx dX5_read_57 (by decide) ?_
              refine g_icmp_ge (tgt := 128) cx dX5_read_59 (by decide) (fun c_14 => ?_) (fun c_14 => ?_)
              · refine g_iload cx dX5_read_128 3 rfl ?_
                exact g_iret cx gr (Nat.zero_le _) (Nat.zero_le _) dX5_read_130 (xleaf (by rw [sp_read, if_neg c_1, show (nI 2).toNatClampNeg = 2 from rfl, if_neg (ms_0 c_12), if_neg c_13]; show (rdC _ (c.2.2.2.2.2.2.1 2).toNatClampNeg _ _ 126, c) = _; rw [hzs0, nI_clamp (by omega), hy, show i = 6 by have := ge_of 6 hx c_14 (by omega) (by decide); omega]))
              · refine g_iconst (v := 0) cx dX5_read_62 (by decide) ?_
                refine g_istore (lv' := [(6, .int 0), (0, .ref (a 0)), (2, .int h0), (3, .ref (a 24)), (4, .int y), (5, .int x)]) cx dX5_read_63 (by decide) rfl ?_
                have LP65 : ∀ (d2 : Nat) (j : Nat) (z : Int32) (y2 : Int32) (u2 : Ter), j + d2 = 22 → j ≤ 21 → z = nI j → y2 = rdC (c.2.2.2.2.2.2.2.1 2) Zs0 c.1 h0.toNatClampNeg (21 * i + j) → gG X 0 0 (xW E a c (u2, g.2.1, g.2.2.1, g.2.2.2.1, g.2.2.2.2)) 65 [(0, .ref (a 0)), (2, .int h0), (3, .ref (a 24)), (4, .int y2), (5, .int x), (6, .int z)] [] := by
                  intro d2
                  induction d2 with
                  | zero =>
                    intro j z y2 u2 hj hjN hz2 hy2
                    omega
                  | succ d2 ih2 =>
                    intro j z y2 u2 hj hjN hz2 hy2
                    refine g_iload cx dX5_read_65 5 rfl ?_
                    refine g_bipush (v := 20) cx dX5_read_67 (by decide) ?_
                    refine g_icmp_gt (tgt := 122) cx dX5_read_69 (by decide) (fun c_15 => ?_) (fun c_15 => ?_)
                    · refine g_iinc (v := x + 1) (lv' := [(5, .int (x + 1)), (0, .ref (a 0)), (2, .int h0), (3, .ref (a 24)), (4, .int y2), (6, .int z)]) cx dX5_read_122 4 rfl rfl (by decide) rfl ?_
                      refine g_goto (tgt := 55) cx dX5_read_125 (by decide) ?_
                      exact g_lv [1, 2, 3, 4, 0] rfl (ih1 (i + 1) (x + 1) y2 u2 (by omega) (by have := lt_of 6 hx c_14 (by omega) (by decide); omega) (by rw [hx]; exact nI_1 i) (by rw [hy2, show j = 21 by have := gt_of 20 hz2 c_15 (by omega) (by decide); omega, show 21 * i + 21 = 21 * (i + 1) by omega]))
                    · refine g_aload_n cx dX5_read_72 0 rfl ?_
                      refine g_get (C := RX5) (T := TX5) (N := 8) (v := .ref (a 6)) cx iwX5_read_X5 0 1 rfl rfl (by decide) lkX5_read_16 rfl dX5_read_73 ?_
                      refine g_aload_n cx dX5_read_76 0 rfl ?_
                      refine g_get (C := RX5) (T := TX5) (N := 8) (v := .ref (a 1)) cx iwX5_read_X5 0 0 rfl rfl (by decide) lkX5_read_10 rfl dX5_read_77 ?_
                      refine g_XBtp cx gX5_read_X3_become ⟨Nat.le_of_ble_eq_true rfl, Nat.le_of_ble_eq_true rfl⟩ (Nat.le_of_ble_eq_true rfl) dX5_read_80 ?_ (Nat.zero_le _) (Nat.zero_le _)
                      refine g_aload_n cx dX5_read_83 0 rfl ?_
                      refine g_get (C := RX5) (T := TX5) (N := 8) (v := .ref (a 6)) cx iwX5_read_X5 0 1 rfl rfl (by decide) lkX5_read_16 rfl dX5_read_84 ?_
                      refine g_get (C := RX3) (T := TX3) (N := 11) (v := .ref (a 7)) cx iwX5_read_X3 6 7 rfl rfl (by decide) lkX5_read_110 rfl dX5_read_87 ?_
                      refine g_iload_n cx dX5_read_90 1 rfl ?_
                      refine g_iload cx dX5_read_91 4 rfl ?_
                      refine g_iast (ws' := (xW E a c ((c.1.1, c.1.2.1, c.1.2.2.1, c.1.2.2.2.1, c.1.2.2.2.2.1, c.1.2.2.2.2.2.1, c.1.2.2.2.2.2.2.1, upd c.1.2.2.2.2.2.2.2.1 h0.toNatClampNeg x, c.1.2.2.2.2.2.2.2.2.1, c.1.2.2.2.2.2.2.2.2.2.1, c.1.2.2.2.2.2.2.2.2.2.2), g.2.1, g.2.2.1, g.2.2.2.1, g.2.2.2.2))) cx 7 rfl rfl (isW_vp 7 c_13 (by decide)) dX5_read_93 rfl ?_
                      refine g_aload_n cx dX5_read_94 0 rfl ?_
                      refine g_get (C := RX5) (T := TX5) (N := 8) (v := .ref (a 6)) cx iwX5_read_X5 0 1 rfl rfl (by decide) lkX5_read_16 rfl dX5_read_95 ?_
                      refine g_get (C := RX3) (T := TX3) (N := 11) (v := .ref (a 8)) cx iwX5_read_X3 6 8 rfl rfl (by decide) lkX5_read_113 rfl dX5_read_98 ?_
                      refine g_iload_n cx dX5_read_101 1 rfl ?_
                      refine g_iload cx dX5_read_102 5 rfl ?_
                      refine g_iast (ws' := (xW E a c ((c.1.1, c.1.2.1, c.1.2.2.1, c.1.2.2.2.1, c.1.2.2.2.2.1, c.1.2.2.2.2.2.1, c.1.2.2.2.2.2.2.1, upd c.1.2.2.2.2.2.2.2.1 h0.toNatClampNeg x, upd c.1.2.2.2.2.2.2.2.2.1 h0.toNatClampNeg z, c.1.2.2.2.2.2.2.2.2.2.1, c.1.2.2.2.2.2.2.2.2.2.2), g.2.1, g.2.2.1, g.2.2.2.1, g.2.2.2.2))) cx 8 rfl rfl (isW_vp 7 c_13 (by decide)) dX5_read_104 rfl ?_
                      refine g_aload_n cx dX5_read_105 0 rfl ?_
                      refine g_aload_n cx dX5_read_106 2 rfl ?_
                      refine g_VSi (rest := []) (As := [.ref (a 24)]) cx hYX5_trialRingsAs gX5_read_X5_trialRingsAs (c_X5_tra2 l E a c ((c.1.1, c.1.2.1, c.1.2.2.1, c.1.2.2.2.1, c.1.2.2.2.2.1, c.1.2.2.2.2.2.1, c.1.2.2.2.2.2.2.1, upd c.1.2.2.2.2.2.2.2.1 h0.toNatClampNeg x, upd c.1.2.2.2.2.2.2.2.2.1 h0.toNatClampNeg z, c.1.2.2.2.2.2.2.2.2.2.1, c.1.2.2.2.2.2.2.2.2.2.2), g.2.1, g.2.2.1, g.2.2.2.1, g.2.2.2.2) Zs0 (by exact hok.1.1) hZs0 hzs0) rfl rfl rfl ⟨Nat.le_of_ble_eq_true rfl, Nat.le_of_ble_eq_true rfl⟩ rfl rfl (Nat.le_of_ble_eq_true rfl) ⟨Nat.le_of_ble_eq_true rfl, Nat.le_of_ble_eq_true rfl⟩ dX5_read_107 (fun r w1 hp => ?_)
                      obtain ⟨u9, hr, rfl⟩ := hp
                      rw [hr]
                      refine g_if_eq (tgt := 116) cx dX5_read_110 (by decide) (fun c_16 => ?_) (fun c_16 => ?_)
                      · refine g_iinc (v := z + 1) (lv' := [(6, .int (z + 1)), (0, .ref (a 0)), (2, .int h0), (3, .ref (a 24)), (4, .int y2), (5, .int x)]) cx dX5_read_116 5 rfl rfl (by decide) rfl ?_
                        refine g_goto (tgt := 65) cx dX5_read_119 (by decide) ?_
                        exact g_lv [1, 2, 3, 4, 5, 0] rfl (ih2 (j + 1) (z + 1) y2 _ (by omega) (by have := (le_of 20 hz2 c_15 (by omega) (by decide)); omega) (by rw [hz2]; exact nI_1 j) (rd_s (by have := (le_of 20 hz2 c_15 (by omega) (by decide)); omega) hy2 hx hz2 c_16))
                      · refine g_iinc (v := y2 + 1) (lv' := [(4, .int (y2 + 1)), (0, .ref (a 0)), (2, .int h0), (3, .ref (a 24)), (5, .int x), (6, .int z)]) cx dX5_read_113 3 rfl rfl (by decide) rfl ?_
                        refine g_iinc (v := z + 1) (lv' := [(6, .int (z + 1)), (4, .int (y2 + 1)), (0, .ref (a 0)), (2, .int h0), (3, .ref (a 24)), (5, .int x)]) cx dX5_read_116 5 rfl rfl (by decide) rfl ?_
                        refine g_goto (tgt := 65) cx dX5_read_119 (by decide) ?_
                        exact g_lv [2, 3, 4, 1, 5, 0] rfl (ih2 (j + 1) (z + 1) (y2 + 1) _ (by omega) (by have := (le_of 20 hz2 c_15 (by omega) (by decide)); omega) (by rw [hz2]; exact nI_1 j) (rd_k (by have := (le_of 20 hz2 c_15 (by omega) (by decide)); omega) hy2 hx hz2 c_16))
                exact g_lv [1, 2, 3, 4, 5, 0] rfl (LP65 22 0 0 y u (by omega) (by omega) rfl hy)
          exact g_lv [3, 5, 2, 1, 0] rfl (LP55 7 0 0 0 _ (by omega) (by omega) rfl rfl)
        · refine g_aload_n cx dX5_read_42 1 rfl ?_
          refine g_ldc cx m1X5_read_c61 dX5_read_43 ?_
          refine g_VSi (rest := []) (As := [.int (-1000000001)]) cx hYX5_finding gX5_read_X5_finding (c_X5_finding l E a c g (-1000000001) (by unfold vp_in; decide +kernel)) rfl rfl rfl ⟨Nat.le_of_ble_eq_true rfl, Nat.le_of_ble_eq_true rfl⟩ rfl rfl (Nat.le_of_ble_eq_true rfl) ⟨Nat.le_of_ble_eq_true rfl, Nat.le_of_ble_eq_true rfl⟩ dX5_read_45 (fun r w1 hp => ?_)
          obtain ⟨rfl, rfl⟩ := hp
          exact g_iret cx gr (Nat.zero_le _) (Nat.zero_le _) dX5_read_48 (xleaf (by rw [sp_read, if_neg c_1, show (nI 2).toNatClampNeg = 2 from rfl, if_neg (ms_0 c_12), if_pos c_13]; rfl))
      · refine g_aload_n cx dX5_read_28 1 rfl ?_
        refine g_ldc cx m1X5_read_c211 dX5_read_29 ?_
        refine g_VSi (rest := []) (As := [.int (-1000000006)]) cx hYX5_finding gX5_read_X5_finding (c_X5_finding l E a c g (-1000000006) (by unfold vp_in; decide +kernel)) rfl rfl rfl ⟨Nat.le_of_ble_eq_true rfl, Nat.le_of_ble_eq_true rfl⟩ rfl rfl (Nat.le_of_ble_eq_true rfl) ⟨Nat.le_of_ble_eq_true rfl, Nat.le_of_ble_eq_true rfl⟩ dX5_read_31 (fun r w1 hp => ?_)
        obtain ⟨rfl, rfl⟩ := hp
        exact g_iret cx gr (Nat.zero_le _) (Nat.zero_le _) dX5_read_34 (xleaf (by rw [sp_read, if_neg c_1, show (nI 2).toNatClampNeg = 2 from rfl, if_pos (ms_1 c_12)]; rfl))
    · refine g_aload_n cx dX5_read_14 0 rfl ?_
      refine g_get (C := RX5) (T := TX5) (N := 8) (v := .ref (a 19)) cx iwX5_read_X5 0 6 rfl rfl (by decide) lkX5_read_44 rfl dX5_read_15 ?_
      refine g_iload_n cx dX5_read_18 1 rfl ?_
      refine g_aald (v := a 26) cx 19 rfl rfl (vp_in_nI (by decide) (by decide)) rfl dX5_read_19 ?_
      refine g_astore_n (lv' := [(3, .ref (a 26)), (0, .ref (a 0)), (1, .int (nI 3)), (2, .int h0)]) cx dX5_read_20 (by decide) rfl ?_
      refine g_aload_n cx dX5_read_21 0 rfl ?_
      refine g_Vi (rest := []) (As := []) (wr := ([0, 1, 2, 3, 4, 5, 6, 7, 8, 9, 10, 11, 12, 13, 14, 15, 16, 17, 18, 19, 20, 21, 22, 23, 24, 25, 28].filterMap (fun i => (xW E a c g)[i]?))) cx hYX1_isMissing gX5_read_X1_isMissing (c_X1_isMissing l E (fun i => a (26 + i)) (c.2.2.2.2.2.1 3, c.2.2.2.2.2.2.1 3, c.2.2.2.2.2.2.2.1 3)  ) rfl rfl rfl [26, 27] [0, 1, 2, 3, 4, 5, 6, 7, 8, 9, 10, 11, 12, 13, 14, 15, 16, 17, 18, 19, 20, 21, 22, 23, 24, 25, 28] rfl rfl rfl rfl (by decide) ⟨Nat.le_of_ble_eq_true rfl, Nat.le_of_ble_eq_true rfl⟩ rfl rfl (Nat.le_of_ble_eq_true rfl) ⟨Nat.le_of_ble_eq_true rfl, Nat.le_of_ble_eq_true rfl⟩ dX5_read_22 (fun r w1 hp => ?_)
      obtain ⟨rfl, rfl⟩ := hp
      refine g_ws (ws' := (xW E a c g)) [0, 1, 2, 3, 4, 5, 6, 7, 8, 9, 10, 11, 12, 13, 14, 15, 16, 17, 18, 19, 20, 21, 22, 23, 24, 25, 27, 28, 26] rfl rfl ?_
      refine g_if_eq (tgt := 35) cx dX5_read_25 (by decide) (fun c_17 => ?_) (fun c_17 => ?_)
      · refine g_iload_n cx dX5_read_35 3 rfl ?_
        refine g_SPi (rest := []) (As := [.int h0]) cx hYX5_isHouse gX5_read_X5_isHouse (c_X5_isHouse l E h0 ) ⟨Nat.le_of_ble_eq_true rfl, Nat.le_of_ble_eq_true rfl⟩ rfl rfl (Nat.le_of_ble_eq_true rfl) ⟨Nat.le_of_ble_eq_true rfl, Nat.le_of_ble_eq_true rfl⟩ dX5_read_36 ?_
        refine g_if_ne (tgt := 49) cx dX5_read_39 (by decide) (fun c_18 => ?_) (fun c_18 => ?_)
        · obtain ⟨Zs0, hZs0, hzs0⟩ := sz_nI (j := 3) hok (by decide)
          refine g_iconst (v := 0) cx dX5_read_49 (by decide) ?_
          refine g_istore (lv' := [(4, .int 0), (3, .ref (a 26)), (0, .ref (a 0)), (1, .int (nI 3)), (2, .int h0)]) cx dX5_read_50 (by decide) rfl ?_
          refine g_iconst (v := 0) cx dX5_read_52 (by decide) ?_
          refine g_istore (lv' := [(5, .int 0), (4, .int 0), (3, .ref (a 26)), (0, .ref (a 0)), (1, .int (nI 3)), (2, .int h0)]) cx dX5_read_53 (by decide) rfl ?_
          have LP55 : ∀ (d1 : Nat) (i : Nat) (x : Int32) (y : Int32) (u : Ter), i + d1 = 7 → i ≤ 6 → x = nI i → y = rdC (c.2.2.2.2.2.2.2.1 3) Zs0 c.1 h0.toNatClampNeg (21 * i) → gG X 0 0 (xW E a c (u, g.2.1, g.2.2.1, g.2.2.2.1, g.2.2.2.2)) 55 [(0, .ref (a 0)), (2, .int h0), (3, .ref (a 26)), (4, .int y), (5, .int x)] [] := by
            intro d1
            induction d1 with
            | zero =>
              intro i x y u hi hiN hx hy
              omega
            | succ d1 ih1 =>
              intro i x y u hi hiN hx hy
              refine g_iload cx dX5_read_55 4 rfl ?_
              refine g_bipush (v := 6) cx dX5_read_57 (by decide) ?_
              refine g_icmp_ge (tgt := 128) cx dX5_read_59 (by decide) (fun c_19 => ?_) (fun c_19 => ?_)
              · refine g_iload cx dX5_read_128 3 rfl ?_
                exact g_iret cx gr (Nat.zero_le _) (Nat.zero_le _) dX5_read_130 (xleaf (by rw [sp_read, if_neg c_1, show (nI 3).toNatClampNeg = 3 from rfl, if_neg (ms_0 c_17), if_neg c_18]; show (rdC _ (c.2.2.2.2.2.2.1 3).toNatClampNeg _ _ 126, c) = _; rw [hzs0, nI_clamp (by omega), hy, show i = 6 by have := ge_of 6 hx c_19 (by omega) (by decide); omega]))
              · refine g_iconst (v := 0) cx dX5_read_62 (by decide) ?_
                refine g_istore (lv' := [(6, .int 0), (0, .ref (a 0)), (2, .int h0), (3, .ref (a 26)), (4, .int y), (5, .int x)]) cx dX5_read_63 (by decide) rfl ?_
                have LP65 : ∀ (d2 : Nat) (j : Nat) (z : Int32) (y2 : Int32) (u2 : Ter), j + d2 = 22 → j ≤ 21 → z = nI j → y2 = rdC (c.2.2.2.2.2.2.2.1 3) Zs0 c.1 h0.toNatClampNeg (21 * i + j) → gG X 0 0 (xW E a c (u2, g.2.1, g.2.2.1, g.2.2.2.1, g.2.2.2.2)) 65 [(0, .ref (a 0)), (2, .int h0), (3, .ref (a 26)), (4, .int y2), (5, .int x), (6, .int z)] [] := by
                  intro d2
                  induction d2 with
                  | zero =>
                    intro j z y2 u2 hj hjN hz2 hy2
                    omega
                  | succ d2 ih2 =>
                    intro j z y2 u2 hj hjN hz2 hy2
                    refine g_iload cx dX5_read_65 5 rfl ?_
                    refine g_bipush (v := 20) cx dX5_read_67 (by decide) ?_
                    refine g_icmp_gt (tgt := 122) cx dX5_read_69 (by decide) (fun c_20 => ?_) (fun c_20 => ?_)
                    · refine g_iinc (v := x + 1) (lv' := [(5, .int (x + 1)), (0, .ref (a 0)), (2, .int h0), (3, .ref (a 26)), (4, .int y2), (6, .int z)]) cx dX5_read_122 4 rfl rfl (by decide) rfl ?_
                      refine g_goto (tgt := 55) cx dX5_read_125 (by decide) ?_
                      exact g_lv [1, 2, 3, 4, 0] rfl (ih1 (i + 1) (x + 1) y2 u2 (by omega) (by have := lt_of 6 hx c_19 (by omega) (by decide); omega) (by rw [hx]; exact nI_1 i) (by rw [hy2, show j = 21 by have := gt_of 20 hz2 c_20 (by omega) (by decide); omega, show 21 * i + 21 = 21 * (i + 1) by omega]))
                    · refine g_aload_n cx dX5_read_72 0 rfl ?_
                      refine g_get (C := RX5) (T := TX5) (N := 8) (v := .ref (a 6)) cx iwX5_read_X5 0 1 rfl rfl (by decide) lkX5_read_16 rfl dX5_read_73 ?_
                      refine g_aload_n cx dX5_read_76 0 rfl ?_
                      refine g_get (C := RX5) (T := TX5) (N := 8) (v := .ref (a 1)) cx iwX5_read_X5 0 0 rfl rfl (by decide) lkX5_read_10 rfl dX5_read_77 ?_
                      refine g_XBtp cx gX5_read_X3_become ⟨Nat.le_of_ble_eq_true rfl, Nat.le_of_ble_eq_true rfl⟩ (Nat.le_of_ble_eq_true rfl) dX5_read_80 ?_ (Nat.zero_le _) (Nat.zero_le _)
                      refine g_aload_n cx dX5_read_83 0 rfl ?_
                      refine g_get (C := RX5) (T := TX5) (N := 8) (v := .ref (a 6)) cx iwX5_read_X5 0 1 rfl rfl (by decide) lkX5_read_16 rfl dX5_read_84 ?_
                      refine g_get (C := RX3) (T := TX3) (N := 11) (v := .ref (a 7)) cx iwX5_read_X3 6 7 rfl rfl (by decide) lkX5_read_110 rfl dX5_read_87 ?_
                      refine g_iload_n cx dX5_read_90 1 rfl ?_
                      refine g_iload cx dX5_read_91 4 rfl ?_
                      refine g_iast (ws' := (xW E a c ((c.1.1, c.1.2.1, c.1.2.2.1, c.1.2.2.2.1, c.1.2.2.2.2.1, c.1.2.2.2.2.2.1, c.1.2.2.2.2.2.2.1, upd c.1.2.2.2.2.2.2.2.1 h0.toNatClampNeg x, c.1.2.2.2.2.2.2.2.2.1, c.1.2.2.2.2.2.2.2.2.2.1, c.1.2.2.2.2.2.2.2.2.2.2), g.2.1, g.2.2.1, g.2.2.2.1, g.2.2.2.2))) cx 7 rfl rfl (isW_vp 7 c_18 (by decide)) dX5_read_93 rfl ?_
                      refine g_aload_n cx dX5_read_94 0 rfl ?_
                      refine g_get (C := RX5) (T := TX5) (N := 8) (v := .ref (a 6)) cx iwX5_read_X5 0 1 rfl rfl (by decide) lkX5_read_16 rfl dX5_read_95 ?_
                      refine g_get (C := RX3) (T := TX3) (N := 11) (v := .ref (a 8)) cx iwX5_read_X3 6 8 rfl rfl (by decide) lkX5_read_113 rfl dX5_read_98 ?_
                      refine g_iload_n cx dX5_read_101 1 rfl ?_
                      refine g_iload cx dX5_read_102 5 rfl ?_
                      refine g_iast (ws' := (xW E a c ((c.1.1, c.1.2.1, c.1.2.2.1, c.1.2.2.2.1, c.1.2.2.2.2.1, c.1.2.2.2.2.2.1, c.1.2.2.2.2.2.2.1, upd c.1.2.2.2.2.2.2.2.1 h0.toNatClampNeg x, upd c.1.2.2.2.2.2.2.2.2.1 h0.toNatClampNeg z, c.1.2.2.2.2.2.2.2.2.2.1, c.1.2.2.2.2.2.2.2.2.2.2), g.2.1, g.2.2.1, g.2.2.2.1, g.2.2.2.2))) cx 8 rfl rfl (isW_vp 7 c_18 (by decide)) dX5_read_104 rfl ?_
                      refine g_aload_n cx dX5_read_105 0 rfl ?_
                      refine g_aload_n cx dX5_read_106 2 rfl ?_
                      refine g_VSi (rest := []) (As := [.ref (a 26)]) cx hYX5_trialRingsAs gX5_read_X5_trialRingsAs (c_X5_tra3 l E a c ((c.1.1, c.1.2.1, c.1.2.2.1, c.1.2.2.2.1, c.1.2.2.2.2.1, c.1.2.2.2.2.2.1, c.1.2.2.2.2.2.2.1, upd c.1.2.2.2.2.2.2.2.1 h0.toNatClampNeg x, upd c.1.2.2.2.2.2.2.2.2.1 h0.toNatClampNeg z, c.1.2.2.2.2.2.2.2.2.2.1, c.1.2.2.2.2.2.2.2.2.2.2), g.2.1, g.2.2.1, g.2.2.2.1, g.2.2.2.2) Zs0 (by exact hok.1.1) hZs0 hzs0) rfl rfl rfl ⟨Nat.le_of_ble_eq_true rfl, Nat.le_of_ble_eq_true rfl⟩ rfl rfl (Nat.le_of_ble_eq_true rfl) ⟨Nat.le_of_ble_eq_true rfl, Nat.le_of_ble_eq_true rfl⟩ dX5_read_107 (fun r w1 hp => ?_)
                      obtain ⟨u9, hr, rfl⟩ := hp
                      rw [hr]
                      refine g_if_eq (tgt := 116) cx dX5_read_110 (by decide) (fun c_21 => ?_) (fun c_21 => ?_)
                      · refine g_iinc (v := z + 1) (lv' := [(6, .int (z + 1)), (0, .ref (a 0)), (2, .int h0), (3, .ref (a 26)), (4, .int y2), (5, .int x)]) cx dX5_read_116 5 rfl rfl (by decide) rfl ?_
                        refine g_goto (tgt := 65) cx dX5_read_119 (by decide) ?_
                        exact g_lv [1, 2, 3, 4, 5, 0] rfl (ih2 (j + 1) (z + 1) y2 _ (by omega) (by have := (le_of 20 hz2 c_20 (by omega) (by decide)); omega) (by rw [hz2]; exact nI_1 j) (rd_s (by have := (le_of 20 hz2 c_20 (by omega) (by decide)); omega) hy2 hx hz2 c_21))
                      · refine g_iinc (v := y2 + 1) (lv' := [(4, .int (y2 + 1)), (0, .ref (a 0)), (2, .int h0), (3, .ref (a 26)), (5, .int x), (6, .int z)]) cx dX5_read_113 3 rfl rfl (by decide) rfl ?_
                        refine g_iinc (v := z + 1) (lv' := [(6, .int (z + 1)), (4, .int (y2 + 1)), (0, .ref (a 0)), (2, .int h0), (3, .ref (a 26)), (5, .int x)]) cx dX5_read_116 5 rfl rfl (by decide) rfl ?_
                        refine g_goto (tgt := 65) cx dX5_read_119 (by decide) ?_
                        exact g_lv [2, 3, 4, 1, 5, 0] rfl (ih2 (j + 1) (z + 1) (y2 + 1) _ (by omega) (by have := (le_of 20 hz2 c_20 (by omega) (by decide)); omega) (by rw [hz2]; exact nI_1 j) (rd_k (by have := (le_of 20 hz2 c_20 (by omega) (by decide)); omega) hy2 hx hz2 c_21))
                exact g_lv [1, 2, 3, 4, 5, 0] rfl (LP65 22 0 0 y u (by omega) (by omega) rfl hy)
          exact g_lv [3, 5, 2, 1, 0] rfl (LP55 7 0 0 0 _ (by omega) (by omega) rfl rfl)
        · refine g_aload_n cx dX5_read_42 1 rfl ?_
          refine g_ldc cx m1X5_read_c61 dX5_read_43 ?_
          refine g_VSi (rest := []) (As := [.int (-1000000001)]) cx hYX5_finding gX5_read_X5_finding (c_X5_finding l E a c g (-1000000001) (by unfold vp_in; decide +kernel)) rfl rfl rfl ⟨Nat.le_of_ble_eq_true rfl, Nat.le_of_ble_eq_true rfl⟩ rfl rfl (Nat.le_of_ble_eq_true rfl) ⟨Nat.le_of_ble_eq_true rfl, Nat.le_of_ble_eq_true rfl⟩ dX5_read_45 (fun r w1 hp => ?_)
          obtain ⟨rfl, rfl⟩ := hp
          exact g_iret cx gr (Nat.zero_le _) (Nat.zero_le _) dX5_read_48 (xleaf (by rw [sp_read, if_neg c_1, show (nI 3).toNatClampNeg = 3 from rfl, if_neg (ms_0 c_17), if_pos c_18]; rfl))
      · refine g_aload_n cx dX5_read_28 1 rfl ?_
        refine g_ldc cx m1X5_read_c211 dX5_read_29 ?_
        refine g_VSi (rest := []) (As := [.int (-1000000006)]) cx hYX5_finding gX5_read_X5_finding (c_X5_finding l E a c g (-1000000006) (by unfold vp_in; decide +kernel)) rfl rfl rfl ⟨Nat.le_of_ble_eq_true rfl, Nat.le_of_ble_eq_true rfl⟩ rfl rfl (Nat.le_of_ble_eq_true rfl) ⟨Nat.le_of_ble_eq_true rfl, Nat.le_of_ble_eq_true rfl⟩ dX5_read_31 (fun r w1 hp => ?_)
        obtain ⟨rfl, rfl⟩ := hp
        exact g_iret cx gr (Nat.zero_le _) (Nat.zero_le _) dX5_read_34 (xleaf (by rw [sp_read, if_neg c_1, show (nI 3).toNatClampNeg = 3 from rfl, if_pos (ms_1 c_17)]; rfl))
  · refine g_aload_n cx dX5_read_7 0 rfl ?_
    refine g_ldc cx m1X5_read_c61 dX5_read_8 ?_
    refine g_VSi (rest := []) (As := [.int (-1000000001)]) cx hYX5_finding gX5_read_X5_finding (c_X5_finding l E a c g (-1000000001) (by unfold vp_in; decide +kernel)) rfl rfl rfl ⟨Nat.le_of_ble_eq_true rfl, Nat.le_of_ble_eq_true rfl⟩ rfl rfl (Nat.le_of_ble_eq_true rfl) ⟨Nat.le_of_ble_eq_true rfl, Nat.le_of_ble_eq_true rfl⟩ dX5_read_10 (fun r w1 hp => ?_)
    obtain ⟨rfl, rfl⟩ := hp
    exact g_iret cx gr (Nat.zero_le _) (Nat.zero_le _) dX5_read_13 (xleaf (by rw [sp_read, if_pos c_1]; rfl))
