theorem copy_st {f g : Nat → Int32} {i : Nat} {x : Int32} (hx : x = nI i) (hi : i < 2 ^ 31) : tPut (dec (fil f g i)) x.toNatClampNeg (f x.toNatClampNeg) = dec (fil f g (i + 1)) := by
  rw [hx, nI_clamp hi]
  unfold tPut
  rw [enc_dec, fil_up]
theorem copy_0 (t u : Ter) : u = dec (fil (enc t) (enc u) 0) := by rw [fil_0, dec_enc]

abbrev rmX6_saves : Room := { frames := 0, cells := 0, slots := 0, locals := 0 }
theorem hYX6_saves : gY yX6_saves wsX6_saves cX6_saves 2 (none) 0 := ⟨⟨_, rfl⟩, by decide +kernel, by decide +kernel, by decide +kernel⟩
theorem iwX6_saves_X6 : ∀ w ∈ u_ws RX6 TX6 16, w ∈ wsX6_saves := by decide +kernel
theorem lkX6_saves_16 : Cond.fieldLink RX6 16 "MuffinBellsModel" "other" "[I" ∈ wsX6_saves := by decide +kernel
theorem lkX6_saves_7 : Cond.fieldLink RX6 7 "MuffinBellsModel" "s" "[I" ∈ wsX6_saves := by decide +kernel
set_option maxRecDepth 100000 in
set_option maxHeartbeats 4000000 in
theorem c_X6_saves (l : Launch) (E : gE) (a : Nat → Nat) (c : Cor) (h : Mar) : ctv l yX6_saves wsX6_saves rmX6_saves E [.ref (a 0)] (mW E a c h) (fun w => w = (mW E a c (c.1, h.2.1, h.2.2.1, h.2.2.2.1, h.2.2.2.2.1, h.2.2.2.2.2.1, h.2.2.2.2.2.2))) := by
  refine mt_v (cc := cX6_saves) (maxL := 2) (ret := none) (lv0 := [(0, .ref (a 0))]) (by decide) rfl rfl (Nat.le_of_ble_eq_true rfl) (fun X cx gr hI => ?_)
  refine g_iconst (v := 0) cx dX6_saves_0 (by decide) ?_
  refine g_istore_n (lv' := [(1, .int 0), (0, .ref (a 0))]) cx dX6_saves_1 (by decide) rfl ?_
  have LP2 : ∀ (d : Nat) (i : Nat) (x : Int32), i + d = 40 → i ≤ 39 → x = nI i → gG X 0 0 (mW E a c ((dec (fil (enc c.1) (enc h.1) i)), h.2.1, h.2.2.1, h.2.2.2.1, h.2.2.2.2.1, h.2.2.2.2.2.1, h.2.2.2.2.2.2)) 2 [(0, .ref (a 0)), (1, .int x)] [] := by
    intro d
    induction d with
    | zero =>
      intro i x hi hiN hx
      omega
    | succ d ih =>
      intro i x hi hiN hx
      refine g_iload_n cx dX6_saves_2 1 rfl ?_
      refine g_bipush (v := 39) cx dX6_saves_3 (by decide) ?_
      refine g_icmp_ge (tgt := 26) cx dX6_saves_5 (by decide) (fun c_1 => ?_) (fun c_1 => ?_)
      · obtain rfl : i = 39 := by have := ge_of 39 hx c_1 (by omega) (by decide); omega
        refine g_cgI (ws' := (mW E a c (c.1, h.2.1, h.2.2.1, h.2.2.2.1, h.2.2.2.2.1, h.2.2.2.2.2.1, h.2.2.2.2.2.2))) (g := enc c.1) 3 rfl (fun j hj => by rw [enc_dec]; exact fil_in hj) rfl ?_
        exact g_vret cx gr (Nat.zero_le _) (Nat.zero_le _) dX6_saves_26 (by first | rfl | simp only [c_1, if_true, if_false, ite_true, ite_false, not_true_eq_false, not_false_eq_true])
      · refine g_aload_n cx dX6_saves_8 0 rfl ?_
        refine g_get (C := RX6) (T := TX6) (N := 16) (v := .ref (a 3)) cx iwX6_saves_X6 0 2 rfl rfl (by decide) lkX6_saves_16 rfl dX6_saves_9 ?_
        refine g_iload_n cx dX6_saves_12 1 rfl ?_
        refine g_aload_n cx dX6_saves_13 0 rfl ?_
        refine g_get (C := RX6) (T := TX6) (N := 16) (v := .ref (a 1)) cx iwX6_saves_X6 0 0 rfl rfl (by decide) lkX6_saves_7 rfl dX6_saves_14 ?_
        refine g_iload_n cx dX6_saves_17 1 rfl ?_
        refine g_iald cx 1 rfl rfl (vp_of_nI hx (by have := lt_of 39 hx c_1 (by omega) (by decide); omega) (by decide)) dX6_saves_18 ?_
        refine g_iast (ws' := (mW E a c ((tPut (dec (fil (enc c.1) (enc h.1) i)) x.toNatClampNeg ((enc c.1) (x.toNatClampNeg))), h.2.1, h.2.2.1, h.2.2.2.1, h.2.2.2.2.1, h.2.2.2.2.2.1, h.2.2.2.2.2.2))) cx 3 rfl rfl (vp_of_nI hx (by have := lt_of 39 hx c_1 (by omega) (by decide); omega) (by decide)) dX6_saves_19 (congrArg (fun f => List.set (mW E a c ((dec (fil (enc c.1) (enc h.1) i)), h.2.1, h.2.2.1, h.2.2.2.1, h.2.2.2.2.1, h.2.2.2.2.2.1, h.2.2.2.2.2.2)) 3 (a 3, .inl (gI E, 39, .inl f))) (enc_put (dec (fil (enc c.1) (enc h.1) i)) x.toNatClampNeg ((enc c.1) (x.toNatClampNeg)))) ?_
        refine g_iinc (v := x + 1) (lv' := [(1, .int (x + 1)), (0, .ref (a 0))]) cx dX6_saves_20 1 rfl rfl (by decide) rfl ?_
        refine g_goto (tgt := 2) cx dX6_saves_23 (by decide) ?_
        exact g_lv [1, 0] rfl (g_w (congrArg (fun T : Ter => (mW E a c (T, h.2.1, h.2.2.1, h.2.2.2.1, h.2.2.2.2.1, h.2.2.2.2.2.1, h.2.2.2.2.2.2))) (copy_st hx (by omega))) (ih (i + 1) (x + 1) (by omega) (by have := lt_of 39 hx c_1 (by omega) (by decide); omega) (by rw [hx]; exact nI_1 i)))
  refine g_w (congrArg (fun T : Ter => (mW E a c (T, h.2.1, h.2.2.1, h.2.2.2.1, h.2.2.2.2.1, h.2.2.2.2.2.1, h.2.2.2.2.2.2))) (copy_0 c.1 h.1)) ?_
  exact g_lv [1, 0] rfl (LP2 40 0 0 (by omega) (by omega) rfl)

abbrev rmX6_putsBack : Room := { frames := 0, cells := 0, slots := 0, locals := 0 }
theorem hYX6_putsBack : gY yX6_putsBack wsX6_putsBack cX6_putsBack 2 (none) 0 := ⟨⟨_, rfl⟩, by decide +kernel, by decide +kernel, by decide +kernel⟩
theorem iwX6_putsBack_X6 : ∀ w ∈ u_ws RX6 TX6 16, w ∈ wsX6_putsBack := by decide +kernel
theorem lkX6_putsBack_7 : Cond.fieldLink RX6 7 "MuffinBellsModel" "s" "[I" ∈ wsX6_putsBack := by decide +kernel
theorem lkX6_putsBack_16 : Cond.fieldLink RX6 16 "MuffinBellsModel" "other" "[I" ∈ wsX6_putsBack := by decide +kernel
set_option maxRecDepth 100000 in
set_option maxHeartbeats 4000000 in
theorem c_X6_putsBack (l : Launch) (E : gE) (a : Nat → Nat) (c : Cor) (h : Mar) : ctv l yX6_putsBack wsX6_putsBack rmX6_putsBack E [.ref (a 0)] (mW E a c h) (fun w => w = (mW E a (h.1, c.2.1, c.2.2.1, c.2.2.2.1, c.2.2.2.2.1, c.2.2.2.2.2.1, c.2.2.2.2.2.2.1, c.2.2.2.2.2.2.2.1, c.2.2.2.2.2.2.2.2) h)) := by
  refine mt_v (cc := cX6_putsBack) (maxL := 2) (ret := none) (lv0 := [(0, .ref (a 0))]) (by decide) rfl rfl (Nat.le_of_ble_eq_true rfl) (fun X cx gr hI => ?_)
  refine g_iconst (v := 0) cx dX6_putsBack_0 (by decide) ?_
  refine g_istore_n (lv' := [(1, .int 0), (0, .ref (a 0))]) cx dX6_putsBack_1 (by decide) rfl ?_
  have LP2 : ∀ (d : Nat) (i : Nat) (x : Int32), i + d = 40 → i ≤ 39 → x = nI i → gG X 0 0 (mW E a ((dec (fil (enc h.1) (enc c.1) i)), c.2.1, c.2.2.1, c.2.2.2.1, c.2.2.2.2.1, c.2.2.2.2.2.1, c.2.2.2.2.2.2.1, c.2.2.2.2.2.2.2.1, c.2.2.2.2.2.2.2.2) h) 2 [(0, .ref (a 0)), (1, .int x)] [] := by
    intro d
    induction d with
    | zero =>
      intro i x hi hiN hx
      omega
    | succ d ih =>
      intro i x hi hiN hx
      refine g_iload_n cx dX6_putsBack_2 1 rfl ?_
      refine g_bipush (v := 39) cx dX6_putsBack_3 (by decide) ?_
      refine g_icmp_ge (tgt := 26) cx dX6_putsBack_5 (by decide) (fun c_1 => ?_) (fun c_1 => ?_)
      · obtain rfl : i = 39 := by have := ge_of 39 hx c_1 (by omega) (by decide); omega
        refine g_cgI (ws' := (mW E a (h.1, c.2.1, c.2.2.1, c.2.2.2.1, c.2.2.2.2.1, c.2.2.2.2.2.1, c.2.2.2.2.2.2.1, c.2.2.2.2.2.2.2.1, c.2.2.2.2.2.2.2.2) h)) (g := enc h.1) 1 rfl (fun j hj => by rw [enc_dec]; exact fil_in hj) rfl ?_
        exact g_vret cx gr (Nat.zero_le _) (Nat.zero_le _) dX6_putsBack_26 (by first | rfl | simp only [c_1, if_true, if_false, ite_true, ite_false, not_true_eq_false, not_false_eq_true])
      · refine g_aload_n cx dX6_putsBack_8 0 rfl ?_
        refine g_get (C := RX6) (T := TX6) (N := 16) (v := .ref (a 1)) cx iwX6_putsBack_X6 0 0 rfl rfl (by decide) lkX6_putsBack_7 rfl dX6_putsBack_9 ?_
        refine g_iload_n cx dX6_putsBack_12 1 rfl ?_
        refine g_aload_n cx dX6_putsBack_13 0 rfl ?_
        refine g_get (C := RX6) (T := TX6) (N := 16) (v := .ref (a 3)) cx iwX6_putsBack_X6 0 2 rfl rfl (by decide) lkX6_putsBack_16 rfl dX6_putsBack_14 ?_
        refine g_iload_n cx dX6_putsBack_17 1 rfl ?_
        refine g_iald cx 3 rfl rfl (vp_of_nI hx (by have := lt_of 39 hx c_1 (by omega) (by decide); omega) (by decide)) dX6_putsBack_18 ?_
        refine g_iast (ws' := (mW E a ((tPut (dec (fil (enc h.1) (enc c.1) i)) x.toNatClampNeg ((enc h.1) (x.toNatClampNeg))), c.2.1, c.2.2.1, c.2.2.2.1, c.2.2.2.2.1, c.2.2.2.2.2.1, c.2.2.2.2.2.2.1, c.2.2.2.2.2.2.2.1, c.2.2.2.2.2.2.2.2) h)) cx 1 rfl rfl (vp_of_nI hx (by have := lt_of 39 hx c_1 (by omega) (by decide); omega) (by decide)) dX6_putsBack_19 (congrArg (fun f => List.set (mW E a ((dec (fil (enc h.1) (enc c.1) i)), c.2.1, c.2.2.1, c.2.2.2.1, c.2.2.2.2.1, c.2.2.2.2.2.1, c.2.2.2.2.2.2.1, c.2.2.2.2.2.2.2.1, c.2.2.2.2.2.2.2.2) h) 1 (a 1, .inl (gI E, 39, .inl f))) (enc_put (dec (fil (enc h.1) (enc c.1) i)) x.toNatClampNeg ((enc h.1) (x.toNatClampNeg)))) ?_
        refine g_iinc (v := x + 1) (lv' := [(1, .int (x + 1)), (0, .ref (a 0))]) cx dX6_putsBack_20 1 rfl rfl (by decide) rfl ?_
        refine g_goto (tgt := 2) cx dX6_putsBack_23 (by decide) ?_
        exact g_lv [1, 0] rfl (g_w (congrArg (fun T : Ter => (mW E a (T, c.2.1, c.2.2.1, c.2.2.2.1, c.2.2.2.2.1, c.2.2.2.2.2.1, c.2.2.2.2.2.2.1, c.2.2.2.2.2.2.2.1, c.2.2.2.2.2.2.2.2) h)) (copy_st hx (by omega))) (ih (i + 1) (x + 1) (by omega) (by have := lt_of 39 hx c_1 (by omega) (by decide); omega) (by rw [hx]; exact nI_1 i)))
  refine g_w (congrArg (fun T : Ter => (mW E a (T, c.2.1, c.2.2.1, c.2.2.2.1, c.2.2.2.2.1, c.2.2.2.2.2.1, c.2.2.2.2.2.2.1, c.2.2.2.2.2.2.2.1, c.2.2.2.2.2.2.2.2) h)) (copy_0 h.1 c.1)) ?_
  exact g_lv [1, 0] rfl (LP2 40 0 0 (by omega) (by omega) rfl)

abbrev rmX6_laysAside : Room := { frames := 0, cells := 0, slots := 0, locals := 0 }
theorem hYX6_laysAside : gY yX6_laysAside wsX6_laysAside cX6_laysAside 2 (none) 0 := ⟨⟨_, rfl⟩, by decide +kernel, by decide +kernel, by decide +kernel⟩
theorem iwX6_laysAside_X6 : ∀ w ∈ u_ws RX6 TX6 16, w ∈ wsX6_laysAside := by decide +kernel
theorem lkX6_laysAside_19 : Cond.fieldLink RX6 19 "MuffinBellsModel" "aside" "[I" ∈ wsX6_laysAside := by decide +kernel
theorem lkX6_laysAside_7 : Cond.fieldLink RX6 7 "MuffinBellsModel" "s" "[I" ∈ wsX6_laysAside := by decide +kernel
set_option maxRecDepth 100000 in
set_option maxHeartbeats 4000000 in
theorem c_X6_laysAside (l : Launch) (E : gE) (a : Nat → Nat) (c : Cor) (h : Mar) : ctv l yX6_laysAside wsX6_laysAside rmX6_laysAside E [.ref (a 0)] (mW E a c h) (fun w => w = (mW E a c (h.1, c.1, h.2.2.1, h.2.2.2.1, h.2.2.2.2.1, h.2.2.2.2.2.1, h.2.2.2.2.2.2))) := by
  refine mt_v (cc := cX6_laysAside) (maxL := 2) (ret := none) (lv0 := [(0, .ref (a 0))]) (by decide) rfl rfl (Nat.le_of_ble_eq_true rfl) (fun X cx gr hI => ?_)
  refine g_iconst (v := 0) cx dX6_laysAside_0 (by decide) ?_
  refine g_istore_n (lv' := [(1, .int 0), (0, .ref (a 0))]) cx dX6_laysAside_1 (by decide) rfl ?_
  have LP2 : ∀ (d : Nat) (i : Nat) (x : Int32), i + d = 40 → i ≤ 39 → x = nI i → gG X 0 0 (mW E a c (h.1, (dec (fil (enc c.1) (enc h.2.1) i)), h.2.2.1, h.2.2.2.1, h.2.2.2.2.1, h.2.2.2.2.2.1, h.2.2.2.2.2.2)) 2 [(0, .ref (a 0)), (1, .int x)] [] := by
    intro d
    induction d with
    | zero =>
      intro i x hi hiN hx
      omega
    | succ d ih =>
      intro i x hi hiN hx
      refine g_iload_n cx dX6_laysAside_2 1 rfl ?_
      refine g_bipush (v := 39) cx dX6_laysAside_3 (by decide) ?_
      refine g_icmp_ge (tgt := 26) cx dX6_laysAside_5 (by decide) (fun c_1 => ?_) (fun c_1 => ?_)
      · obtain rfl : i = 39 := by have := ge_of 39 hx c_1 (by omega) (by decide); omega
        refine g_cgI (ws' := (mW E a c (h.1, c.1, h.2.2.1, h.2.2.2.1, h.2.2.2.2.1, h.2.2.2.2.2.1, h.2.2.2.2.2.2))) (g := enc c.1) 4 rfl (fun j hj => by rw [enc_dec]; exact fil_in hj) rfl ?_
        exact g_vret cx gr (Nat.zero_le _) (Nat.zero_le _) dX6_laysAside_26 (by first | rfl | simp only [c_1, if_true, if_false, ite_true, ite_false, not_true_eq_false, not_false_eq_true])
      · refine g_aload_n cx dX6_laysAside_8 0 rfl ?_
        refine g_get (C := RX6) (T := TX6) (N := 16) (v := .ref (a 4)) cx iwX6_laysAside_X6 0 3 rfl rfl (by decide) lkX6_laysAside_19 rfl dX6_laysAside_9 ?_
        refine g_iload_n cx dX6_laysAside_12 1 rfl ?_
        refine g_aload_n cx dX6_laysAside_13 0 rfl ?_
        refine g_get (C := RX6) (T := TX6) (N := 16) (v := .ref (a 1)) cx iwX6_laysAside_X6 0 0 rfl rfl (by decide) lkX6_laysAside_7 rfl dX6_laysAside_14 ?_
        refine g_iload_n cx dX6_laysAside_17 1 rfl ?_
        refine g_iald cx 1 rfl rfl (vp_of_nI hx (by have := lt_of 39 hx c_1 (by omega) (by decide); omega) (by decide)) dX6_laysAside_18 ?_
        refine g_iast (ws' := (mW E a c (h.1, (tPut (dec (fil (enc c.1) (enc h.2.1) i)) x.toNatClampNeg ((enc c.1) (x.toNatClampNeg))), h.2.2.1, h.2.2.2.1, h.2.2.2.2.1, h.2.2.2.2.2.1, h.2.2.2.2.2.2))) cx 4 rfl rfl (vp_of_nI hx (by have := lt_of 39 hx c_1 (by omega) (by decide); omega) (by decide)) dX6_laysAside_19 (congrArg (fun f => List.set (mW E a c (h.1, (dec (fil (enc c.1) (enc h.2.1) i)), h.2.2.1, h.2.2.2.1, h.2.2.2.2.1, h.2.2.2.2.2.1, h.2.2.2.2.2.2)) 4 (a 4, .inl (gI E, 39, .inl f))) (enc_put (dec (fil (enc c.1) (enc h.2.1) i)) x.toNatClampNeg ((enc c.1) (x.toNatClampNeg)))) ?_
        refine g_iinc (v := x + 1) (lv' := [(1, .int (x + 1)), (0, .ref (a 0))]) cx dX6_laysAside_20 1 rfl rfl (by decide) rfl ?_
        refine g_goto (tgt := 2) cx dX6_laysAside_23 (by decide) ?_
        exact g_lv [1, 0] rfl (g_w (congrArg (fun T : Ter => (mW E a c (h.1, T, h.2.2.1, h.2.2.2.1, h.2.2.2.2.1, h.2.2.2.2.2.1, h.2.2.2.2.2.2))) (copy_st hx (by omega))) (ih (i + 1) (x + 1) (by omega) (by have := lt_of 39 hx c_1 (by omega) (by decide); omega) (by rw [hx]; exact nI_1 i)))
  refine g_w (congrArg (fun T : Ter => (mW E a c (h.1, T, h.2.2.1, h.2.2.2.1, h.2.2.2.2.1, h.2.2.2.2.2.1, h.2.2.2.2.2.2))) (copy_0 c.1 h.2.1)) ?_
  exact g_lv [1, 0] rfl (LP2 40 0 0 (by omega) (by omega) rfl)

abbrev rmX6_takesBack : Room := { frames := 0, cells := 0, slots := 0, locals := 0 }
theorem hYX6_takesBack : gY yX6_takesBack wsX6_takesBack cX6_takesBack 3 (some .int) 1 := ⟨⟨_, rfl⟩, by decide +kernel, by decide +kernel, by decide +kernel⟩
theorem iwX6_takesBack_X6 : ∀ w ∈ u_ws RX6 TX6 16, w ∈ wsX6_takesBack := by decide +kernel
theorem lkX6_takesBack_7 : Cond.fieldLink RX6 7 "MuffinBellsModel" "s" "[I" ∈ wsX6_takesBack := by decide +kernel
theorem lkX6_takesBack_19 : Cond.fieldLink RX6 19 "MuffinBellsModel" "aside" "[I" ∈ wsX6_takesBack := by decide +kernel
set_option maxRecDepth 100000 in
set_option maxHeartbeats 4000000 in
theorem c_X6_takesBack (l : Launch) (E : gE) (a : Nat → Nat) (c : Cor) (h : Mar) (v0 : Int32) : cti l yX6_takesBack wsX6_takesBack rmX6_takesBack E [.ref (a 0), .int v0] (mW E a c h) (fun r w => r = v0 ∧ w = (mW E a (h.2.1, c.2.1, c.2.2.1, c.2.2.2.1, c.2.2.2.2.1, c.2.2.2.2.2.1, c.2.2.2.2.2.2.1, c.2.2.2.2.2.2.2.1, c.2.2.2.2.2.2.2.2) h)) := by
  refine mt_i (cc := cX6_takesBack) (maxL := 3) (ret := some .int) (lv0 := [(0, .ref (a 0)), (1, .int v0)]) (by decide) rfl rfl (Nat.le_of_ble_eq_true rfl) (fun X cx gr hI => ?_)
  refine g_iconst (v := 0) cx dX6_takesBack_0 (by decide) ?_
  refine g_istore_n (lv' := [(2, .int 0), (0, .ref (a 0)), (1, .int v0)]) cx dX6_takesBack_1 (by decide) rfl ?_
  have LP2 : ∀ (d : Nat) (i : Nat) (x : Int32), i + d = 40 → i ≤ 39 → x = nI i → gG X 0 0 (mW E a ((dec (fil (enc h.2.1) (enc c.1) i)), c.2.1, c.2.2.1, c.2.2.2.1, c.2.2.2.2.1, c.2.2.2.2.2.1, c.2.2.2.2.2.2.1, c.2.2.2.2.2.2.2.1, c.2.2.2.2.2.2.2.2) h) 2 [(0, .ref (a 0)), (1, .int v0), (2, .int x)] [] := by
    intro d
    induction d with
    | zero =>
      intro i x hi hiN hx
      omega
    | succ d ih =>
      intro i x hi hiN hx
      refine g_iload_n cx dX6_takesBack_2 2 rfl ?_
      refine g_bipush (v := 39) cx dX6_takesBack_3 (by decide) ?_
      refine g_icmp_ge (tgt := 26) cx dX6_takesBack_5 (by decide) (fun c_1 => ?_) (fun c_1 => ?_)
      · obtain rfl : i = 39 := by have := ge_of 39 hx c_1 (by omega) (by decide); omega
        refine g_cgI (ws' := (mW E a (h.2.1, c.2.1, c.2.2.1, c.2.2.2.1, c.2.2.2.2.1, c.2.2.2.2.2.1, c.2.2.2.2.2.2.1, c.2.2.2.2.2.2.2.1, c.2.2.2.2.2.2.2.2) h)) (g := enc h.2.1) 1 rfl (fun j hj => by rw [enc_dec]; exact fil_in hj) rfl ?_
        refine g_iload_n cx dX6_takesBack_26 1 rfl ?_
        exact g_iret cx gr (Nat.zero_le _) (Nat.zero_le _) dX6_takesBack_27 ⟨by first | rfl | simp only [c_1, if_true, if_false, ite_true, ite_false, not_true_eq_false, not_false_eq_true], by first | rfl | simp only [c_1, if_true, if_false, ite_true, ite_false, not_true_eq_false, not_false_eq_true]⟩
      · refine g_aload_n cx dX6_takesBack_8 0 rfl ?_
        refine g_get (C := RX6) (T := TX6) (N := 16) (v := .ref (a 1)) cx iwX6_takesBack_X6 0 0 rfl rfl (by decide) lkX6_takesBack_7 rfl dX6_takesBack_9 ?_
        refine g_iload_n cx dX6_takesBack_12 2 rfl ?_
        refine g_aload_n cx dX6_takesBack_13 0 rfl ?_
        refine g_get (C := RX6) (T := TX6) (N := 16) (v := .ref (a 4)) cx iwX6_takesBack_X6 0 3 rfl rfl (by decide) lkX6_takesBack_19 rfl dX6_takesBack_14 ?_
        refine g_iload_n cx dX6_takesBack_17 2 rfl ?_
        refine g_iald cx 4 rfl rfl (vp_of_nI hx (by have := lt_of 39 hx c_1 (by omega) (by decide); omega) (by decide)) dX6_takesBack_18 ?_
        refine g_iast (ws' := (mW E a ((tPut (dec (fil (enc h.2.1) (enc c.1) i)) x.toNatClampNeg ((enc h.2.1) (x.toNatClampNeg))), c.2.1, c.2.2.1, c.2.2.2.1, c.2.2.2.2.1, c.2.2.2.2.2.1, c.2.2.2.2.2.2.1, c.2.2.2.2.2.2.2.1, c.2.2.2.2.2.2.2.2) h)) cx 1 rfl rfl (vp_of_nI hx (by have := lt_of 39 hx c_1 (by omega) (by decide); omega) (by decide)) dX6_takesBack_19 (congrArg (fun f => List.set (mW E a ((dec (fil (enc h.2.1) (enc c.1) i)), c.2.1, c.2.2.1, c.2.2.2.1, c.2.2.2.2.1, c.2.2.2.2.2.1, c.2.2.2.2.2.2.1, c.2.2.2.2.2.2.2.1, c.2.2.2.2.2.2.2.2) h) 1 (a 1, .inl (gI E, 39, .inl f))) (enc_put (dec (fil (enc h.2.1) (enc c.1) i)) x.toNatClampNeg ((enc h.2.1) (x.toNatClampNeg)))) ?_
        refine g_iinc (v := x + 1) (lv' := [(2, .int (x + 1)), (0, .ref (a 0)), (1, .int v0)]) cx dX6_takesBack_20 2 rfl rfl (by decide) rfl ?_
        refine g_goto (tgt := 2) cx dX6_takesBack_23 (by decide) ?_
        exact g_lv [1, 2, 0] rfl (g_w (congrArg (fun T : Ter => (mW E a (T, c.2.1, c.2.2.1, c.2.2.2.1, c.2.2.2.2.1, c.2.2.2.2.2.1, c.2.2.2.2.2.2.1, c.2.2.2.2.2.2.2.1, c.2.2.2.2.2.2.2.2) h)) (copy_st hx (by omega))) (ih (i + 1) (x + 1) (by omega) (by have := lt_of 39 hx c_1 (by omega) (by decide); omega) (by rw [hx]; exact nI_1 i)))
  refine g_w (congrArg (fun T : Ter => (mW E a (T, c.2.1, c.2.2.1, c.2.2.2.1, c.2.2.2.2.1, c.2.2.2.2.2.1, c.2.2.2.2.2.2.1, c.2.2.2.2.2.2.2.1, c.2.2.2.2.2.2.2.2) h)) (copy_0 h.2.1 c.1)) ?_
  exact g_lv [1, 2, 0] rfl (LP2 40 0 0 (by omega) (by omega) rfl)

abbrev rmX6_hoursGo : Room := { frames := 6, cells := 0, slots := 0, locals := 136 }
theorem hYX6_hoursGo : gY yX6_hoursGo wsX6_hoursGo cX6_hoursGo 3 (none) 1 := ⟨⟨_, rfl⟩, by decide +kernel, by decide +kernel, by decide +kernel⟩
set_option maxRecDepth 100000 in
set_option maxHeartbeats 4000000 in
theorem c_X6_hoursGo (l : Launch) (E : gE) (a : Nat → Nat) (c : Cor) (h : Mar) (N : Nat) (hat : vp_in (tAt c.1) 8) (hN : N < 2 ^ 31) : ctv l yX6_hoursGo wsX6_hoursGo rmX6_hoursGo E [.ref (a 0), .int (nI N)] (mW E a c h) (fun w => w = (mW E a ((goHs N c.1), c.2.1, c.2.2.1, c.2.2.2.1, c.2.2.2.2.1, c.2.2.2.2.2.1, c.2.2.2.2.2.2.1, c.2.2.2.2.2.2.2.1, c.2.2.2.2.2.2.2.2) h)) := by
  refine mt_v (cc := cX6_hoursGo) (maxL := 3) (ret := none) (lv0 := [(0, .ref (a 0)), (1, .int (nI N))]) (by decide) rfl rfl (Nat.le_of_ble_eq_true rfl) (fun X cx gr hI => ?_)
  refine g_iconst (v := 0) cx dX6_hoursGo_0 (by decide) ?_
  refine g_istore_n (lv' := [(2, .int 0), (0, .ref (a 0)), (1, .int (nI N))]) cx dX6_hoursGo_1 (by decide) rfl ?_
  have LP2 : ∀ (d : Nat) (i : Nat) (x : Int32) (u : Ter), i + d = N + 1 → i ≤ N → x = nI i → goHs N c.1 = goHs (N - i) u → vp_in (tAt u) 8 → gG X 0 0 (mW E a (u, c.2.1, c.2.2.1, c.2.2.2.1, c.2.2.2.2.1, c.2.2.2.2.2.1, c.2.2.2.2.2.2.1, c.2.2.2.2.2.2.2.1, c.2.2.2.2.2.2.2.2) h) 2 [(0, .ref (a 0)), (1, .int (nI N)), (2, .int x)] [] := by
    intro d
    induction d with
    | zero =>
      intro i x u hi hiN hx hu hat
      omega
    | succ d ih =>
      intro i x u hi hiN hx hu hat
      refine g_iload_n cx dX6_hoursGo_2 2 rfl ?_
      refine g_iload_n cx dX6_hoursGo_3 1 rfl ?_
      refine g_icmp_ge (tgt := 17) cx dX6_hoursGo_4 (by decide) (fun c_1 => ?_) (fun c_1 => ?_)
      · exact g_vret cx gr (Nat.zero_le _) (Nat.zero_le _) dX6_hoursGo_17 (by rw [hu, show N - i = 0 by have := ge_of N hx c_1 (by omega) hN; omega]; rfl)
      · refine g_aload_n cx dX6_hoursGo_7 0 rfl ?_
        refine g_VSv (rest := []) (As := []) cx hYX6_hour gX6_hoursGo_X6_hour (c_X6_hour l E a (u, c.2.1, c.2.2.1, c.2.2.2.1, c.2.2.2.2.1, c.2.2.2.2.2.1, c.2.2.2.2.2.2.1, c.2.2.2.2.2.2.2.1, c.2.2.2.2.2.2.2.2) h  hat) rfl rfl rfl ⟨Nat.le_of_ble_eq_true rfl, Nat.le_of_ble_eq_true rfl⟩ rfl rfl (Nat.le_of_ble_eq_true rfl) ⟨Nat.le_of_ble_eq_true rfl, Nat.le_of_ble_eq_true rfl⟩ dX6_hoursGo_8 (fun w1 hp => ?_)
        obtain rfl := hp
        refine g_iinc (v := x + 1) (lv' := [(2, .int (x + 1)), (0, .ref (a 0)), (1, .int (nI N))]) cx dX6_hoursGo_11 2 rfl rfl (by decide) rfl ?_
        refine g_goto (tgt := 2) cx dX6_hoursGo_14 (by decide) ?_
        exact g_lv [1, 2, 0] rfl (ih (i + 1) (x + 1) (goHour u) (by omega) (by have := lt_of N hx c_1 (by omega) hN; omega) (by rw [hx]; exact nI_1 i) (by rw [hu, show N - i = (N - (i + 1)) + 1 by have := lt_of N hx c_1 (by omega) hN; omega, goHs]) (goHour_at hat))
  exact g_lv [1, 2, 0] rfl (LP2 (N + 1) 0 0 c.1 (by omega) (by omega) rfl rfl hat)

abbrev rmX6_behind : Room := { frames := 7, cells := 0, slots := 0, locals := 158 }
theorem hYX6_behind : gY yX6_behind wsX6_behind cX6_behind 3 (some .int) 2 := ⟨⟨_, rfl⟩, by decide +kernel, by decide +kernel, by decide +kernel⟩
theorem iwX6_behind_X6 : ∀ w ∈ u_ws RX6 TX6 16, w ∈ wsX6_behind := by decide +kernel
theorem lkX6_behind_7 : Cond.fieldLink RX6 7 "MuffinBellsModel" "s" "[I" ∈ wsX6_behind := by decide +kernel
set_option maxRecDepth 100000 in
set_option maxHeartbeats 4000000 in
theorem c_X6_behind (l : Launch) (E : gE) (a : Nat → Nat) (c : Cor) (h : Mar) (w0 : Int32) (N : Nat) (hat : vp_in (tAt c.1) 8) (hN : N < 2 ^ 31) (hw : vp_in w0 39) : cti l yX6_behind wsX6_behind rmX6_behind E [.ref (a 0), .int w0, .int (nI N)] (mW E a c h) (fun r w => r = enc (goHs N c.1) w0.toNatClampNeg ∧ w = (mW E a c (h.1, c.1, h.2.2.1, h.2.2.2.1, h.2.2.2.2.1, h.2.2.2.2.2.1, h.2.2.2.2.2.2))) := by
  refine mt_i (cc := cX6_behind) (maxL := 3) (ret := some .int) (lv0 := [(0, .ref (a 0)), (1, .int w0), (2, .int (nI N))]) (by decide) rfl rfl (Nat.le_of_ble_eq_true rfl) (fun X cx gr hI => ?_)
  refine g_aload_n cx dX6_behind_0 0 rfl ?_
  refine g_VSv (rest := []) (As := []) cx hYX6_laysAside gX6_behind_X6_laysAside (c_X6_laysAside l E a c h  ) rfl rfl rfl ⟨Nat.le_of_ble_eq_true rfl, Nat.le_of_ble_eq_true rfl⟩ rfl rfl (Nat.le_of_ble_eq_true rfl) ⟨Nat.le_of_ble_eq_true rfl, Nat.le_of_ble_eq_true rfl⟩ dX6_behind_1 (fun w1 hp => ?_)
  obtain rfl := hp
  refine g_aload_n cx dX6_behind_4 0 rfl ?_
  refine g_iload_n cx dX6_behind_5 2 rfl ?_
  refine g_VSv (rest := []) (As := [.int (nI N)]) cx hYX6_hoursGo gX6_behind_X6_hoursGo (c_X6_hoursGo l E a c (h.1, c.1, h.2.2.1, h.2.2.2.1, h.2.2.2.2.1, h.2.2.2.2.2.1, h.2.2.2.2.2.2) N hat hN) rfl rfl rfl ⟨Nat.le_of_ble_eq_true rfl, Nat.le_of_ble_eq_true rfl⟩ rfl rfl (Nat.le_of_ble_eq_true rfl) ⟨Nat.le_of_ble_eq_true rfl, Nat.le_of_ble_eq_true rfl⟩ dX6_behind_6 (fun w1 hp => ?_)
  obtain rfl := hp
  refine g_aload_n cx dX6_behind_9 0 rfl ?_
  refine g_aload_n cx dX6_behind_10 0 rfl ?_
  refine g_get (C := RX6) (T := TX6) (N := 16) (v := .ref (a 1)) cx iwX6_behind_X6 0 0 rfl rfl (by decide) lkX6_behind_7 rfl dX6_behind_11 ?_
  refine g_iload_n cx dX6_behind_14 1 rfl ?_
  refine g_iald cx 1 rfl rfl hw dX6_behind_15 ?_
  refine g_VSi (rest := []) (As := [.int ((enc (goHs N c.1)) (w0.toNatClampNeg))]) cx hYX6_takesBack gX6_behind_X6_takesBack (c_X6_takesBack l E a ((goHs N c.1), c.2.1, c.2.2.1, c.2.2.2.1, c.2.2.2.2.1, c.2.2.2.2.2.1, c.2.2.2.2.2.2.1, c.2.2.2.2.2.2.2.1, c.2.2.2.2.2.2.2.2) (h.1, c.1, h.2.2.1, h.2.2.2.1, h.2.2.2.2.1, h.2.2.2.2.2.1, h.2.2.2.2.2.2) ((enc (goHs N c.1)) (w0.toNatClampNeg)) ) rfl rfl rfl ⟨Nat.le_of_ble_eq_true rfl, Nat.le_of_ble_eq_true rfl⟩ rfl rfl (Nat.le_of_ble_eq_true rfl) ⟨Nat.le_of_ble_eq_true rfl, Nat.le_of_ble_eq_true rfl⟩ dX6_behind_16 (fun r w1 hp => ?_)
  obtain ⟨rfl, rfl⟩ := hp
  exact g_iret cx gr (Nat.zero_le _) (Nat.zero_le _) dX6_behind_19 ⟨rfl, rfl⟩

theorem c_X6_behind0 (l : Launch) (E : gE) (a : Nat → Nat) (c : Cor) (h : Mar) (h0 : Int32) (N : Nat) (hat : vp_in (tAt c.1) 8) (hN : N < 2 ^ 31) (hh : vp_in h0 8) : cti l yX6_behind wsX6_behind rmX6_behind E [.ref (a 0), .int (spot h0 0), .int (nI N)] (mW E a c h) (fun r w => r = (goHs N c.1).2.2.2.2.2.2.2.1 h0.toNatClampNeg ∧ w = (mW E a c (h.1, c.1, h.2.2.1, h.2.2.2.1, h.2.2.2.2.1, h.2.2.2.2.2.1, h.2.2.2.2.2.2))) := by
  have q := c_X6_behind l E a c h (spot h0 0) N hat hN (si_K hh)
  rw [sp_K hh] at q
  exact q

theorem c_X6_behind1 (l : Launch) (E : gE) (a : Nat → Nat) (c : Cor) (h : Mar) (h0 : Int32) (N : Nat) (hat : vp_in (tAt c.1) 8) (hN : N < 2 ^ 31) (hh : vp_in h0 8) : cti l yX6_behind wsX6_behind rmX6_behind E [.ref (a 0), .int (spot h0 1), .int (nI N)] (mW E a c h) (fun r w => r = (goHs N c.1).2.2.2.2.2.2.2.2.1 h0.toNatClampNeg ∧ w = (mW E a c (h.1, c.1, h.2.2.1, h.2.2.2.1, h.2.2.2.2.1, h.2.2.2.2.2.1, h.2.2.2.2.2.2))) := by
  have q := c_X6_behind l E a c h (spot h0 1) N hat hN (si_M hh)
  rw [sp_M hh] at q
  exact q

theorem c_X6_behind2 (l : Launch) (E : gE) (a : Nat → Nat) (c : Cor) (h : Mar) (h0 : Int32) (N : Nat) (hat : vp_in (tAt c.1) 8) (hN : N < 2 ^ 31) (hh : vp_in h0 8) : cti l yX6_behind wsX6_behind rmX6_behind E [.ref (a 0), .int (spot h0 2), .int (nI N)] (mW E a c h) (fun r w => r = (goHs N c.1).2.2.2.2.2.2.2.2.2.1 h0.toNatClampNeg ∧ w = (mW E a c (h.1, c.1, h.2.2.1, h.2.2.2.1, h.2.2.2.2.1, h.2.2.2.2.2.1, h.2.2.2.2.2.2))) := by
  have q := c_X6_behind l E a c h (spot h0 2) N hat hN (si_P hh)
  rw [sp_P hh] at q
  exact q

theorem c_X6_behind3 (l : Launch) (E : gE) (a : Nat → Nat) (c : Cor) (h : Mar) (h0 : Int32) (N : Nat) (hat : vp_in (tAt c.1) 8) (hN : N < 2 ^ 31) (hh : vp_in h0 8) : cti l yX6_behind wsX6_behind rmX6_behind E [.ref (a 0), .int (spot h0 3), .int (nI N)] (mW E a c h) (fun r w => r = (goHs N c.1).2.2.2.2.2.2.2.2.2.2 h0.toNatClampNeg ∧ w = (mW E a c (h.1, c.1, h.2.2.1, h.2.2.2.1, h.2.2.2.2.1, h.2.2.2.2.2.1, h.2.2.2.2.2.2))) := by
  have q := c_X6_behind l E a c h (spot h0 3) N hat hN (si_A hh)
  rw [sp_A hh] at q
  exact q

abbrev rmX6_together : Room := { frames := 2, cells := 0, slots := 0, locals := 43 }
theorem hYX6_together : gY yX6_together wsX6_together cX6_together 4 (some .int) 1 := ⟨⟨_, rfl⟩, by decide +kernel, by decide +kernel, by decide +kernel⟩
set_option maxRecDepth 100000 in
set_option maxHeartbeats 4000000 in
theorem c_X6_together (l : Launch) (E : gE) (a : Nat → Nat) (c : Cor) (h : Mar) (q : Nat) (hq : q ≤ 3) : cti l yX6_together wsX6_together rmX6_together E [.ref (a 0), .int (nI q)] (mW E a c h) (fun r w => r = sumN (fun j => enc c.1 (7 + 4 * j + q)) 8 ∧ w = mW E a c h) := by
  refine mt_i (cc := cX6_together) (maxL := 4) (ret := some .int) (lv0 := [(0, .ref (a 0)), (1, .int (nI q))]) (by decide) rfl rfl (Nat.le_of_ble_eq_true rfl) (fun X cx gr hI => ?_)
  refine g_iconst (v := 0) cx dX6_together_0 (by decide) ?_
  refine g_istore_n (lv' := [(2, .int 0), (0, .ref (a 0)), (1, .int (nI q))]) cx dX6_together_1 (by decide) rfl ?_
  refine g_iconst (v := 0) cx dX6_together_2 (by decide) ?_
  refine g_istore_n (lv' := [(3, .int 0), (2, .int 0), (0, .ref (a 0)), (1, .int (nI q))]) cx dX6_together_3 (by decide) rfl ?_
  have LP4 : ∀ (d : Nat) (i : Nat) (x : Int32) (y : Int32), i + d = 9 → i ≤ 8 → x = nI i → y = sumN (fun j => enc c.1 (7 + 4 * j + q)) i → gG X 0 0 (mW E a c h) 4 [(0, .ref (a 0)), (1, .int (nI q)), (2, .int y), (3, .int x)] [] := by
    intro d
    induction d with
    | zero =>
      intro i x y hi hiN hx hy
      omega
    | succ d ih =>
      intro i x y hi hiN hx hy
      refine g_iload_n cx dX6_together_4 3 rfl ?_
      refine g_bipush (v := 8) cx dX6_together_5 (by decide) ?_
      refine g_icmp_ge (tgt := 25) cx dX6_together_7 (by decide) (fun c_1 => ?_) (fun c_1 => ?_)
      · refine g_iload_n cx dX6_together_25 2 rfl ?_
        exact g_iret cx gr (Nat.zero_le _) (Nat.zero_le _) dX6_together_26 ⟨by rw [hy, show i = 8 by have := ge_of 8 hx c_1 (by omega) (by decide); omega], rfl⟩
      · refine g_iload_n cx dX6_together_10 2 rfl ?_
        refine g_aload_n cx dX6_together_11 0 rfl ?_
        refine g_iload_n cx dX6_together_12 3 rfl ?_
        refine g_iload_n cx dX6_together_13 1 rfl ?_
        refine g_VSi (rest := [.int y]) (As := [.int x, .int (nI q)]) cx hYX6_its gX6_together_X6_its (c_X6_its l E a c h x (nI q) (by rw [hx]; exact spot_in (vp_in_nI (lt_of 8 hx c_1 (by omega) (by decide)) (by decide)) q hq)) rfl rfl rfl ⟨Nat.le_of_ble_eq_true rfl, Nat.le_of_ble_eq_true rfl⟩ rfl rfl (Nat.le_of_ble_eq_true rfl) ⟨Nat.le_of_ble_eq_true rfl, Nat.le_of_ble_eq_true rfl⟩ dX6_together_14 (fun r w1 hp => ?_)
        obtain ⟨rfl, rfl⟩ := hp
        refine g_iadd cx dX6_together_17 ?_
        refine g_istore_n (lv' := [(2, .int (y + (enc c.1 (spot x (nI q)).toNatClampNeg))), (0, .ref (a 0)), (1, .int (nI q)), (3, .int x)]) cx dX6_together_18 (by decide) rfl ?_
        refine g_iinc (v := x + 1) (lv' := [(3, .int (x + 1)), (2, .int (y + (enc c.1 (spot x (nI q)).toNatClampNeg))), (0, .ref (a 0)), (1, .int (nI q))]) cx dX6_together_19 3 rfl rfl (by decide) rfl ?_
        refine g_goto (tgt := 4) cx dX6_together_22 (by decide) ?_
        exact g_lv [2, 3, 1, 0] rfl (ih (i + 1) (x + 1) (y + (enc c.1 (spot x (nI q)).toNatClampNeg)) (by omega) (by have := lt_of 8 hx c_1 (by omega) (by decide); omega) (by rw [hx]; exact nI_1 i) (by rw [hy, sumN, hx, spot_nI, nI_clamp (by omega)]))
  exact g_lv [2, 3, 1, 0] rfl (LP4 9 0 0 0 (by omega) (by omega) rfl rfl)

theorem c_X6_together1 (l : Launch) (E : gE) (a : Nat → Nat) (c : Cor) (h : Mar) : cti l yX6_together wsX6_together rmX6_together E [.ref (a 0), .int 1] (mW E a c h) (fun r w => r = sumN (tMood c.1) 8 ∧ w = mW E a c h) := by
  have q := c_X6_together l E a c h 1 (by decide)
  rw [show (fun j => enc c.1 (7 + 4 * j + 1)) = tMood c.1 from funext (fun j => enc_M c.1 j)] at q
  exact q

theorem c_X6_together3 (l : Launch) (E : gE) (a : Nat → Nat) (c : Cor) (h : Mar) : cti l yX6_together wsX6_together rmX6_together E [.ref (a 0), .int 3] (mW E a c h) (fun r w => r = sumN (tAte c.1) 8 ∧ w = mW E a c h) := by
  have q := c_X6_together l E a c h 3 (by decide)
  rw [show (fun j => enc c.1 (7 + 4 * j + 3)) = tAte c.1 from funext (fun j => enc_A c.1 j)] at q
  exact q

abbrev rmX6_moodsIn : Room := { frames := 7, cells := 0, slots := 0, locals := 158 }
theorem hYX6_moodsIn : gY yX6_moodsIn wsX6_moodsIn cX6_moodsIn 2 (some .int) 1 := ⟨⟨_, rfl⟩, by decide +kernel, by decide +kernel, by decide +kernel⟩
set_option maxRecDepth 100000 in
set_option maxHeartbeats 4000000 in
theorem c_X6_moodsIn (l : Launch) (E : gE) (a : Nat → Nat) (c : Cor) (h : Mar) (N : Nat) (hat : vp_in (tAt c.1) 8) (hN : N < 2 ^ 31) : cti l yX6_moodsIn wsX6_moodsIn rmX6_moodsIn E [.ref (a 0), .int (nI N)] (mW E a c h) (fun r w => r = sumN (tMood (goHs N c.1)) 8 ∧ w = (mW E a c (h.1, c.1, h.2.2.1, h.2.2.2.1, h.2.2.2.2.1, h.2.2.2.2.2.1, h.2.2.2.2.2.2))) := by
  refine mt_i (cc := cX6_moodsIn) (maxL := 2) (ret := some .int) (lv0 := [(0, .ref (a 0)), (1, .int (nI N))]) (by decide) rfl rfl (Nat.le_of_ble_eq_true rfl) (fun X cx gr hI => ?_)
  refine g_aload_n cx dX6_moodsIn_0 0 rfl ?_
  refine g_VSv (rest := []) (As := []) cx hYX6_laysAside gX6_moodsIn_X6_laysAside (c_X6_laysAside l E a c h  ) rfl rfl rfl ⟨Nat.le_of_ble_eq_true rfl, Nat.le_of_ble_eq_true rfl⟩ rfl rfl (Nat.le_of_ble_eq_true rfl) ⟨Nat.le_of_ble_eq_true rfl, Nat.le_of_ble_eq_true rfl⟩ dX6_moodsIn_1 (fun w1 hp => ?_)
  obtain rfl := hp
  refine g_aload_n cx dX6_moodsIn_4 0 rfl ?_
  refine g_iload_n cx dX6_moodsIn_5 1 rfl ?_
  refine g_VSv (rest := []) (As := [.int (nI N)]) cx hYX6_hoursGo gX6_moodsIn_X6_hoursGo (c_X6_hoursGo l E a c (h.1, c.1, h.2.2.1, h.2.2.2.1, h.2.2.2.2.1, h.2.2.2.2.2.1, h.2.2.2.2.2.2) N hat hN) rfl rfl rfl ⟨Nat.le_of_ble_eq_true rfl, Nat.le_of_ble_eq_true rfl⟩ rfl rfl (Nat.le_of_ble_eq_true rfl) ⟨Nat.le_of_ble_eq_true rfl, Nat.le_of_ble_eq_true rfl⟩ dX6_moodsIn_6 (fun w1 hp => ?_)
  obtain rfl := hp
  refine g_aload_n cx dX6_moodsIn_9 0 rfl ?_
  refine g_aload_n cx dX6_moodsIn_10 0 rfl ?_
  refine g_iconst (v := 1) cx dX6_moodsIn_11 (by decide) ?_
  refine g_VSi (rest := [.ref (a 0)]) (As := [.int 1]) cx hYX6_together gX6_moodsIn_X6_together (c_X6_together1 l E a ((goHs N c.1), c.2.1, c.2.2.1, c.2.2.2.1, c.2.2.2.2.1, c.2.2.2.2.2.1, c.2.2.2.2.2.2.1, c.2.2.2.2.2.2.2.1, c.2.2.2.2.2.2.2.2) (h.1, c.1, h.2.2.1, h.2.2.2.1, h.2.2.2.2.1, h.2.2.2.2.2.1, h.2.2.2.2.2.2)) rfl rfl rfl ⟨Nat.le_of_ble_eq_true rfl, Nat.le_of_ble_eq_true rfl⟩ rfl rfl (Nat.le_of_ble_eq_true rfl) ⟨Nat.le_of_ble_eq_true rfl, Nat.le_of_ble_eq_true rfl⟩ dX6_moodsIn_12 (fun r w1 hp => ?_)
  obtain ⟨rfl, rfl⟩ := hp
  refine g_VSi (rest := []) (As := [.int (sumN ((goHs N c.1).2.2.2.2.2.2.2.2.1) 8)]) cx hYX6_takesBack gX6_moodsIn_X6_takesBack (c_X6_takesBack l E a ((goHs N c.1), c.2.1, c.2.2.1, c.2.2.2.1, c.2.2.2.2.1, c.2.2.2.2.2.1, c.2.2.2.2.2.2.1, c.2.2.2.2.2.2.2.1, c.2.2.2.2.2.2.2.2) (h.1, c.1, h.2.2.1, h.2.2.2.1, h.2.2.2.2.1, h.2.2.2.2.2.1, h.2.2.2.2.2.2) (sumN ((goHs N c.1).2.2.2.2.2.2.2.2.1) 8) ) rfl rfl rfl ⟨Nat.le_of_ble_eq_true rfl, Nat.le_of_ble_eq_true rfl⟩ rfl rfl (Nat.le_of_ble_eq_true rfl) ⟨Nat.le_of_ble_eq_true rfl, Nat.le_of_ble_eq_true rfl⟩ dX6_moodsIn_15 (fun r w1 hp => ?_)
  obtain ⟨rfl, rfl⟩ := hp
  exact g_iret cx gr (Nat.zero_le _) (Nat.zero_le _) dX6_moodsIn_18 ⟨rfl, rfl⟩

def mvT (t : Ter) (h o : Int32) : Nat → Ter
  | 0 => t
  | n + 1 => tPut (tPut (mvT t h o n) (spot h (nI n)).toNatClampNeg (enc (mvT t h o n) (spot o (nI n)).toNatClampNeg)) (spot o (nI n)).toNatClampNeg (enc (mvT t h o n) (spot h (nI n)).toNatClampNeg)
