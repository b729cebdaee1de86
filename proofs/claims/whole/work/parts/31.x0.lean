abbrev rmX5_finding : Room := { frames := 1, cells := 0, slots := 0, locals := 22 }
theorem hYX5_finding : gY yX5_finding wsX5_finding cX5_finding 3 (some .int) 1 := ⟨⟨_, rfl⟩, by decide +kernel, by decide +kernel, by decide +kernel⟩
theorem m1X5_finding_c61 : Cond.constant RX5 61 (-1000000001) ∈ wsX5_finding := by decide +kernel
theorem iwX5_finding_X5 : ∀ w ∈ u_ws RX5 TX5 8, w ∈ wsX5_finding := by decide +kernel
theorem lkX5_finding_49 : Cond.fieldLink RX5 49 "MuffinBells" "findings" "[I" ∈ wsX5_finding := by decide +kernel
set_option maxRecDepth 100000 in
set_option maxHeartbeats 4000000 in
theorem c_X5_finding (l : Launch) (E : gE) (a : Nat → Nat) (c : Cor) (g : Gar) (f0 : Int32) (hf : vp_in (-1000000001 - f0) 7) : cti l yX5_finding wsX5_finding rmX5_finding E [.ref (a 0), .int f0] (xW E a c g) (fun r w => r = f0 ∧ w = (xW E a (c.1, c.2.1, c.2.2.1, c.2.2.2.1, c.2.2.2.2.1, c.2.2.2.2.2.1, c.2.2.2.2.2.2.1, c.2.2.2.2.2.2.2.1, bump f0 c.2.2.2.2.2.2.2.2) g)) := by
  refine mt_i (cc := cX5_finding) (maxL := 3) (ret := some .int) (lv0 := [(0, .ref (a 0)), (1, .int f0)]) (by decide) rfl rfl (Nat.le_of_ble_eq_true rfl) (fun X cx gr hI => ?_)
  refine g_ldc cx m1X5_finding_c61 dX5_finding_0 ?_
  refine g_iload_n cx dX5_finding_2 1 rfl ?_
  refine g_isub cx dX5_finding_3 ?_
  refine g_istore_n (lv' := [(2, .int ((-1000000001) - f0)), (0, .ref (a 0)), (1, .int f0)]) cx dX5_finding_4 (by decide) rfl ?_
  refine g_iload_n cx dX5_finding_5 0 rfl ?_
  refine g_iconst (v := 0) cx dX5_finding_6 (by decide) ?_
  refine g_bipush (v := 6) cx dX5_finding_7 (by decide) ?_
  refine g_SPi (rest := []) (As := [.int ((-1000000001) - f0), .int 0, .int 6]) cx hYX5_isWithin gX5_finding_X5_isWithin (c_X5_isWithin l E ((-1000000001) - f0) 0 6 ) ⟨Nat.le_of_ble_eq_true rfl, Nat.le_of_ble_eq_true rfl⟩ rfl rfl (Nat.le_of_ble_eq_true rfl) ⟨Nat.le_of_ble_eq_true rfl, Nat.le_of_ble_eq_true rfl⟩ dX5_finding_9 ?_
  refine g_if_eq (tgt := 25) cx dX5_finding_12 (by decide) (fun c_1 => absurd c_1 (vp_isW 6 hf (by decide))) (fun c_1 => ?_)
  refine g_aload_n cx dX5_finding_15 1 rfl ?_
  refine g_get (C := RX5) (T := TX5) (N := 8) (v := .ref (a 28)) cx iwX5_finding_X5 0 7 rfl rfl (by decide) lkX5_finding_49 rfl dX5_finding_16 ?_
  refine g_iload_n cx dX5_finding_19 0 rfl ?_
  refine g_dup2 cx dX5_finding_20 rfl rfl ?_
  refine g_iald cx 28 rfl rfl hf dX5_finding_21 ?_
  refine g_iconst (v := 1) cx dX5_finding_22 (by decide) ?_
  refine g_iadd cx dX5_finding_23 ?_
  refine g_iast (ws' := (xW E a (c.1, c.2.1, c.2.2.1, c.2.2.2.1, c.2.2.2.2.1, c.2.2.2.2.2.1, c.2.2.2.2.2.2.1, c.2.2.2.2.2.2.2.1, upd c.2.2.2.2.2.2.2.2 ((-1000000001) - f0).toNatClampNeg ((c.2.2.2.2.2.2.2.2 (((-1000000001) - f0).toNatClampNeg)) + 1)) g)) cx 28 rfl rfl hf dX5_finding_24 rfl ?_
  refine g_iload_n cx dX5_finding_25 2 rfl ?_
  exact g_iret cx gr (Nat.zero_le _) (Nat.zero_le _) dX5_finding_26 ⟨by first | rfl | simp only [c_1, if_true, if_false, ite_true, ite_false, not_true_eq_false, not_false_eq_true], by first | rfl | simp only [c_1, if_true, if_false, ite_true, ite_false, not_true_eq_false, not_false_eq_true]⟩
