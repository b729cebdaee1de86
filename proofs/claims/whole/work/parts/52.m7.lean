theorem wr_bad {c : Cor} {s i : Int32} {v : Int64} (h1 : ¬ isW s 0 3 = 0) (h2 : ¬ cBits c s.toNatClampNeg = 0) (h : ¬ (¬ i < 0 ∧ i < cSize c s.toNatClampNeg)) : sp_write c s i v = cBl (-1000000001) c := by
  rw [sp_write, if_neg h1, if_neg h2]
  by_cases h3 : i < 0
  · rw [if_pos h3]
  · rw [if_neg h3, if_neg (fun q => h ⟨h3, q⟩)]

abbrev rmX6_write : Room := { frames := 3, cells := 0, slots := 0, locals := 66 }
theorem hYX6_write : gY yX6_write wsX6_write cX6_write 8 (some .long) 3 := ⟨⟨_, rfl⟩, by decide +kernel, by decide +kernel, by decide +kernel⟩
theorem iwX6_write_X6 : ∀ w ∈ u_ws RX6 TX6 16, w ∈ wsX6_write := by decide +kernel
theorem lkX6_write_31 : Cond.fieldLink RX6 31 "MuffinBellsModel" "sizeOf" "[I" ∈ wsX6_write := by decide +kernel
theorem lkX6_write_34 : Cond.fieldLink RX6 34 "MuffinBellsModel" "numbers" "[J" ∈ wsX6_write := by decide +kernel
theorem lkX6_write_28 : Cond.fieldLink RX6 28 "MuffinBellsModel" "bitsOf" "[I" ∈ wsX6_write := by decide +kernel
theorem m1X6_write_c45 : Cond.constant RX6 45 (-1000000001) ∈ wsX6_write := by decide +kernel
set_option maxRecDepth 100000 in
set_option maxHeartbeats 4000000 in
theorem c_X6_write (l : Launch) (E : gE) (a : Nat → Nat) (c : Cor) (h : Mar) (s0 : Int32) (i0 : Int32) (v0 : Int64) (hok : cOk c) : ctl l yX6_write wsX6_write rmX6_write E [.ref (a 0), .int s0, .int i0, .long v0] (mW E a c h) (fun r w => ∃ h', r = (sp_write c s0 i0 v0).1 ∧ w = mW E a (sp_write c s0 i0 v0).2 h') := by
  refine mt_l (cc := cX6_write) (maxL := 8) (ret := some .long) (lv0 := [(0, .ref (a 0)), (1, .int s0), (2, .int i0), (3, .long v0)]) (by decide) rfl rfl (Nat.le_of_ble_eq_true rfl) (fun X cx gr hI => ?_)
  refine g_aload_n cx dX6_write_0 0 rfl ?_
  refine g_iload_n cx dX6_write_1 1 rfl ?_
  refine g_VSi (rest := []) (As := [.int s0]) cx hYX6_wrongSheet gX6_write_X6_wrongSheet (c_X6_wrongSheet l E a c h s0 ) rfl rfl rfl ⟨Nat.le_of_ble_eq_true rfl, Nat.le_of_ble_eq_true rfl⟩ rfl rfl (Nat.le_of_ble_eq_true rfl) ⟨Nat.le_of_ble_eq_true rfl, Nat.le_of_ble_eq_true rfl⟩ dX6_write_2 (fun r w1 hp => ?_)
  obtain ⟨rfl, rfl⟩ := hp
  refine g_istore (lv' := [(5, .int (wrS c.2.2.2.2.2.1 s0)), (0, .ref (a 0)), (1, .int s0), (2, .int i0), (3, .long v0)]) cx dX6_write_5 (by decide) rfl ?_
  refine g_iload cx dX6_write_7 0 rfl ?_
  refine g_if_eq (tgt := 20) cx dX6_write_9 (by decide) (fun c_1 => ?_) (fun c_1 => ?_)
  · obtain ⟨hw1, hw2⟩ := wr_0 c_1
    obtain ⟨j, hj3, hj⟩ := isW_nI 3 hw1 (by decide)
    have hj4 : j < 4 := by omega
    have hjc : s0.toNatClampNeg = j := by rw [hj, nI_clamp (by omega)]
    obtain ⟨Z, hZ, hz⟩ := sz_nI (j := j) hok hj4
    refine g_iload_n cx dX6_write_20 3 rfl ?_
    refine g_i2l cx dX6_write_21 ?_
    refine g_lconst (v := 0) cx dX6_write_22 (by decide) ?_
    refine g_aload_n cx dX6_write_23 1 rfl ?_
    refine g_get (C := RX6) (T := TX6) (N := 16) (v := .ref (a 8)) cx iwX6_write_X6 0 13 rfl rfl (by decide) lkX6_write_31 rfl dX6_write_24 ?_
    refine g_iload_n cx dX6_write_27 2 rfl ?_
    refine g_iald cx 8 rfl rfl (vp_of_nI hj hj4 (by decide)) dX6_write_28 ?_
    refine g_iconst (v := 1) cx dX6_write_29 (by decide) ?_
    refine g_isub cx dX6_write_30 ?_
    refine g_i2l cx dX6_write_31 ?_
    refine g_SPi (rest := []) (As := [.long i0.toInt64, .long 0, .long (((c.2.2.2.2.2.2.1 (s0.toNatClampNeg)) - 1).toInt64)]) cx hYX6_in gX6_write_X6_in (c_X6_inW l E i0 0 ((c.2.2.2.2.2.2.1 (s0.toNatClampNeg)) - 1) 0 (((c.2.2.2.2.2.2.1 (s0.toNatClampNeg)) - 1).toInt64) (by decide) rfl) ⟨Nat.le_of_ble_eq_true rfl, Nat.le_of_ble_eq_true rfl⟩ rfl rfl (Nat.le_of_ble_eq_true rfl) ⟨Nat.le_of_ble_eq_true rfl, Nat.le_of_ble_eq_true rfl⟩ dX6_write_32 ?_
    refine g_if_ne (tgt := 46) cx dX6_write_35 (by decide) (fun c_2 => ?_) (fun c_2 => ?_)
    · have hq := Decidable.of_not_not (fun q => c_2 ((in_sz (i := i0) (by rw [hjc]; exact hz) hZ).mpr q))
      obtain ⟨I0, hI1, hI⟩ := nI_of hq.1
      have hI40 : I0 < 40 := by have q2 := hq.2; rw [hI, hjc, hz, nI_ltI hI1 (by omega)] at q2; omega
      have hIc : i0.toNatClampNeg = I0 := by rw [hI, nI_clamp hI1]
      refine g_aload_n cx dX6_write_46 1 rfl ?_
      refine g_get (C := RX6) (T := TX6) (N := 16) (v := .ref (a 9)) cx iwX6_write_X6 0 14 rfl rfl (by decide) lkX6_write_34 rfl dX6_write_47 ?_
      refine g_bipush (v := 40) cx dX6_write_50 (by decide) ?_
      refine g_iload_n cx dX6_write_52 2 rfl ?_
      refine g_imul cx dX6_write_53 ?_
      refine g_iload_n cx dX6_write_54 3 rfl ?_
      refine g_iadd cx dX6_write_55 ?_
      refine g_lald cx 9 rfl rfl (fl_in hj hI hj4 hI40) dX6_write_56 ?_
      refine g_topl (y := c.2.2.2.2.2.2.2.1 j I0) (fl_r c.2.2.2.2.2.2.2.1 hj hI hj4 hI40) ?_
      refine g_lstore (lv' := [(6, .long (c.2.2.2.2.2.2.2.1 j I0)), (5, .int (wrS c.2.2.2.2.2.1 s0)), (0, .ref (a 0)), (1, .int s0), (2, .int i0), (3, .long v0)]) cx dX6_write_57 (by decide) rfl ?_
      refine g_aload_n cx dX6_write_59 2 rfl ?_
      refine g_get (C := RX6) (T := TX6) (N := 16) (v := .ref (a 9)) cx iwX6_write_X6 0 14 rfl rfl (by decide) lkX6_write_34 rfl dX6_write_60 ?_
      refine g_bipush (v := 40) cx dX6_write_63 (by decide) ?_
      refine g_iload_n cx dX6_write_65 3 rfl ?_
      refine g_imul cx dX6_write_66 ?_
      refine g_iload_n cx dX6_write_67 4 rfl ?_
      refine g_iadd cx dX6_write_68 ?_
      refine g_aload_n cx dX6_write_69 2 rfl ?_
      refine g_get (C := RX6) (T := TX6) (N := 16) (v := .ref (a 7)) cx iwX6_write_X6 0 12 rfl rfl (by decide) lkX6_write_28 rfl dX6_write_70 ?_
      refine g_iload_n cx dX6_write_73 3 rfl ?_
      refine g_iald cx 7 rfl rfl (vp_of_nI hj hj4 (by decide)) dX6_write_74 ?_
      refine g_lload_n cx dX6_write_75 5 rfl ?_
      refine g_SPl (rest := [.int ((40 * s0) + i0), .ref (a 9)]) (As := [.int (c.2.2.2.2.2.1 (s0.toNatClampNeg)), .long v0]) cx hYX6_narrowed gX6_write_X6_narrowed (c_X6_narrowed l E (c.2.2.2.2.2.1 (s0.toNatClampNeg)) v0) ⟨Nat.le_of_ble_eq_true rfl, Nat.le_of_ble_eq_true rfl⟩ rfl rfl (Nat.le_of_ble_eq_true rfl) ⟨Nat.le_of_ble_eq_true rfl, Nat.le_of_ble_eq_true rfl⟩ dX6_write_76 ?_
      refine g_last (ws' := (mW E a (c.1, c.2.1, c.2.2.1, c.2.2.2.1, c.2.2.2.2.1, c.2.2.2.2.2.1, c.2.2.2.2.2.2.1, upN c.2.2.2.2.2.2.2.1 j (vp_updL (c.2.2.2.2.2.2.2.1 j) I0 (narL (c.2.2.2.2.2.1 (s0.toNatClampNeg)) v0)), c.2.2.2.2.2.2.2.2) h)) cx 9 rfl rfl (fl_in hj hI hj4 hI40) dX6_write_79 (congrArg (fun f => List.set (mW E a c h) 9 (a 9, .inl (gJ E, 160, .inr (.inl f)))) (fl_w c.2.2.2.2.2.2.2.1 hj hI hj4 hI40 (narL (c.2.2.2.2.2.1 (s0.toNatClampNeg)) v0))) ?_
      refine g_lload cx dX6_write_80 0 rfl ?_
      exact g_lret cx gr (Nat.zero_le _) (Nat.zero_le _) dX6_write_82 (mleafl (by rw [sp_write, if_neg hw1, if_neg hw2, if_neg hq.1, if_pos hq.2, hjc, hIc]; rfl))
    · refine g_aload_n cx dX6_write_38 1 rfl ?_
      refine g_ldc cx m1X6_write_c45 dX6_write_39 ?_
      refine g_VSi (rest := []) (As := [.int (-1000000001)]) cx hYX6_finds gX6_write_X6_finds (c_X6_finds l E a c h (-1000000001) (by unfold vp_in; decide +kernel)) rfl rfl rfl ⟨Nat.le_of_ble_eq_true rfl, Nat.le_of_ble_eq_true rfl⟩ rfl rfl (Nat.le_of_ble_eq_true rfl) ⟨Nat.le_of_ble_eq_true rfl, Nat.le_of_ble_eq_true rfl⟩ dX6_write_41 (fun r w1 hp => ?_)
      obtain ⟨rfl, rfl⟩ := hp
      refine g_i2l cx dX6_write_44 ?_
      exact g_lret cx gr (Nat.zero_le _) (Nat.zero_le _) dX6_write_45 (mleafl (wr_bad hw1 hw2 ((in_sz (by rw [hjc]; exact hz) hZ).mp c_2)))
  · refine g_aload_n cx dX6_write_12 1 rfl ?_
    refine g_iload cx dX6_write_13 0 rfl ?_
    refine g_VSi (rest := []) (As := [.int (wrS c.2.2.2.2.2.1 s0)]) cx hYX6_finds gX6_write_X6_finds (c_X6_finds l E a c h (wrS c.2.2.2.2.2.1 s0) (wr_in7 c_1)) rfl rfl rfl ⟨Nat.le_of_ble_eq_true rfl, Nat.le_of_ble_eq_true rfl⟩ rfl rfl (Nat.le_of_ble_eq_true rfl) ⟨Nat.le_of_ble_eq_true rfl, Nat.le_of_ble_eq_true rfl⟩ dX6_write_15 (fun r w1 hp => ?_)
    obtain ⟨rfl, rfl⟩ := hp
    refine g_i2l cx dX6_write_18 ?_
    exact g_lret cx gr (Nat.zero_le _) (Nat.zero_le _) dX6_write_19 (mleafl (by rw [sp_write]; exact wr_b (P := fun f => cBl f c) c_1 rfl rfl))
