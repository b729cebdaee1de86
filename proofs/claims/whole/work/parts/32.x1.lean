theorem man_0_b {c : Cor} {v : Int32} (h : isW v 0 7 = 0) : sp_man c 0 v = cB (-1000000001) c := by
  have q : isHis 0 v = 0 := by simp [isHis, h]
  rw [sp_man, if_pos q]
theorem man_0_k {c : Cor} {v : Int32} (h : ¬ isW v 0 7 = 0) : sp_man c 0 v = (c.1.2.1, (c.1.1, v, c.1.2.2.1, c.1.2.2.2.1, c.1.2.2.2.2.1, c.1.2.2.2.2.2.1, c.1.2.2.2.2.2.2.1, c.1.2.2.2.2.2.2.2.1, c.1.2.2.2.2.2.2.2.2.1, c.1.2.2.2.2.2.2.2.2.2.1, c.1.2.2.2.2.2.2.2.2.2.2), c.2) := by
  have q : ¬ isHis 0 v = 0 := by simp [isHis, h]
  rw [sp_man, if_neg q, show (1 + 0 : Int32).toNatClampNeg = 1 from rfl, put_1]
  rfl
theorem man_1_b {c : Cor} {v : Int32} (h : isW v 0 1 = 0) : sp_man c 1 v = cB (-1000000001) c := by
  have q : isHis 1 v = 0 := by simp [isHis, h]
  rw [sp_man, if_pos q]
theorem man_1_k {c : Cor} {v : Int32} (h : ¬ isW v 0 1 = 0) : sp_man c 1 v = (c.1.2.2.1, (c.1.1, c.1.2.1, v, c.1.2.2.2.1, c.1.2.2.2.2.1, c.1.2.2.2.2.2.1, c.1.2.2.2.2.2.2.1, c.1.2.2.2.2.2.2.2.1, c.1.2.2.2.2.2.2.2.2.1, c.1.2.2.2.2.2.2.2.2.2.1, c.1.2.2.2.2.2.2.2.2.2.2), c.2) := by
  have q : ¬ isHis 1 v = 0 := by simp [isHis, h]
  rw [sp_man, if_neg q, show (1 + 1 : Int32).toNatClampNeg = 2 from rfl, put_2]
  rfl
theorem man_2_b {c : Cor} {v : Int32} (h : isW v 0 999 = 0) : sp_man c 2 v = cB (-1000000001) c := by
  have q : isHis 2 v = 0 := by simp [isHis, h]
  rw [sp_man, if_pos q]
theorem man_2_k {c : Cor} {v : Int32} (h : ¬ isW v 0 999 = 0) : sp_man c 2 v = (c.1.2.2.2.1, (c.1.1, c.1.2.1, c.1.2.2.1, v, c.1.2.2.2.2.1, c.1.2.2.2.2.2.1, c.1.2.2.2.2.2.2.1, c.1.2.2.2.2.2.2.2.1, c.1.2.2.2.2.2.2.2.2.1, c.1.2.2.2.2.2.2.2.2.2.1, c.1.2.2.2.2.2.2.2.2.2.2), c.2) := by
  have q : ¬ isHis 2 v = 0 := by simp [isHis, h]
  rw [sp_man, if_neg q, show (1 + 2 : Int32).toNatClampNeg = 3 from rfl, put_3]
  rfl
theorem man_4_b {c : Cor} {v : Int32} (h : isW v 0 99 = 0) : sp_man c 4 v = cB (-1000000001) c := by
  have q : isHis 4 v = 0 := by simp [isHis, h]
  rw [sp_man, if_pos q]
theorem man_4_k {c : Cor} {v : Int32} (h : ¬ isW v 0 99 = 0) : sp_man c 4 v = (c.1.2.2.2.2.2.1, (c.1.1, c.1.2.1, c.1.2.2.1, c.1.2.2.2.1, c.1.2.2.2.2.1, v, c.1.2.2.2.2.2.2.1, c.1.2.2.2.2.2.2.2.1, c.1.2.2.2.2.2.2.2.2.1, c.1.2.2.2.2.2.2.2.2.2.1, c.1.2.2.2.2.2.2.2.2.2.2), c.2) := by
  have q : ¬ isHis 4 v = 0 := by simp [isHis, h]
  rw [sp_man, if_neg q, show (1 + 4 : Int32).toNatClampNeg = 5 from rfl, put_5]
  rfl
theorem rang_w {v : Int32} : isW v (-1) 6 = 0 ↔ (¬ v = -1 ∧ isW v 0 6 = 0) := by
  have e1 : (-1 : Int32).toInt = -1 := rfl
  have e0 : (0 : Int32).toInt = 0 := rfl
  have e6 : (6 : Int32).toInt = 6 := rfl
  unfold isW
  by_cases h1 : v < -1
  · have h2 : v < 0 := by rw [fc_lt, e1] at h1; rw [fc_lt, e0]; omega
    have h3 : ¬ v = -1 := by rintro rfl; revert h1; decide
    simp [h1, h2, h3]
  · by_cases h4 : (6 : Int32) < v
    · have h2 : ¬ v < 0 := by rw [fc_lt, e6] at h4; rw [fc_lt, e0]; omega
      have h3 : ¬ v = -1 := by rintro rfl; revert h4; decide
      simp [h1, h2, h3, h4]
    · by_cases h5 : v = -1
      · subst h5; decide
      · have h2 : ¬ v < 0 := by
          intro h6
          apply h5
          apply Int32.toInt_inj.mp
          rw [fc_lt, e1] at h1
          rw [fc_lt, e0] at h6
          rw [e1]
          omega
        simp [h1, h2, h4, h5]
theorem man_3_b {c : Cor} {v : Int32} (h1 : ¬ v = -1) (h2 : isW v 0 6 = 0) : sp_man c 3 v = cB (-1000000001) c := by
  have q : isHis 3 v = 0 := by
    show isW v (-1) 6 = 0
    exact rang_w.mpr ⟨h1, h2⟩
  rw [sp_man, if_pos q]
theorem man_3_k {c : Cor} {v : Int32} (h : v = -1 ∨ ¬ isW v 0 6 = 0) : sp_man c 3 v = (c.1.2.2.2.2.1, (c.1.1, c.1.2.1, c.1.2.2.1, c.1.2.2.2.1, v, c.1.2.2.2.2.2.1, c.1.2.2.2.2.2.2.1, c.1.2.2.2.2.2.2.2.1, c.1.2.2.2.2.2.2.2.2.1, c.1.2.2.2.2.2.2.2.2.2.1, c.1.2.2.2.2.2.2.2.2.2.2), c.2) := by
  have q : ¬ isHis 3 v = 0 := by
    show ¬ isW v (-1) 6 = 0
    rw [rang_w]
    rintro ⟨h1, h2⟩
    rcases h with h | h
    · exact h1 h
    · exact h h2
  rw [sp_man, if_neg q, show (1 + 3 : Int32).toNatClampNeg = 4 from rfl, put_4]
  rfl

abbrev rmX5_man : Room := { frames := 2, cells := 0, slots := 0, locals := 44 }
theorem hYX5_man : gY yX5_man wsX5_man cX5_man 3 (some .int) 2 := ⟨⟨_, rfl⟩, by decide +kernel, by decide +kernel, by decide +kernel⟩
theorem m1X5_man_c61 : Cond.constant RX5 61 (-1000000001) ∈ wsX5_man := by decide +kernel
theorem iwX5_man_X5 : ∀ w ∈ u_ws RX5 TX5 8, w ∈ wsX5_man := by decide +kernel
theorem lkX5_man_10 : Cond.fieldLink RX5 10 "MuffinBells" "present" "LMuffinBells$Terrace;" ∈ wsX5_man := by decide +kernel
set_option maxRecDepth 100000 in
set_option maxHeartbeats 4000000 in
theorem c_X5_man (l : Launch) (E : gE) (a : Nat → Nat) (c : Cor) (g : Gar) (w0 : Int32) (v0 : Int32) (hok : cOk c) : cti l yX5_man wsX5_man rmX5_man E [.ref (a 0), .int w0, .int v0] (xW E a c g) (fun r w => ∃ g', r = (sp_man c w0 v0).1 ∧ w = xW E a (sp_man c w0 v0).2 g') := by
  refine mt_i (cc := cX5_man) (maxL := 3) (ret := some .int) (lv0 := [(0, .ref (a 0)), (1, .int w0), (2, .int v0)]) (by decide) rfl rfl (Nat.le_of_ble_eq_true rfl) (fun X cx gr hI => ?_)
  refine g_iload_n cx dX5_man_0 1 rfl ?_
  refine g_tsw cx dX5_man_1 175 (by decide) (fun j hj cs_1 => ?_) (fun cs_1 => ?_)
  · rcases j with _ | _ | _ | _ | _ | j
    · refine ⟨_, 36, rfl, by decide, ?_⟩
      have cs_1 : w0 = 0 := Int32.toInt_inj.mp (cs_1.trans (by decide))
      refine g_iload_n cx dX5_man_36 2 rfl ?_
      refine g_SPi (rest := []) (As := [.int v0]) cx hYX5_isHouse gX5_man_X5_isHouse (c_X5_isHouse l E v0 ) ⟨Nat.le_of_ble_eq_true rfl, Nat.le_of_ble_eq_true rfl⟩ rfl rfl (Nat.le_of_ble_eq_true rfl) ⟨Nat.le_of_ble_eq_true rfl, Nat.le_of_ble_eq_true rfl⟩ dX5_man_37 ?_
      refine g_if_eq (tgt := 54) cx dX5_man_40 (by decide) (fun c_2 => ?_) (fun c_2 => ?_)
      · refine g_aload_n cx dX5_man_54 0 rfl ?_
        refine g_ldc cx m1X5_man_c61 dX5_man_55 ?_
        refine g_VSi (rest := []) (As := [.int (-1000000001)]) cx hYX5_finding gX5_man_X5_finding (c_X5_finding l E a c g (-1000000001) (by unfold vp_in; decide +kernel)) rfl rfl rfl ⟨Nat.le_of_ble_eq_true rfl, Nat.le_of_ble_eq_true rfl⟩ rfl rfl (Nat.le_of_ble_eq_true rfl) ⟨Nat.le_of_ble_eq_true rfl, Nat.le_of_ble_eq_true rfl⟩ dX5_man_57 (fun r w1 hp => ?_)
        obtain ⟨rfl, rfl⟩ := hp
        exact g_iret cx gr (Nat.zero_le _) (Nat.zero_le _) dX5_man_60 (xleaf (by rw [cs_1]; exact man_0_b c_2))
      · refine g_aload_n cx dX5_man_43 0 rfl ?_
        refine g_get (C := RX5) (T := TX5) (N := 8) (v := .ref (a 1)) cx iwX5_man_X5 0 0 rfl rfl (by decide) lkX5_man_10 rfl dX5_man_44 ?_
        refine g_iload_n cx dX5_man_47 2 rfl ?_
        refine g_Xpi (rest := []) (As := [.int v0]) cx hYX3_putMan gX5_man_X3_putMan (c_X3_putMan l E (fun i => a (1 + i)) c.1 v0 ) rfl ⟨Nat.le_of_ble_eq_true rfl, Nat.le_of_ble_eq_true rfl⟩ rfl rfl (Nat.le_of_ble_eq_true rfl) ⟨Nat.le_of_ble_eq_true rfl, Nat.le_of_ble_eq_true rfl⟩ dX5_man_48 ?_
        refine g_goto (tgt := 60) cx dX5_man_51 (by decide) ?_
        exact g_iret cx gr (Nat.zero_le _) (Nat.zero_le _) dX5_man_60 (xleaf (by rw [cs_1]; exact man_0_k c_2))
    · refine ⟨_, 61, rfl, by decide, ?_⟩
      have cs_1 : w0 = 1 := Int32.toInt_inj.mp (cs_1.trans (by decide))
      refine g_iload_n cx dX5_man_61 2 rfl ?_
      refine g_iconst (v := 0) cx dX5_man_62 (by decide) ?_
      refine g_iconst (v := 1) cx dX5_man_63 (by decide) ?_
      refine g_SPi (rest := []) (As := [.int v0, .int 0, .int 1]) cx hYX5_isWithin gX5_man_X5_isWithin (c_X5_isWithin l E v0 0 1 ) ⟨Nat.le_of_ble_eq_true rfl, Nat.le_of_ble_eq_true rfl⟩ rfl rfl (Nat.le_of_ble_eq_true rfl) ⟨Nat.le_of_ble_eq_true rfl, Nat.le_of_ble_eq_true rfl⟩ dX5_man_64 ?_
      refine g_if_eq (tgt := 81) cx dX5_man_67 (by decide) (fun c_3 => ?_) (fun c_3 => ?_)
      · refine g_aload_n cx dX5_man_81 0 rfl ?_
        refine g_ldc cx m1X5_man_c61 dX5_man_82 ?_
        refine g_VSi (rest := []) (As := [.int (-1000000001)]) cx hYX5_finding gX5_man_X5_finding (c_X5_finding l E a c g (-1000000001) (by unfold vp_in; decide +kernel)) rfl rfl rfl ⟨Nat.le_of_ble_eq_true rfl, Nat.le_of_ble_eq_true rfl⟩ rfl rfl (Nat.le_of_ble_eq_true rfl) ⟨Nat.le_of_ble_eq_true rfl, Nat.le_of_ble_eq_true rfl⟩ dX5_man_84 (fun r w1 hp => ?_)
        obtain ⟨rfl, rfl⟩ := hp
        exact g_iret cx gr (Nat.zero_le _) (Nat.zero_le _) dX5_man_87 (xleaf (by rw [cs_1]; exact man_1_b c_3))
      · refine g_aload_n cx dX5_man_70 0 rfl ?_
        refine g_get (C := RX5) (T := TX5) (N := 8) (v := .ref (a 1)) cx iwX5_man_X5 0 0 rfl rfl (by decide) lkX5_man_10 rfl dX5_man_71 ?_
        refine g_iload_n cx dX5_man_74 2 rfl ?_
        refine g_Xpi (rest := []) (As := [.int v0]) cx hYX3_putWay gX5_man_X3_putWay (c_X3_putWay l E (fun i => a (1 + i)) c.1 v0 ) rfl ⟨Nat.le_of_ble_eq_true rfl, Nat.le_of_ble_eq_true rfl⟩ rfl rfl (Nat.le_of_ble_eq_true rfl) ⟨Nat.le_of_ble_eq_true rfl, Nat.le_of_ble_eq_true rfl⟩ dX5_man_75 ?_
        refine g_goto (tgt := 87) cx dX5_man_78 (by decide) ?_
        exact g_iret cx gr (Nat.zero_le _) (Nat.zero_le _) dX5_man_87 (xleaf (by rw [cs_1]; exact man_1_k c_3))
    · refine ⟨_, 88, rfl, by decide, ?_⟩
      have cs_1 : w0 = 2 := Int32.toInt_inj.mp (cs_1.trans (by decide))
      refine g_iload_n cx dX5_man_88 2 rfl ?_
      refine g_iconst (v := 0) cx dX5_man_89 (by decide) ?_
      refine g_sipush (v := 999) cx dX5_man_90 (by decide) ?_
      refine g_SPi (rest := []) (As := [.int v0, .int 0, .int 999]) cx hYX5_isWithin gX5_man_X5_isWithin (c_X5_isWithin l E v0 0 999 ) ⟨Nat.le_of_ble_eq_true rfl, Nat.le_of_ble_eq_true rfl⟩ rfl rfl (Nat.le_of_ble_eq_true rfl) ⟨Nat.le_of_ble_eq_true rfl, Nat.le_of_ble_eq_true rfl⟩ dX5_man_93 ?_
      refine g_if_eq (tgt := 110) cx dX5_man_96 (by decide) (fun c_4 => ?_) (fun c_4 => ?_)
      · refine g_aload_n cx dX5_man_110 0 rfl ?_
        refine g_ldc cx m1X5_man_c61 dX5_man_111 ?_
        refine g_VSi (rest := []) (As := [.int (-1000000001)]) cx hYX5_finding gX5_man_X5_finding (c_X5_finding l E a c g (-1000000001) (by unfold vp_in; decide +kernel)) rfl rfl rfl ⟨Nat.le_of_ble_eq_true rfl, Nat.le_of_ble_eq_true rfl⟩ rfl rfl (Nat.le_of_ble_eq_true rfl) ⟨Nat.le_of_ble_eq_true rfl, Nat.le_of_ble_eq_true rfl⟩ dX5_man_113 (fun r w1 hp => ?_)
        obtain ⟨rfl, rfl⟩ := hp
        exact g_iret cx gr (Nat.zero_le _) (Nat.zero_le _) dX5_man_116 (xleaf (by rw [cs_1]; exact man_2_b c_4))
      · refine g_aload_n cx dX5_man_99 0 rfl ?_
        refine g_get (C := RX5) (T := TX5) (N := 8) (v := .ref (a 1)) cx iwX5_man_X5 0 0 rfl rfl (by decide) lkX5_man_10 rfl dX5_man_100 ?_
        refine g_iload_n cx dX5_man_103 2 rfl ?_
        refine g_Xpi (rest := []) (As := [.int v0]) cx hYX3_putTray gX5_man_X3_putTray (c_X3_putTray l E (fun i => a (1 + i)) c.1 v0 ) rfl ⟨Nat.le_of_ble_eq_true rfl, Nat.le_of_ble_eq_true rfl⟩ rfl rfl (Nat.le_of_ble_eq_true rfl) ⟨Nat.le_of_ble_eq_true rfl, Nat.le_of_ble_eq_true rfl⟩ dX5_man_104 ?_
        refine g_goto (tgt := 116) cx dX5_man_107 (by decide) ?_
        exact g_iret cx gr (Nat.zero_le _) (Nat.zero_le _) dX5_man_116 (xleaf (by rw [cs_1]; exact man_2_k c_4))
    · refine ⟨_, 117, rfl, by decide, ?_⟩
      have cs_1 : w0 = 3 := Int32.toInt_inj.mp (cs_1.trans (by decide))
      refine g_iload_n cx dX5_man_117 2 rfl ?_
      refine g_iconst (v := (-1)) cx dX5_man_118 (by decide) ?_
      refine g_icmp_eq (tgt := 129) cx dX5_man_119 (by decide) (fun c_5 => ?_) (fun c_5 => ?_)
      · refine g_aload_n cx dX5_man_129 0 rfl ?_
        refine g_get (C := RX5) (T := TX5) (N := 8) (v := .ref (a 1)) cx iwX5_man_X5 0 0 rfl rfl (by decide) lkX5_man_10 rfl dX5_man_130 ?_
        refine g_iload_n cx dX5_man_133 2 rfl ?_
        refine g_Xpi (rest := []) (As := [.int v0]) cx hYX3_putRang gX5_man_X3_putRang (c_X3_putRang l E (fun i => a (1 + i)) c.1 v0 ) rfl ⟨Nat.le_of_ble_eq_true rfl, Nat.le_of_ble_eq_true rfl⟩ rfl rfl (Nat.le_of_ble_eq_true rfl) ⟨Nat.le_of_ble_eq_true rfl, Nat.le_of_ble_eq_true rfl⟩ dX5_man_134 ?_
        refine g_goto (tgt := 146) cx dX5_man_137 (by decide) ?_
        exact g_iret cx gr (Nat.zero_le _) (Nat.zero_le _) dX5_man_146 (xleaf (by rw [cs_1]; exact man_3_k (Or.inl c_5)))
      · refine g_iload_n cx dX5_man_122 2 rfl ?_
        refine g_SPi (rest := []) (As := [.int v0]) cx hYX5_isTone gX5_man_X5_isTone (c_X5_isTone l E v0 ) ⟨Nat.le_of_ble_eq_true rfl, Nat.le_of_ble_eq_true rfl⟩ rfl rfl (Nat.le_of_ble_eq_true rfl) ⟨Nat.le_of_ble_eq_true rfl, Nat.le_of_ble_eq_true rfl⟩ dX5_man_123 ?_
        refine g_if_eq (tgt := 140) cx dX5_man_126 (by decide) (fun c_6 => ?_) (fun c_6 => ?_)
        · refine g_aload_n cx dX5_man_140 0 rfl ?_
          refine g_ldc cx m1X5_man_c61 dX5_man_141 ?_
          refine g_VSi (rest := []) (As := [.int (-1000000001)]) cx hYX5_finding gX5_man_X5_finding (c_X5_finding l E a c g (-1000000001) (by unfold vp_in; decide +kernel)) rfl rfl rfl ⟨Nat.le_of_ble_eq_true rfl, Nat.le_of_ble_eq_true rfl⟩ rfl rfl (Nat.le_of_ble_eq_true rfl) ⟨Nat.le_of_ble_eq_true rfl, Nat.le_of_ble_eq_true rfl⟩ dX5_man_143 (fun r w1 hp => ?_)
          obtain ⟨rfl, rfl⟩ := hp
          exact g_iret cx gr (Nat.zero_le _) (Nat.zero_le _) dX5_man_146 (xleaf (by rw [cs_1]; exact man_3_b c_5 c_6))
        · refine g_aload_n cx dX5_man_129 0 rfl ?_
          refine g_get (C := RX5) (T := TX5) (N := 8) (v := .ref (a 1)) cx iwX5_man_X5 0 0 rfl rfl (by decide) lkX5_man_10 rfl dX5_man_130 ?_
          refine g_iload_n cx dX5_man_133 2 rfl ?_
          refine g_Xpi (rest := []) (As := [.int v0]) cx hYX3_putRang gX5_man_X3_putRang (c_X3_putRang l E (fun i => a (1 + i)) c.1 v0 ) rfl ⟨Nat.le_of_ble_eq_true rfl, Nat.le_of_ble_eq_true rfl⟩ rfl rfl (Nat.le_of_ble_eq_true rfl) ⟨Nat.le_of_ble_eq_true rfl, Nat.le_of_ble_eq_true rfl⟩ dX5_man_134 ?_
          refine g_goto (tgt := 146) cx dX5_man_137 (by decide) ?_
          exact g_iret cx gr (Nat.zero_le _) (Nat.zero_le _) dX5_man_146 (xleaf (by rw [cs_1]; exact man_3_k (Or.inr c_6)))
    · refine ⟨_, 147, rfl, by decide, ?_⟩
      have cs_1 : w0 = 4 := Int32.toInt_inj.mp (cs_1.trans (by decide))
      refine g_iload_n cx dX5_man_147 2 rfl ?_
      refine g_iconst (v := 0) cx dX5_man_148 (by decide) ?_
      refine g_bipush (v := 99) cx dX5_man_149 (by decide) ?_
      refine g_SPi (rest := []) (As := [.int v0, .int 0, .int 99]) cx hYX5_isWithin gX5_man_X5_isWithin (c_X5_isWithin l E v0 0 99 ) ⟨Nat.le_of_ble_eq_true rfl, Nat.le_of_ble_eq_true rfl⟩ rfl rfl (Nat.le_of_ble_eq_true rfl) ⟨Nat.le_of_ble_eq_true rfl, Nat.le_of_ble_eq_true rfl⟩ dX5_man_151 ?_
      refine g_if_eq (tgt := 168) cx dX5_man_154 (by decide) (fun c_7 => ?_) (fun c_7 => ?_)
      · refine g_aload_n cx dX5_man_168 0 rfl ?_
        refine g_ldc cx m1X5_man_c61 dX5_man_169 ?_
        refine g_VSi (rest := []) (As := [.int (-1000000001)]) cx hYX5_finding gX5_man_X5_finding (c_X5_finding l E a c g (-1000000001) (by unfold vp_in; decide +kernel)) rfl rfl rfl ⟨Nat.le_of_ble_eq_true rfl, Nat.le_of_ble_eq_true rfl⟩ rfl rfl (Nat.le_of_ble_eq_true rfl) ⟨Nat.le_of_ble_eq_true rfl, Nat.le_of_ble_eq_true rfl⟩ dX5_man_171 (fun r w1 hp => ?_)
        obtain ⟨rfl, rfl⟩ := hp
        exact g_iret cx gr (Nat.zero_le _) (Nat.zero_le _) dX5_man_174 (xleaf (by rw [cs_1]; exact man_4_b c_7))
      · refine g_aload_n cx dX5_man_157 0 rfl ?_
        refine g_get (C := RX5) (T := TX5) (N := 8) (v := .ref (a 1)) cx iwX5_man_X5 0 0 rfl rfl (by decide) lkX5_man_10 rfl dX5_man_158 ?_
        refine g_iload_n cx dX5_man_161 2 rfl ?_
        refine g_Xpi (rest := []) (As := [.int v0]) cx hYX3_putCrack gX5_man_X3_putCrack (c_X3_putCrack l E (fun i => a (1 + i)) c.1 v0 ) rfl ⟨Nat.le_of_ble_eq_true rfl, Nat.le_of_ble_eq_true rfl⟩ rfl rfl (Nat.le_of_ble_eq_true rfl) ⟨Nat.le_of_ble_eq_true rfl, Nat.le_of_ble_eq_true rfl⟩ dX5_man_162 ?_
        refine g_goto (tgt := 174) cx dX5_man_165 (by decide) ?_
        exact g_iret cx gr (Nat.zero_le _) (Nat.zero_le _) dX5_man_174 (xleaf (by rw [cs_1]; exact man_4_k c_7))
    · exact absurd hj (by omega)
  · have hsx := cs_1
    have cs_1_0 : ¬ w0 = 0 := sw_ne cs_1 (by decide)
    have cs_1_1 : ¬ w0 = 1 := sw_ne cs_1 (by decide)
    have cs_1_2 : ¬ w0 = 2 := sw_ne cs_1 (by decide)
    have cs_1_3 : ¬ w0 = 3 := sw_ne cs_1 (by decide)
    have cs_1_4 : ¬ w0 = 4 := sw_ne cs_1 (by decide)
    refine g_aload_n cx dX5_man_175 0 rfl ?_
    refine g_ldc cx m1X5_man_c61 dX5_man_176 ?_
    refine g_VSi (rest := []) (As := [.int (-1000000001)]) cx hYX5_finding gX5_man_X5_finding (c_X5_finding l E a c g (-1000000001) (by unfold vp_in; decide +kernel)) rfl rfl rfl ⟨Nat.le_of_ble_eq_true rfl, Nat.le_of_ble_eq_true rfl⟩ rfl rfl (Nat.le_of_ble_eq_true rfl) ⟨Nat.le_of_ble_eq_true rfl, Nat.le_of_ble_eq_true rfl⟩ dX5_man_178 (fun r w1 hp => ?_)
    obtain ⟨rfl, rfl⟩ := hp
    exact g_iret cx gr (Nat.zero_le _) (Nat.zero_le _) dX5_man_181 (xleaf (by rw [sp_man, isHis, if_neg cs_1_0, if_neg cs_1_1, if_neg cs_1_2, if_neg cs_1_3, if_neg cs_1_4, if_pos rfl]; rfl))

theorem isW_out {w : Int32} {lo hi : Int32} (h : w.toInt < lo.toInt ∨ hi.toInt < w.toInt) : isW w lo hi = 0 := by
  unfold isW
  by_cases h1 : w < lo
  · rw [if_pos h1]
  · rw [if_neg h1, if_pos]
    rw [fc_lt] at h1 ⊢
    omega
theorem now_b {c : Cor} {w : Int32} (h : w.toInt < 0 ∨ 7 < w.toInt) : sp_now c w = cB (-1000000001) c := by
  rw [sp_now, if_pos (isW_out (lo := 0) (hi := 7) h)]
theorem now_7z {c : Cor} (h : sRest c.1.1 = 0) : sp_now c 7 = (0, c) := by
  rw [sp_now, if_neg (by decide), if_pos (by decide), h]
theorem now_7o {c : Cor} (h : ¬ sRest c.1.1 = 0) : sp_now c 7 = (1, c) := by
  rw [sp_now, if_neg (by decide), if_pos (by decide)]
  rcases sRest_b c.1.1 with q | q
  · exact absurd q h
  · rw [q]

abbrev rmX5_now : Room := { frames := 2, cells := 0, slots := 0, locals := 44 }
theorem hYX5_now : gY yX5_now wsX5_now cX5_now 2 (some .int) 1 := ⟨⟨_, rfl⟩, by decide +kernel, by decide +kernel, by decide +kernel⟩
theorem iwX5_now_X5 : ∀ w ∈ u_ws RX5 TX5 8, w ∈ wsX5_now := by decide +kernel
theorem lkX5_now_10 : Cond.fieldLink RX5 10 "MuffinBells" "present" "LMuffinBells$Terrace;" ∈ wsX5_now := by decide +kernel
theorem iwX5_now_X3 : ∀ w ∈ u_ws RX3 TX3 11, w ∈ wsX5_now := by decide +kernel
theorem lkX5_now_84 : Cond.fieldLink RX5 84 "MuffinBells$Terrace" "hour" "I" ∈ wsX5_now := by decide +kernel
theorem lkX5_now_88 : Cond.fieldLink RX5 88 "MuffinBells$Terrace" "at" "I" ∈ wsX5_now := by decide +kernel
theorem lkX5_now_91 : Cond.fieldLink RX5 91 "MuffinBells$Terrace" "way" "I" ∈ wsX5_now := by decide +kernel
theorem lkX5_now_94 : Cond.fieldLink RX5 94 "MuffinBells$Terrace" "tray" "I" ∈ wsX5_now := by decide +kernel
theorem lkX5_now_97 : Cond.fieldLink RX5 97 "MuffinBells$Terrace" "rang" "I" ∈ wsX5_now := by decide +kernel
theorem lkX5_now_100 : Cond.fieldLink RX5 100 "MuffinBells$Terrace" "crack" "I" ∈ wsX5_now := by decide +kernel
theorem lkX5_now_103 : Cond.fieldLink RX5 103 "MuffinBells$Terrace" "takings" "I" ∈ wsX5_now := by decide +kernel
theorem m1X5_now_c61 : Cond.constant RX5 61 (-1000000001) ∈ wsX5_now := by decide +kernel
set_option maxRecDepth 100000 in
set_option maxHeartbeats 4000000 in
theorem c_X5_now (l : Launch) (E : gE) (a : Nat → Nat) (c : Cor) (g : Gar) (w0 : Int32) (hok : cOk c) : cti l yX5_now wsX5_now rmX5_now E [.ref (a 0), .int w0] (xW E a c g) (fun r w => ∃ g', r = (sp_now c w0).1 ∧ w = xW E a (sp_now c w0).2 g') := by
  refine mt_i (cc := cX5_now) (maxL := 2) (ret := some .int) (lv0 := [(0, .ref (a 0)), (1, .int w0)]) (by decide) rfl rfl (Nat.le_of_ble_eq_true rfl) (fun X cx gr hI => ?_)
  refine g_iload_n cx dX5_now_0 1 rfl ?_
  refine g_tsw cx dX5_now_1 120 (by decide) (fun j hj cs_1 => ?_) (fun cs_1 => ?_)
  · rcases j with _ | _ | _ | _ | _ | _ | _ | _ | j
    · refine ⟨_, 48, rfl, by decide, ?_⟩
      have cs_1 : w0 = 0 := Int32.toInt_inj.mp (cs_1.trans (by decide))
      refine g_aload_n cx dX5_now_48 0 rfl ?_
      refine g_get (C := RX5) (T := TX5) (N := 8) (v := .ref (a 1)) cx iwX5_now_X5 0 0 rfl rfl (by decide) lkX5_now_10 rfl dX5_now_49 ?_
      refine g_get (C := RX3) (T := TX3) (N := 11) (v := .int c.1.1) cx iwX5_now_X3 1 0 rfl rfl (by decide) lkX5_now_84 rfl dX5_now_52 ?_
      exact g_iret cx gr (Nat.zero_le _) (Nat.zero_le _) dX5_now_55 (xleaf (by rw [cs_1]; rfl))
    · refine ⟨_, 56, rfl, by decide, ?_⟩
      have cs_1 : w0 = 1 := Int32.toInt_inj.mp (cs_1.trans (by decide))
      refine g_aload_n cx dX5_now_56 0 rfl ?_
      refine g_get (C := RX5) (T := TX5) (N := 8) (v := .ref (a 1)) cx iwX5_now_X5 0 0 rfl rfl (by decide) lkX5_now_10 rfl dX5_now_57 ?_
      refine g_get (C := RX3) (T := TX3) (N := 11) (v := .int c.1.2.1) cx iwX5_now_X3 1 1 rfl rfl (by decide) lkX5_now_88 rfl dX5_now_60 ?_
      exact g_iret cx gr (Nat.zero_le _) (Nat.zero_le _) dX5_now_63 (xleaf (by rw [cs_1]; rfl))
    · refine ⟨_, 64, rfl, by decide, ?_⟩
      have cs_1 : w0 = 2 := Int32.toInt_inj.mp (cs_1.trans (by decide))
      refine g_aload_n cx dX5_now_64 0 rfl ?_
      refine g_get (C := RX5) (T := TX5) (N := 8) (v := .ref (a 1)) cx iwX5_now_X5 0 0 rfl rfl (by decide) lkX5_now_10 rfl dX5_now_65 ?_
      refine g_get (C := RX3) (T := TX3) (N := 11) (v := .int c.1.2.2.1) cx iwX5_now_X3 1 2 rfl rfl (by decide) lkX5_now_91 rfl dX5_now_68 ?_
      exact g_iret cx gr (Nat.zero_le _) (Nat.zero_le _) dX5_now_71 (xleaf (by rw [cs_1]; rfl))
    · refine ⟨_, 72, rfl, by decide, ?_⟩
      have cs_1 : w0 = 3 := Int32.toInt_inj.mp (cs_1.trans (by decide))
      refine g_aload_n cx dX5_now_72 0 rfl ?_
      refine g_get (C := RX5) (T := TX5) (N := 8) (v := .ref (a 1)) cx iwX5_now_X5 0 0 rfl rfl (by decide) lkX5_now_10 rfl dX5_now_73 ?_
      refine g_get (C := RX3) (T := TX3) (N := 11) (v := .int c.1.2.2.2.1) cx iwX5_now_X3 1 3 rfl rfl (by decide) lkX5_now_94 rfl dX5_now_76 ?_
      exact g_iret cx gr (Nat.zero_le _) (Nat.zero_le _) dX5_now_79 (xleaf (by rw [cs_1]; rfl))
    · refine ⟨_, 80, rfl, by decide, ?_⟩
      have cs_1 : w0 = 4 := Int32.toInt_inj.mp (cs_1.trans (by decide))
      refine g_aload_n cx dX5_now_80 0 rfl ?_
      refine g_get (C := RX5) (T := TX5) (N := 8) (v := .ref (a 1)) cx iwX5_now_X5 0 0 rfl rfl (by decide) lkX5_now_10 rfl dX5_now_81 ?_
      refine g_get (C := RX3) (T := TX3) (N := 11) (v := .int c.1.2.2.2.2.1) cx iwX5_now_X3 1 4 rfl rfl (by decide) lkX5_now_97 rfl dX5_now_84 ?_
      exact g_iret cx gr (Nat.zero_le _) (Nat.zero_le _) dX5_now_87 (xleaf (by rw [cs_1]; rfl))
    · refine ⟨_, 88, rfl, by decide, ?_⟩
      have cs_1 : w0 = 5 := Int32.toInt_inj.mp (cs_1.trans (by decide))
      refine g_aload_n cx dX5_now_88 0 rfl ?_
      refine g_get (C := RX5) (T := TX5) (N := 8) (v := .ref (a 1)) cx iwX5_now_X5 0 0 rfl rfl (by decide) lkX5_now_10 rfl dX5_now_89 ?_
      refine g_get (C := RX3) (T := TX3) (N := 11) (v := .int c.1.2.2.2.2.2.1) cx iwX5_now_X3 1 5 rfl rfl (by decide) lkX5_now_100 rfl dX5_now_92 ?_
      exact g_iret cx gr (Nat.zero_le _) (Nat.zero_le _) dX5_now_95 (xleaf (by rw [cs_1]; rfl))
    · refine ⟨_, 96, rfl, by decide, ?_⟩
      have cs_1 : w0 = 6 := Int32.toInt_inj.mp (cs_1.trans (by decide))
      refine g_aload_n cx dX5_now_96 0 rfl ?_
      refine g_get (C := RX5) (T := TX5) (N := 8) (v := .ref (a 1)) cx iwX5_now_X5 0 0 rfl rfl (by decide) lkX5_now_10 rfl dX5_now_97 ?_
      refine g_get (C := RX3) (T := TX3) (N := 11) (v := .int c.1.2.2.2.2.2.2.1) cx iwX5_now_X3 1 6 rfl rfl (by decide) lkX5_now_103 rfl dX5_now_100 ?_
      exact g_iret cx gr (Nat.zero_le _) (Nat.zero_le _) dX5_now_103 (xleaf (by rw [cs_1]; rfl))
    · refine ⟨_, 104, rfl, by decide, ?_⟩
      have cs_1 : w0 = 7 := Int32.toInt_inj.mp (cs_1.trans (by decide))
      refine g_aload_n cx dX5_now_104 0 rfl ?_
      refine g_get (C := RX5) (T := TX5) (N := 8) (v := .ref (a 1)) cx iwX5_now_X5 0 0 rfl rfl (by decide) lkX5_now_10 rfl dX5_now_105 ?_
      refine g_Xpi (rest := []) (As := []) cx hYX3_isResting gX5_now_X3_isResting (c_X3_isResting l E (fun i => a (1 + i)) c.1  ) rfl ⟨Nat.le_of_ble_eq_true rfl, Nat.le_of_ble_eq_true rfl⟩ rfl rfl (Nat.le_of_ble_eq_true rfl) ⟨Nat.le_of_ble_eq_true rfl, Nat.le_of_ble_eq_true rfl⟩ dX5_now_108 ?_
      refine g_if_eq (tgt := 118) cx dX5_now_111 (by decide) (fun c_2 => ?_) (fun c_2 => ?_)
      · refine g_iconst (v := 0) cx dX5_now_118 (by decide) ?_
        exact g_iret cx gr (Nat.zero_le _) (Nat.zero_le _) dX5_now_119 (xleaf (by rw [cs_1]; exact now_7z c_2))
      · refine g_iconst (v := 1) cx dX5_now_114 (by decide) ?_
        refine g_goto (tgt := 119) cx dX5_now_115 (by decide) ?_
        exact g_iret cx gr (Nat.zero_le _) (Nat.zero_le _) dX5_now_119 (xleaf (by rw [cs_1]; exact now_7o c_2))
    · exact absurd hj (by omega)
  · have hsx := cs_1
    have cs_1_0 : ¬ w0 = 0 := sw_ne cs_1 (by decide)
    have cs_1_1 : ¬ w0 = 1 := sw_ne cs_1 (by decide)
    have cs_1_2 : ¬ w0 = 2 := sw_ne cs_1 (by decide)
    have cs_1_3 : ¬ w0 = 3 := sw_ne cs_1 (by decide)
    have cs_1_4 : ¬ w0 = 4 := sw_ne cs_1 (by decide)
    have cs_1_5 : ¬ w0 = 5 := sw_ne cs_1 (by decide)
    have cs_1_6 : ¬ w0 = 6 := sw_ne cs_1 (by decide)
    have cs_1_7 : ¬ w0 = 7 := sw_ne cs_1 (by decide)
    refine g_aload_n cx dX5_now_120 0 rfl ?_
    refine g_ldc cx m1X5_now_c61 dX5_now_121 ?_
    refine g_VSi (rest := []) (As := [.int (-1000000001)]) cx hYX5_finding gX5_now_X5_finding (c_X5_finding l E a c g (-1000000001) (by unfold vp_in; decide +kernel)) rfl rfl rfl ⟨Nat.le_of_ble_eq_true rfl, Nat.le_of_ble_eq_true rfl⟩ rfl rfl (Nat.le_of_ble_eq_true rfl) ⟨Nat.le_of_ble_eq_true rfl, Nat.le_of_ble_eq_true rfl⟩ dX5_now_123 (fun r w1 hp => ?_)
    obtain ⟨rfl, rfl⟩ := hp
    exact g_iret cx gr (Nat.zero_le _) (Nat.zero_le _) dX5_now_126 (xleaf (now_b hsx))

abbrev rmX5_of : Room := { frames := 2, cells := 0, slots := 0, locals := 46 }
theorem hYX5_of : gY yX5_of wsX5_of cX5_of 3 (some .int) 2 := ⟨⟨_, rfl⟩, by decide +kernel, by decide +kernel, by decide +kernel⟩
theorem iwX5_of_X5 : ∀ w ∈ u_ws RX5 TX5 8, w ∈ wsX5_of := by decide +kernel
theorem lkX5_of_10 : Cond.fieldLink RX5 10 "MuffinBells" "present" "LMuffinBells$Terrace;" ∈ wsX5_of := by decide +kernel
theorem iwX5_of_X3 : ∀ w ∈ u_ws RX3 TX3 11, w ∈ wsX5_of := by decide +kernel
theorem lkX5_of_110 : Cond.fieldLink RX5 110 "MuffinBells$Terrace" "kinds" "[I" ∈ wsX5_of := by decide +kernel
theorem lkX5_of_113 : Cond.fieldLink RX5 113 "MuffinBells$Terrace" "moods" "[I" ∈ wsX5_of := by decide +kernel
theorem lkX5_of_116 : Cond.fieldLink RX5 116 "MuffinBells$Terrace" "pence" "[I" ∈ wsX5_of := by decide +kernel
theorem lkX5_of_119 : Cond.fieldLink RX5 119 "MuffinBells$Terrace" "ate" "[I" ∈ wsX5_of := by decide +kernel
theorem m1X5_of_c61 : Cond.constant RX5 61 (-1000000001) ∈ wsX5_of := by decide +kernel
set_option maxRecDepth 100000 in
set_option maxHeartbeats 4000000 in
theorem c_X5_of (l : Launch) (E : gE) (a : Nat → Nat) (c : Cor) (g : Gar) (h0 : Int32) (w0 : Int32) (hok : cOk c) : cti l yX5_of wsX5_of rmX5_of E [.ref (a 0), .int h0, .int w0] (xW E a c g) (fun r w => ∃ g', r = (sp_of c h0 w0).1 ∧ w = xW E a (sp_of c h0 w0).2 g') := by
  refine mt_i (cc := cX5_of) (maxL := 3) (ret := some .int) (lv0 := [(0, .ref (a 0)), (1, .int h0), (2, .int w0)]) (by decide) rfl rfl (Nat.le_of_ble_eq_true rfl) (fun X cx gr hI => ?_)
  refine g_iload_n cx dX5_of_0 1 rfl ?_
  refine g_SPi (rest := []) (As := [.int h0]) cx hYX5_isHouse gX5_of_X5_isHouse (c_X5_isHouse l E h0 ) ⟨Nat.le_of_ble_eq_true rfl, Nat.le_of_ble_eq_true rfl⟩ rfl rfl (Nat.le_of_ble_eq_true rfl) ⟨Nat.le_of_ble_eq_true rfl, Nat.le_of_ble_eq_true rfl⟩ dX5_of_1 ?_
  refine g_if_ne (tgt := 14) cx dX5_of_4 (by decide) (fun c_1 => ?_) (fun c_1 => ?_)
  · refine g_iload_n cx dX5_of_14 2 rfl ?_
    refine g_tsw cx dX5_of_15 97 (by decide) (fun j hj cs_2 => ?_) (fun cs_2 => ?_)
    · rcases j with _ | _ | _ | _ | _ | j
      · refine ⟨_, 48, rfl, by decide, ?_⟩
        have cs_2 : w0 = 0 := Int32.toInt_inj.mp (cs_2.trans (by decide))
        refine g_aload_n cx dX5_of_48 0 rfl ?_
        refine g_get (C := RX5) (T := TX5) (N := 8) (v := .ref (a 1)) cx iwX5_of_X5 0 0 rfl rfl (by decide) lkX5_of_10 rfl dX5_of_49 ?_
        refine g_get (C := RX3) (T := TX3) (N := 11) (v := .ref (a 2)) cx iwX5_of_X3 1 7 rfl rfl (by decide) lkX5_of_110 rfl dX5_of_52 ?_
        refine g_iload_n cx dX5_of_55 1 rfl ?_
        refine g_iald cx 2 rfl rfl (isW_vp 7 c_1 (by decide)) dX5_of_56 ?_
        exact g_iret cx gr (Nat.zero_le _) (Nat.zero_le _) dX5_of_57 (xleaf (by rw [cs_2, sp_of, if_neg c_1, if_neg (by decide), if_neg (by decide), sp_K (isW_vp 7 c_1 (by decide))]))
      · refine ⟨_, 58, rfl, by decide, ?_⟩
        have cs_2 : w0 = 1 := Int32.toInt_inj.mp (cs_2.trans (by decide))
        refine g_aload_n cx dX5_of_58 0 rfl ?_
        refine g_get (C := RX5) (T := TX5) (N := 8) (v := .ref (a 1)) cx iwX5_of_X5 0 0 rfl rfl (by decide) lkX5_of_10 rfl dX5_of_59 ?_
        refine g_get (C := RX3) (T := TX3) (N := 11) (v := .ref (a 3)) cx iwX5_of_X3 1 8 rfl rfl (by decide) lkX5_of_113 rfl dX5_of_62 ?_
        refine g_iload_n cx dX5_of_65 1 rfl ?_
        refine g_iald cx 3 rfl rfl (isW_vp 7 c_1 (by decide)) dX5_of_66 ?_
        exact g_iret cx gr (Nat.zero_le _) (Nat.zero_le _) dX5_of_67 (xleaf (by rw [cs_2, sp_of, if_neg c_1, if_neg (by decide), if_neg (by decide), sp_M (isW_vp 7 c_1 (by decide))]))
      · refine ⟨_, 68, rfl, by decide, ?_⟩
        have cs_2 : w0 = 2 := Int32.toInt_inj.mp (cs_2.trans (by decide))
        refine g_aload_n cx dX5_of_68 0 rfl ?_
        refine g_get (C := RX5) (T := TX5) (N := 8) (v := .ref (a 1)) cx iwX5_of_X5 0 0 rfl rfl (by decide) lkX5_of_10 rfl dX5_of_69 ?_
        refine g_get (C := RX3) (T := TX3) (N := 11) (v := .ref (a 4)) cx iwX5_of_X3 1 9 rfl rfl (by decide) lkX5_of_116 rfl dX5_of_72 ?_
        refine g_iload_n cx dX5_of_75 1 rfl ?_
        refine g_iald cx 4 rfl rfl (isW_vp 7 c_1 (by decide)) dX5_of_76 ?_
        exact g_iret cx gr (Nat.zero_le _) (Nat.zero_le _) dX5_of_77 (xleaf (by rw [cs_2, sp_of, if_neg c_1, if_neg (by decide), if_neg (by decide), sp_P (isW_vp 7 c_1 (by decide))]))
      · refine ⟨_, 78, rfl, by decide, ?_⟩
        have cs_2 : w0 = 3 := Int32.toInt_inj.mp (cs_2.trans (by decide))
        refine g_aload_n cx dX5_of_78 0 rfl ?_
        refine g_get (C := RX5) (T := TX5) (N := 8) (v := .ref (a 1)) cx iwX5_of_X5 0 0 rfl rfl (by decide) lkX5_of_10 rfl dX5_of_79 ?_
        refine g_get (C := RX3) (T := TX3) (N := 11) (v := .ref (a 5)) cx iwX5_of_X3 1 10 rfl rfl (by decide) lkX5_of_119 rfl dX5_of_82 ?_
        refine g_iload_n cx dX5_of_85 1 rfl ?_
        refine g_iald cx 5 rfl rfl (isW_vp 7 c_1 (by decide)) dX5_of_86 ?_
        exact g_iret cx gr (Nat.zero_le _) (Nat.zero_le _) dX5_of_87 (xleaf (by rw [cs_2, sp_of, if_neg c_1, if_neg (by decide), if_neg (by decide), sp_A (isW_vp 7 c_1 (by decide))]))
      · refine ⟨_, 88, rfl, by decide, ?_⟩
        have cs_2 : w0 = 4 := Int32.toInt_inj.mp (cs_2.trans (by decide))
        refine g_aload_n cx dX5_of_88 0 rfl ?_
        refine g_get (C := RX5) (T := TX5) (N := 8) (v := .ref (a 1)) cx iwX5_of_X5 0 0 rfl rfl (by decide) lkX5_of_10 rfl dX5_of_89 ?_
        refine g_iload_n cx dX5_of_92 1 rfl ?_
        refine g_Xpi (rest := []) (As := [.int h0]) cx hYX3_toneAt gX5_of_X3_toneAt (c_X3_toneAt l E (fun i => a (1 + i)) c.1 h0 (isW_vp 7 c_1 (by decide))) rfl ⟨Nat.le_of_ble_eq_true rfl, Nat.le_of_ble_eq_true rfl⟩ rfl rfl (Nat.le_of_ble_eq_true rfl) ⟨Nat.le_of_ble_eq_true rfl, Nat.le_of_ble_eq_true rfl⟩ dX5_of_93 ?_
        exact g_iret cx gr (Nat.zero_le _) (Nat.zero_le _) dX5_of_96 (xleaf (by rw [cs_2, sp_of, if_neg c_1, if_neg (by decide), if_pos (by decide)]))
      · exact absurd hj (by omega)
    · have hsx := cs_2
      have cs_2_0 : ¬ w0 = 0 := sw_ne cs_2 (by decide)
      have cs_2_1 : ¬ w0 = 1 := sw_ne cs_2 (by decide)
      have cs_2_2 : ¬ w0 = 2 := sw_ne cs_2 (by decide)
      have cs_2_3 : ¬ w0 = 3 := sw_ne cs_2 (by decide)
      have cs_2_4 : ¬ w0 = 4 := sw_ne cs_2 (by decide)
      refine g_aload_n cx dX5_of_97 0 rfl ?_
      refine g_ldc cx m1X5_of_c61 dX5_of_98 ?_
      refine g_VSi (rest := []) (As := [.int (-1000000001)]) cx hYX5_finding gX5_of_X5_finding (c_X5_finding l E a c g (-1000000001) (by unfold vp_in; decide +kernel)) rfl rfl rfl ⟨Nat.le_of_ble_eq_true rfl, Nat.le_of_ble_eq_true rfl⟩ rfl rfl (Nat.le_of_ble_eq_true rfl) ⟨Nat.le_of_ble_eq_true rfl, Nat.le_of_ble_eq_true rfl⟩ dX5_of_100 (fun r w1 hp => ?_)
      obtain ⟨rfl, rfl⟩ := hp
      exact g_iret cx gr (Nat.zero_le _) (Nat.zero_le _) dX5_of_103 (xleaf (by rw [sp_of, if_neg c_1, if_pos (isW_out (lo := 0) (hi := 4) hsx)]; rfl))
  · refine g_aload_n cx dX5_of_7 0 rfl ?_
    refine g_ldc cx m1X5_of_c61 dX5_of_8 ?_
    refine g_VSi (rest := []) (As := [.int (-1000000001)]) cx hYX5_finding gX5_of_X5_finding (c_X5_finding l E a c g (-1000000001) (by unfold vp_in; decide +kernel)) rfl rfl rfl ⟨Nat.le_of_ble_eq_true rfl, Nat.le_of_ble_eq_true rfl⟩ rfl rfl (Nat.le_of_ble_eq_true rfl) ⟨Nat.le_of_ble_eq_true rfl, Nat.le_of_ble_eq_true rfl⟩ dX5_of_10 (fun r w1 hp => ?_)
    obtain ⟨rfl, rfl⟩ := hp
    exact g_iret cx gr (Nat.zero_le _) (Nat.zero_le _) dX5_of_13 (xleaf (by rw [sp_of, if_pos c_1]; rfl))

abbrev rmX5_minds : Room := { frames := 2, cells := 0, slots := 0, locals := 48 }
theorem hYX5_minds : gY yX5_minds wsX5_minds cX5_minds 3 (some .int) 2 := ⟨⟨_, rfl⟩, by decide +kernel, by decide +kernel, by decide +kernel⟩
theorem m1X5_minds_c61 : Cond.constant RX5 61 (-1000000001) ∈ wsX5_minds := by decide +kernel
theorem iwX5_minds_X5 : ∀ w ∈ u_ws RX5 TX5 8, w ∈ wsX5_minds := by decide +kernel
theorem lkX5_minds_10 : Cond.fieldLink RX5 10 "MuffinBells" "present" "LMuffinBells$Terrace;" ∈ wsX5_minds := by decide +kernel
set_option maxRecDepth 100000 in
set_option maxHeartbeats 4000000 in
theorem c_X5_minds (l : Launch) (E : gE) (a : Nat → Nat) (c : Cor) (g : Gar) (h0 : Int32) (t0 : Int32) (hok : cOk c) : cti l yX5_minds wsX5_minds rmX5_minds E [.ref (a 0), .int h0, .int t0] (xW E a c g) (fun r w => ∃ g', r = (sp_minds c h0 t0).1 ∧ w = xW E a (sp_minds c h0 t0).2 g') := by
  refine mt_i (cc := cX5_minds) (maxL := 3) (ret := some .int) (lv0 := [(0, .ref (a 0)), (1, .int h0), (2, .int t0)]) (by decide) rfl rfl (Nat.le_of_ble_eq_true rfl) (fun X cx gr hI => ?_)
  refine g_iload_n cx dX5_minds_0 1 rfl ?_
  refine g_SPi (rest := []) (As := [.int h0]) cx hYX5_isHouse gX5_minds_X5_isHouse (c_X5_isHouse l E h0 ) ⟨Nat.le_of_ble_eq_true rfl, Nat.le_of_ble_eq_true rfl⟩ rfl rfl (Nat.le_of_ble_eq_true rfl) ⟨Nat.le_of_ble_eq_true rfl, Nat.le_of_ble_eq_true rfl⟩ dX5_minds_1 ?_
  refine g_if_eq (tgt := 14) cx dX5_minds_4 (by decide) (fun c_1 => ?_) (fun c_1 => ?_)
  · refine g_aload_n cx dX5_minds_14 0 rfl ?_
    refine g_ldc cx m1X5_minds_c61 dX5_minds_15 ?_
    refine g_VSi (rest := []) (As := [.int (-1000000001)]) cx hYX5_finding gX5_minds_X5_finding (c_X5_finding l E a c g (-1000000001) (by unfold vp_in; decide +kernel)) rfl rfl rfl ⟨Nat.le_of_ble_eq_true rfl, Nat.le_of_ble_eq_true rfl⟩ rfl rfl (Nat.le_of_ble_eq_true rfl) ⟨Nat.le_of_ble_eq_true rfl, Nat.le_of_ble_eq_true rfl⟩ dX5_minds_17 (fun r w1 hp => ?_)
    obtain ⟨rfl, rfl⟩ := hp
    exact g_iret cx gr (Nat.zero_le _) (Nat.zero_le _) dX5_minds_20 (xleaf (by first | (simp only [sp_minds, tKind, tMood, tPen, tAte, tHour, tTray, tAt, tRang, tCrack, tTak, tWay, cB, c_1, if_true, if_false]; done) | (simp only [sp_minds, tKind, tMood, tPen, tAte, tHour, tTray, tAt, tRang, tCrack, tTak, tWay, cB, c_1, if_true, if_false] <;> rfl) | (simp [sp_minds, tKind, tMood, tPen, tAte, tHour, tTray, tAt, tRang, tCrack, tTak, tWay, cB, c_1] <;> rfl)))
  · refine g_iload_n cx dX5_minds_7 2 rfl ?_
    refine g_SPi (rest := []) (As := [.int t0]) cx hYX5_isTone gX5_minds_X5_isTone (c_X5_isTone l E t0 ) ⟨Nat.le_of_ble_eq_true rfl, Nat.le_of_ble_eq_true rfl⟩ rfl rfl (Nat.le_of_ble_eq_true rfl) ⟨Nat.le_of_ble_eq_true rfl, Nat.le_of_ble_eq_true rfl⟩ dX5_minds_8 ?_
    refine g_if_ne (tgt := 21) cx dX5_minds_11 (by decide) (fun c_2 => ?_) (fun c_2 => ?_)
    · refine g_bipush (v := 100) cx dX5_minds_21 (by decide) ?_
      refine g_aload_n cx dX5_minds_23 0 rfl ?_
      refine g_get (C := RX5) (T := TX5) (N := 8) (v := .ref (a 1)) cx iwX5_minds_X5 0 0 rfl rfl (by decide) lkX5_minds_10 rfl dX5_minds_24 ?_
      refine g_iload_n cx dX5_minds_27 1 rfl ?_
      refine g_iload_n cx dX5_minds_28 2 rfl ?_
      refine g_Xpi (rest := [.int 100]) (As := [.int h0, .int t0]) cx hYX3_mindingAt gX5_minds_X3_mindingAt (c_X3_mindingAt l E (fun i => a (1 + i)) c.1 h0 t0 (isW_vp 7 c_1 (by decide))) rfl ⟨Nat.le_of_ble_eq_true rfl, Nat.le_of_ble_eq_true rfl⟩ rfl rfl (Nat.le_of_ble_eq_true rfl) ⟨Nat.le_of_ble_eq_true rfl, Nat.le_of_ble_eq_true rfl⟩ dX5_minds_29 ?_
      refine g_iadd cx dX5_minds_32 ?_
      exact g_iret cx gr (Nat.zero_le _) (Nat.zero_le _) dX5_minds_33 (xleaf (by first | (simp only [sp_minds, tKind, tMood, tPen, tAte, tHour, tTray, tAt, tRang, tCrack, tTak, tWay, cB, c_1, c_2, if_true, if_false]; done) | (simp only [sp_minds, tKind, tMood, tPen, tAte, tHour, tTray, tAt, tRang, tCrack, tTak, tWay, cB, c_1, c_2, if_true, if_false] <;> rfl) | (simp [sp_minds, tKind, tMood, tPen, tAte, tHour, tTray, tAt, tRang, tCrack, tTak, tWay, cB, c_1, c_2] <;> rfl)))
    · refine g_aload_n cx dX5_minds_14 0 rfl ?_
      refine g_ldc cx m1X5_minds_c61 dX5_minds_15 ?_
      refine g_VSi (rest := []) (As := [.int (-1000000001)]) cx hYX5_finding gX5_minds_X5_finding (c_X5_finding l E a c g (-1000000001) (by unfold vp_in; decide +kernel)) rfl rfl rfl ⟨Nat.le_of_ble_eq_true rfl, Nat.le_of_ble_eq_true rfl⟩ rfl rfl (Nat.le_of_ble_eq_true rfl) ⟨Nat.le_of_ble_eq_true rfl, Nat.le_of_ble_eq_true rfl⟩ dX5_minds_17 (fun r w1 hp => ?_)
      obtain ⟨rfl, rfl⟩ := hp
      exact g_iret cx gr (Nat.zero_le _) (Nat.zero_le _) dX5_minds_20 (xleaf (by first | (simp only [sp_minds, tKind, tMood, tPen, tAte, tHour, tTray, tAt, tRang, tCrack, tTak, tWay, cB, c_1, c_2, if_true, if_false]; done) | (simp only [sp_minds, tKind, tMood, tPen, tAte, tHour, tTray, tAt, tRang, tCrack, tTak, tWay, cB, c_1, c_2, if_true, if_false] <;> rfl) | (simp [sp_minds, tKind, tMood, tPen, tAte, tHour, tTray, tAt, tRang, tCrack, tTak, tWay, cB, c_1, c_2] <;> rfl)))

abbrev rmX5_buys : Room := { frames := 2, cells := 0, slots := 0, locals := 47 }
theorem hYX5_buys : gY yX5_buys wsX5_buys cX5_buys 3 (some .int) 2 := ⟨⟨_, rfl⟩, by decide +kernel, by decide +kernel, by decide +kernel⟩
theorem m1X5_buys_c61 : Cond.constant RX5 61 (-1000000001) ∈ wsX5_buys := by decide +kernel
theorem iwX5_buys_X5 : ∀ w ∈ u_ws RX5 TX5 8, w ∈ wsX5_buys := by decide +kernel
theorem lkX5_buys_10 : Cond.fieldLink RX5 10 "MuffinBells" "present" "LMuffinBells$Terrace;" ∈ wsX5_buys := by decide +kernel
set_option maxRecDepth 100000 in
set_option maxHeartbeats 4000000 in
theorem c_X5_buys (l : Launch) (E : gE) (a : Nat → Nat) (c : Cor) (g : Gar) (h0 : Int32) (t0 : Int32) (hok : cOk c) : cti l yX5_buys wsX5_buys rmX5_buys E [.ref (a 0), .int h0, .int t0] (xW E a c g) (fun r w => ∃ g', r = (sp_buys c h0 t0).1 ∧ w = xW E a (sp_buys c h0 t0).2 g') := by
  refine mt_i (cc := cX5_buys) (maxL := 3) (ret := some .int) (lv0 := [(0, .ref (a 0)), (1, .int h0), (2, .int t0)]) (by decide) rfl rfl (Nat.le_of_ble_eq_true rfl) (fun X cx gr hI => ?_)
  refine g_iload_n cx dX5_buys_0 1 rfl ?_
  refine g_SPi (rest := []) (As := [.int h0]) cx hYX5_isHouse gX5_buys_X5_isHouse (c_X5_isHouse l E h0 ) ⟨Nat.le_of_ble_eq_true rfl, Nat.le_of_ble_eq_true rfl⟩ rfl rfl (Nat.le_of_ble_eq_true rfl) ⟨Nat.le_of_ble_eq_true rfl, Nat.le_of_ble_eq_true rfl⟩ dX5_buys_1 ?_
  refine g_if_eq (tgt := 14) cx dX5_buys_4 (by decide) (fun c_1 => ?_) (fun c_1 => ?_)
  · refine g_aload_n cx dX5_buys_14 0 rfl ?_
    refine g_ldc cx m1X5_buys_c61 dX5_buys_15 ?_
    refine g_VSi (rest := []) (As := [.int (-1000000001)]) cx hYX5_finding gX5_buys_X5_finding (c_X5_finding l E a c g (-1000000001) (by unfold vp_in; decide +kernel)) rfl rfl rfl ⟨Nat.le_of_ble_eq_true rfl, Nat.le_of_ble_eq_true rfl⟩ rfl rfl (Nat.le_of_ble_eq_true rfl) ⟨Nat.le_of_ble_eq_true rfl, Nat.le_of_ble_eq_true rfl⟩ dX5_buys_17 (fun r w1 hp => ?_)
    obtain ⟨rfl, rfl⟩ := hp
    exact g_iret cx gr (Nat.zero_le _) (Nat.zero_le _) dX5_buys_20 (xleaf (by first | (simp only [sp_buys, tKind, tMood, tPen, tAte, tHour, tTray, tAt, tRang, tCrack, tTak, tWay, cB, c_1, if_true, if_false]; done) | (simp only [sp_buys, tKind, tMood, tPen, tAte, tHour, tTray, tAt, tRang, tCrack, tTak, tWay, cB, c_1, if_true, if_false] <;> rfl) | (simp [sp_buys, tKind, tMood, tPen, tAte, tHour, tTray, tAt, tRang, tCrack, tTak, tWay, cB, c_1] <;> rfl)))
  · refine g_iload_n cx dX5_buys_7 2 rfl ?_
    refine g_SPi (rest := []) (As := [.int t0]) cx hYX5_isTone gX5_buys_X5_isTone (c_X5_isTone l E t0 ) ⟨Nat.le_of_ble_eq_true rfl, Nat.le_of_ble_eq_true rfl⟩ rfl rfl (Nat.le_of_ble_eq_true rfl) ⟨Nat.le_of_ble_eq_true rfl, Nat.le_of_ble_eq_true rfl⟩ dX5_buys_8 ?_
    refine g_if_ne (tgt := 21) cx dX5_buys_11 (by decide) (fun c_2 => ?_) (fun c_2 => ?_)
    · refine g_aload_n cx dX5_buys_21 0 rfl ?_
      refine g_get (C := RX5) (T := TX5) (N := 8) (v := .ref (a 1)) cx iwX5_buys_X5 0 0 rfl rfl (by decide) lkX5_buys_10 rfl dX5_buys_22 ?_
      refine g_iload_n cx dX5_buys_25 1 rfl ?_
      refine g_iload_n cx dX5_buys_26 2 rfl ?_
      refine g_Xpi (rest := []) (As := [.int h0, .int t0]) cx hYX3_buyingAt gX5_buys_X3_buyingAt (c_X3_buyingAt l E (fun i => a (1 + i)) c.1 h0 t0 (isW_vp 7 c_1 (by decide))) rfl ⟨Nat.le_of_ble_eq_true rfl, Nat.le_of_ble_eq_true rfl⟩ rfl rfl (Nat.le_of_ble_eq_true rfl) ⟨Nat.le_of_ble_eq_true rfl, Nat.le_of_ble_eq_true rfl⟩ dX5_buys_27 ?_
      exact g_iret cx gr (Nat.zero_le _) (Nat.zero_le _) dX5_buys_30 (xleaf (by first | (simp only [sp_buys, tKind, tMood, tPen, tAte, tHour, tTray, tAt, tRang, tCrack, tTak, tWay, cB, c_1, c_2, if_true, if_false]; done) | (simp only [sp_buys, tKind, tMood, tPen, tAte, tHour, tTray, tAt, tRang, tCrack, tTak, tWay, cB, c_1, c_2, if_true, if_false] <;> rfl) | (simp [sp_buys, tKind, tMood, tPen, tAte, tHour, tTray, tAt, tRang, tCrack, tTak, tWay, cB, c_1, c_2] <;> rfl)))
    · refine g_aload_n cx dX5_buys_14 0 rfl ?_
      refine g_ldc cx m1X5_buys_c61 dX5_buys_15 ?_
      refine g_VSi (rest := []) (As := [.int (-1000000001)]) cx hYX5_finding gX5_buys_X5_finding (c_X5_finding l E a c g (-1000000001) (by unfold vp_in; decide +kernel)) rfl rfl rfl ⟨Nat.le_of_ble_eq_true rfl, Nat.le_of_ble_eq_true rfl⟩ rfl rfl (Nat.le_of_ble_eq_true rfl) ⟨Nat.le_of_ble_eq_true rfl, Nat.le_of_ble_eq_true rfl⟩ dX5_buys_17 (fun r w1 hp => ?_)
      obtain ⟨rfl, rfl⟩ := hp
      exact g_iret cx gr (Nat.zero_le _) (Nat.zero_le _) dX5_buys_20 (xleaf (by first | (simp only [sp_buys, tKind, tMood, tPen, tAte, tHour, tTray, tAt, tRang, tCrack, tTak, tWay, cB, c_1, c_2, if_true, if_false]; done) | (simp only [sp_buys, tKind, tMood, tPen, tAte, tHour, tTray, tAt, tRang, tCrack, tTak, tWay, cB, c_1, c_2, if_true, if_false] <;> rfl) | (simp [sp_buys, tKind, tMood, tPen, tAte, tHour, tTray, tAt, tRang, tCrack, tTak, tWay, cB, c_1, c_2] <;> rfl)))

theorem tput_K {h : Int32} (hh : vp_in h 8) (t : Ter) (v : Int32) : tPut t (spot h 0).toNatClampNeg v = (t.1, t.2.1, t.2.2.1, t.2.2.2.1, t.2.2.2.2.1, t.2.2.2.2.2.1, t.2.2.2.2.2.2.1, upd (tKind t) h.toNatClampNeg v, t.2.2.2.2.2.2.2.2.1, t.2.2.2.2.2.2.2.2.2.1, t.2.2.2.2.2.2.2.2.2.2) := by
  rw [show (0 : Int32) = nI 0 from rfl, spot_n hh 0 (by decide)]; exact put_K t _ v
theorem tput_M {h : Int32} (hh : vp_in h 8) (t : Ter) (v : Int32) : tPut t (spot h 1).toNatClampNeg v = (t.1, t.2.1, t.2.2.1, t.2.2.2.1, t.2.2.2.2.1, t.2.2.2.2.2.1, t.2.2.2.2.2.2.1, t.2.2.2.2.2.2.2.1, upd (tMood t) h.toNatClampNeg v, t.2.2.2.2.2.2.2.2.2.1, t.2.2.2.2.2.2.2.2.2.2) := by
  rw [show (1 : Int32) = nI 1 from rfl, spot_n hh 1 (by decide)]; exact put_M t _ v
theorem tput_P {h : Int32} (hh : vp_in h 8) (t : Ter) (v : Int32) : tPut t (spot h 2).toNatClampNeg v = (t.1, t.2.1, t.2.2.1, t.2.2.2.1, t.2.2.2.2.1, t.2.2.2.2.2.1, t.2.2.2.2.2.2.1, t.2.2.2.2.2.2.2.1, t.2.2.2.2.2.2.2.2.1, upd (tPen t) h.toNatClampNeg v, t.2.2.2.2.2.2.2.2.2.2) := by
  rw [show (2 : Int32) = nI 2 from rfl, spot_n hh 2 (by decide)]; exact put_P t _ v
theorem tput_A {h : Int32} (hh : vp_in h 8) (t : Ter) (v : Int32) : tPut t (spot h 3).toNatClampNeg v = (t.1, t.2.1, t.2.2.1, t.2.2.2.1, t.2.2.2.2.1, t.2.2.2.2.2.1, t.2.2.2.2.2.2.1, t.2.2.2.2.2.2.2.1, t.2.2.2.2.2.2.2.2.1, t.2.2.2.2.2.2.2.2.2.1, upd (tAte t) h.toNatClampNeg v) := by
  rw [show (3 : Int32) = nI 3 from rfl, spot_n hh 3 (by decide)]; exact put_A t _ v

abbrev rmX5_set : Room := { frames := 2, cells := 0, slots := 0, locals := 44 }
theorem hYX5_set : gY yX5_set wsX5_set cX5_set 4 (some .int) 3 := ⟨⟨_, rfl⟩, by decide +kernel, by decide +kernel, by decide +kernel⟩
theorem m1X5_set_c61 : Cond.constant RX5 61 (-1000000001) ∈ wsX5_set := by decide +kernel
theorem iwX5_set_X5 : ∀ w ∈ u_ws RX5 TX5 8, w ∈ wsX5_set := by decide +kernel
theorem lkX5_set_10 : Cond.fieldLink RX5 10 "MuffinBells" "present" "LMuffinBells$Terrace;" ∈ wsX5_set := by decide +kernel
theorem iwX5_set_X3 : ∀ w ∈ u_ws RX3 TX3 11, w ∈ wsX5_set := by decide +kernel
theorem lkX5_set_113 : Cond.fieldLink RX5 113 "MuffinBells$Terrace" "moods" "[I" ∈ wsX5_set := by decide +kernel
theorem lkX5_set_116 : Cond.fieldLink RX5 116 "MuffinBells$Terrace" "pence" "[I" ∈ wsX5_set := by decide +kernel
theorem lkX5_set_119 : Cond.fieldLink RX5 119 "MuffinBells$Terrace" "ate" "[I" ∈ wsX5_set := by decide +kernel
set_option maxRecDepth 100000 in
set_option maxHeartbeats 4000000 in
theorem c_X5_set (l : Launch) (E : gE) (a : Nat → Nat) (c : Cor) (g : Gar) (h0 : Int32) (w0 : Int32) (v0 : Int32) (hok : cOk c) : cti l yX5_set wsX5_set rmX5_set E [.ref (a 0), .int h0, .int w0, .int v0] (xW E a c g) (fun r w => ∃ g', r = (sp_set c h0 w0 v0).1 ∧ w = xW E a (sp_set c h0 w0 v0).2 g') := by
  refine mt_i (cc := cX5_set) (maxL := 4) (ret := some .int) (lv0 := [(0, .ref (a 0)), (1, .int h0), (2, .int w0), (3, .int v0)]) (by decide) rfl rfl (Nat.le_of_ble_eq_true rfl) (fun X cx gr hI => ?_)
  refine g_iload_n cx dX5_set_0 1 rfl ?_
  refine g_SPi (rest := []) (As := [.int h0]) cx hYX5_isHouse gX5_set_X5_isHouse (c_X5_isHouse l E h0 ) ⟨Nat.le_of_ble_eq_true rfl, Nat.le_of_ble_eq_true rfl⟩ rfl rfl (Nat.le_of_ble_eq_true rfl) ⟨Nat.le_of_ble_eq_true rfl, Nat.le_of_ble_eq_true rfl⟩ dX5_set_1 ?_
  refine g_if_ne (tgt := 14) cx dX5_set_4 (by decide) (fun c_1 => ?_) (fun c_1 => ?_)
  · refine g_iload_n cx dX5_set_14 2 rfl ?_
    refine g_tsw cx dX5_set_15 138 (by decide) (fun j hj cs_2 => ?_) (fun cs_2 => ?_)
    · rcases j with _ | _ | _ | j
      · refine ⟨_, 40, rfl, by decide, ?_⟩
        have cs_2 : w0 = 1 := Int32.toInt_inj.mp (cs_2.trans (by decide))
        refine g_iload_n cx dX5_set_40 3 rfl ?_
        refine g_iconst (v := 0) cx dX5_set_41 (by decide) ?_
        refine g_bipush (v := 20) cx dX5_set_42 (by decide) ?_
        refine g_SPi (rest := []) (As := [.int v0, .int 0, .int 20]) cx hYX5_isWithin gX5_set_X5_isWithin (c_X5_isWithin l E v0 0 20 ) ⟨Nat.le_of_ble_eq_true rfl, Nat.le_of_ble_eq_true rfl⟩ rfl rfl (Nat.le_of_ble_eq_true rfl) ⟨Nat.le_of_ble_eq_true rfl, Nat.le_of_ble_eq_true rfl⟩ dX5_set_44 ?_
        refine g_if_eq (tgt := 65) cx dX5_set_47 (by decide) (fun c_3 => ?_) (fun c_3 => ?_)
        · refine g_aload_n cx dX5_set_65 0 rfl ?_
          refine g_ldc cx m1X5_set_c61 dX5_set_66 ?_
          refine g_VSi (rest := []) (As := [.int (-1000000001)]) cx hYX5_finding gX5_set_X5_finding (c_X5_finding l E a c g (-1000000001) (by unfold vp_in; decide +kernel)) rfl rfl rfl ⟨Nat.le_of_ble_eq_true rfl, Nat.le_of_ble_eq_true rfl⟩ rfl rfl (Nat.le_of_ble_eq_true rfl) ⟨Nat.le_of_ble_eq_true rfl, Nat.le_of_ble_eq_true rfl⟩ dX5_set_68 (fun r w1 hp => ?_)
          obtain ⟨rfl, rfl⟩ := hp
          exact g_iret cx gr (Nat.zero_le _) (Nat.zero_le _) dX5_set_71 (xleaf (by rw [cs_2, sp_set, if_neg c_1, if_neg (by decide), show setLim 1 = 20 from rfl, if_pos c_3]; rfl))
        · refine g_aload_n cx dX5_set_50 0 rfl ?_
          refine g_get (C := RX5) (T := TX5) (N := 8) (v := .ref (a 1)) cx iwX5_set_X5 0 0 rfl rfl (by decide) lkX5_set_10 rfl dX5_set_51 ?_
          refine g_get (C := RX3) (T := TX3) (N := 11) (v := .ref (a 3)) cx iwX5_set_X3 1 8 rfl rfl (by decide) lkX5_set_113 rfl dX5_set_54 ?_
          refine g_iload_n cx dX5_set_57 1 rfl ?_
          refine g_iload_n cx dX5_set_58 3 rfl ?_
          refine g_Si (rest := []) (As := [.ref (a 3), .int h0, .int v0]) (wr := (xW E a c g).eraseIdx 3) cx hYX5_exchange gX5_set_X5_exchange (c_X5_exchange l E (a 3) 8 c.1.2.2.2.2.2.2.2.2.1 h0 v0 (isW_vp 7 c_1 (by decide))) [3] [0, 1, 2, 4, 5, 6, 7, 8, 9, 10, 11, 12, 13, 14, 15, 16, 17, 18, 19, 20, 21, 22, 23, 24, 25, 26, 27, 28] rfl rfl rfl rfl (by decide) ⟨Nat.le_of_ble_eq_true rfl, Nat.le_of_ble_eq_true rfl⟩ rfl rfl (Nat.le_of_ble_eq_true rfl) ⟨Nat.le_of_ble_eq_true rfl, Nat.le_of_ble_eq_true rfl⟩ dX5_set_59 (fun r w1 hp => ?_)
          obtain ⟨rfl, rfl⟩ := hp
          refine g_ws (ws' := (xW E a ((c.1.1, c.1.2.1, c.1.2.2.1, c.1.2.2.2.1, c.1.2.2.2.2.1, c.1.2.2.2.2.2.1, c.1.2.2.2.2.2.2.1, c.1.2.2.2.2.2.2.2.1, upd c.1.2.2.2.2.2.2.2.2.1 h0.toNatClampNeg v0, c.1.2.2.2.2.2.2.2.2.2.1, c.1.2.2.2.2.2.2.2.2.2.2), c.2.1, c.2.2.1, c.2.2.2.1, c.2.2.2.2.1, c.2.2.2.2.2.1, c.2.2.2.2.2.2.1, c.2.2.2.2.2.2.2.1, c.2.2.2.2.2.2.2.2) g)) [0, 1, 2, 28, 3, 4, 5, 6, 7, 8, 9, 10, 11, 12, 13, 14, 15, 16, 17, 18, 19, 20, 21, 22, 23, 24, 25, 26, 27] rfl rfl ?_
          refine g_goto (tgt := 71) cx dX5_set_62 (by decide) ?_
          exact g_iret cx gr (Nat.zero_le _) (Nat.zero_le _) dX5_set_71 (xleaf (by rw [cs_2, sp_set, if_neg c_1, if_neg (by decide), show setLim 1 = 20 from rfl, if_neg c_3, sp_M (isW_vp 7 c_1 (by decide)), tput_M (isW_vp 7 c_1 (by decide))]))
      · refine ⟨_, 72, rfl, by decide, ?_⟩
        have cs_2 : w0 = 2 := Int32.toInt_inj.mp (cs_2.trans (by decide))
        refine g_iload_n cx dX5_set_72 3 rfl ?_
        refine g_iconst (v := 0) cx dX5_set_73 (by decide) ?_
        refine g_sipush (v := 999) cx dX5_set_74 (by decide) ?_
        refine g_SPi (rest := []) (As := [.int v0, .int 0, .int 999]) cx hYX5_isWithin gX5_set_X5_isWithin (c_X5_isWithin l E v0 0 999 ) ⟨Nat.le_of_ble_eq_true rfl, Nat.le_of_ble_eq_true rfl⟩ rfl rfl (Nat.le_of_ble_eq_true rfl) ⟨Nat.le_of_ble_eq_true rfl, Nat.le_of_ble_eq_true rfl⟩ dX5_set_77 ?_
        refine g_if_eq (tgt := 98) cx dX5_set_80 (by decide) (fun c_4 => ?_) (fun c_4 => ?_)
        · refine g_aload_n cx dX5_set_98 0 rfl ?_
          refine g_ldc cx m1X5_set_c61 dX5_set_99 ?_
          refine g_VSi (rest := []) (As := [.int (-1000000001)]) cx hYX5_finding gX5_set_X5_finding (c_X5_finding l E a c g (-1000000001) (by unfold vp_in; decide +kernel)) rfl rfl rfl ⟨Nat.le_of_ble_eq_true rfl, Nat.le_of_ble_eq_true rfl⟩ rfl rfl (Nat.le_of_ble_eq_true rfl) ⟨Nat.le_of_ble_eq_true rfl, Nat.le_of_ble_eq_true rfl⟩ dX5_set_101 (fun r w1 hp => ?_)
          obtain ⟨rfl, rfl⟩ := hp
          exact g_iret cx gr (Nat.zero_le _) (Nat.zero_le _) dX5_set_104 (xleaf (by rw [cs_2, sp_set, if_neg c_1, if_neg (by decide), show setLim 2 = 999 from rfl, if_pos c_4]; rfl))
        · refine g_aload_n cx dX5_set_83 0 rfl ?_
          refine g_get (C := RX5) (T := TX5) (N := 8) (v := .ref (a 1)) cx iwX5_set_X5 0 0 rfl rfl (by decide) lkX5_set_10 rfl dX5_set_84 ?_
          refine g_get (C := RX3) (T := TX3) (N := 11) (v := .ref (a 4)) cx iwX5_set_X3 1 9 rfl rfl (by decide) lkX5_set_116 rfl dX5_set_87 ?_
          refine g_iload_n cx dX5_set_90 1 rfl ?_
          refine g_iload_n cx dX5_set_91 3 rfl ?_
          refine g_Si (rest := []) (As := [.ref (a 4), .int h0, .int v0]) (wr := (xW E a c g).eraseIdx 4) cx hYX5_exchange gX5_set_X5_exchange (c_X5_exchange l E (a 4) 8 c.1.2.2.2.2.2.2.2.2.2.1 h0 v0 (isW_vp 7 c_1 (by decide))) [4] [0, 1, 2, 3, 5, 6, 7, 8, 9, 10, 11, 12, 13, 14, 15, 16, 17, 18, 19, 20, 21, 22, 23, 24, 25, 26, 27, 28] rfl rfl rfl rfl (by decide) ⟨Nat.le_of_ble_eq_true rfl, Nat.le_of_ble_eq_true rfl⟩ rfl rfl (Nat.le_of_ble_eq_true rfl) ⟨Nat.le_of_ble_eq_true rfl, Nat.le_of_ble_eq_true rfl⟩ dX5_set_92 (fun r w1 hp => ?_)
          obtain ⟨rfl, rfl⟩ := hp
          refine g_ws (ws' := (xW E a ((c.1.1, c.1.2.1, c.1.2.2.1, c.1.2.2.2.1, c.1.2.2.2.2.1, c.1.2.2.2.2.2.1, c.1.2.2.2.2.2.2.1, c.1.2.2.2.2.2.2.2.1, c.1.2.2.2.2.2.2.2.2.1, upd c.1.2.2.2.2.2.2.2.2.2.1 h0.toNatClampNeg v0, c.1.2.2.2.2.2.2.2.2.2.2), c.2.1, c.2.2.1, c.2.2.2.1, c.2.2.2.2.1, c.2.2.2.2.2.1, c.2.2.2.2.2.2.1, c.2.2.2.2.2.2.2.1, c.2.2.2.2.2.2.2.2) g)) [0, 1, 2, 3, 28, 4, 5, 6, 7, 8, 9, 10, 11, 12, 13, 14, 15, 16, 17, 18, 19, 20, 21, 22, 23, 24, 25, 26, 27] rfl rfl ?_
          refine g_goto (tgt := 104) cx dX5_set_95 (by decide) ?_
          exact g_iret cx gr (Nat.zero_le _) (Nat.zero_le _) dX5_set_104 (xleaf (by rw [cs_2, sp_set, if_neg c_1, if_neg (by decide), show setLim 2 = 999 from rfl, if_neg c_4, sp_P (isW_vp 7 c_1 (by decide)), tput_P (isW_vp 7 c_1 (by decide))]))
      · refine ⟨_, 105, rfl, by decide, ?_⟩
        have cs_2 : w0 = 3 := Int32.toInt_inj.mp (cs_2.trans (by decide))
        refine g_iload_n cx dX5_set_105 3 rfl ?_
        refine g_iconst (v := 0) cx dX5_set_106 (by decide) ?_
        refine g_sipush (v := 9999) cx dX5_set_107 (by decide) ?_
        refine g_SPi (rest := []) (As := [.int v0, .int 0, .int 9999]) cx hYX5_isWithin gX5_set_X5_isWithin (c_X5_isWithin l E v0 0 9999 ) ⟨Nat.le_of_ble_eq_true rfl, Nat.le_of_ble_eq_true rfl⟩ rfl rfl (Nat.le_of_ble_eq_true rfl) ⟨Nat.le_of_ble_eq_true rfl, Nat.le_of_ble_eq_true rfl⟩ dX5_set_110 ?_
        refine g_if_eq (tgt := 131) cx dX5_set_113 (by decide) (fun c_5 => ?_) (fun c_5 => ?_)
        · refine g_aload_n cx dX5_set_131 0 rfl ?_
          refine g_ldc cx m1X5_set_c61 dX5_set_132 ?_
          refine g_VSi (rest := []) (As := [.int (-1000000001)]) cx hYX5_finding gX5_set_X5_finding (c_X5_finding l E a c g (-1000000001) (by unfold vp_in; decide +kernel)) rfl rfl rfl ⟨Nat.le_of_ble_eq_true rfl, Nat.le_of_ble_eq_true rfl⟩ rfl rfl (Nat.le_of_ble_eq_true rfl) ⟨Nat.le_of_ble_eq_true rfl, Nat.le_of_ble_eq_true rfl⟩ dX5_set_134 (fun r w1 hp => ?_)
          obtain ⟨rfl, rfl⟩ := hp
          exact g_iret cx gr (Nat.zero_le _) (Nat.zero_le _) dX5_set_137 (xleaf (by rw [cs_2, sp_set, if_neg c_1, if_neg (by decide), show setLim 3 = 9999 from rfl, if_pos c_5]; rfl))
        · refine g_aload_n cx dX5_set_116 0 rfl ?_
          refine g_get (C := RX5) (T := TX5) (N := 8) (v := .ref (a 1)) cx iwX5_set_X5 0 0 rfl rfl (by decide) lkX5_set_10 rfl dX5_set_117 ?_
          refine g_get (C := RX3) (T := TX3) (N := 11) (v := .ref (a 5)) cx iwX5_set_X3 1 10 rfl rfl (by decide) lkX5_set_119 rfl dX5_set_120 ?_
          refine g_iload_n cx dX5_set_123 1 rfl ?_
          refine g_iload_n cx dX5_set_124 3 rfl ?_
          refine g_Si (rest := []) (As := [.ref (a 5), .int h0, .int v0]) (wr := (xW E a c g).eraseIdx 5) cx hYX5_exchange gX5_set_X5_exchange (c_X5_exchange l E (a 5) 8 c.1.2.2.2.2.2.2.2.2.2.2 h0 v0 (isW_vp 7 c_1 (by decide))) [5] [0, 1, 2, 3, 4, 6, 7, 8, 9, 10, 11, 12, 13, 14, 15, 16, 17, 18, 19, 20, 21, 22, 23, 24, 25, 26, 27, 28] rfl rfl rfl rfl (by decide) ⟨Nat.le_of_ble_eq_true rfl, Nat.le_of_ble_eq_true rfl⟩ rfl rfl (Nat.le_of_ble_eq_true rfl) ⟨Nat.le_of_ble_eq_true rfl, Nat.le_of_ble_eq_true rfl⟩ dX5_set_125 (fun r w1 hp => ?_)
          obtain ⟨rfl, rfl⟩ := hp
          refine g_ws (ws' := (xW E a ((c.1.1, c.1.2.1, c.1.2.2.1, c.1.2.2.2.1, c.1.2.2.2.2.1, c.1.2.2.2.2.2.1, c.1.2.2.2.2.2.2.1, c.1.2.2.2.2.2.2.2.1, c.1.2.2.2.2.2.2.2.2.1, c.1.2.2.2.2.2.2.2.2.2.1, upd c.1.2.2.2.2.2.2.2.2.2.2 h0.toNatClampNeg v0), c.2.1, c.2.2.1, c.2.2.2.1, c.2.2.2.2.1, c.2.2.2.2.2.1, c.2.2.2.2.2.2.1, c.2.2.2.2.2.2.2.1, c.2.2.2.2.2.2.2.2) g)) [0, 1, 2, 3, 4, 28, 5, 6, 7, 8, 9, 10, 11, 12, 13, 14, 15, 16, 17, 18, 19, 20, 21, 22, 23, 24, 25, 26, 27] rfl rfl ?_
          refine g_goto (tgt := 137) cx dX5_set_128 (by decide) ?_
          exact g_iret cx gr (Nat.zero_le _) (Nat.zero_le _) dX5_set_137 (xleaf (by rw [cs_2, sp_set, if_neg c_1, if_neg (by decide), show setLim 3 = 9999 from rfl, if_neg c_5, sp_A (isW_vp 7 c_1 (by decide)), tput_A (isW_vp 7 c_1 (by decide))]))
      · exact absurd hj (by omega)
    · have hsx := cs_2
      have cs_2_0 : ¬ w0 = 1 := sw_ne cs_2 (by decide)
      have cs_2_1 : ¬ w0 = 2 := sw_ne cs_2 (by decide)
      have cs_2_2 : ¬ w0 = 3 := sw_ne cs_2 (by decide)
      refine g_aload_n cx dX5_set_138 0 rfl ?_
      refine g_ldc cx m1X5_set_c61 dX5_set_139 ?_
      refine g_VSi (rest := []) (As := [.int (-1000000001)]) cx hYX5_finding gX5_set_X5_finding (c_X5_finding l E a c g (-1000000001) (by unfold vp_in; decide +kernel)) rfl rfl rfl ⟨Nat.le_of_ble_eq_true rfl, Nat.le_of_ble_eq_true rfl⟩ rfl rfl (Nat.le_of_ble_eq_true rfl) ⟨Nat.le_of_ble_eq_true rfl, Nat.le_of_ble_eq_true rfl⟩ dX5_set_141 (fun r w1 hp => ?_)
      obtain ⟨rfl, rfl⟩ := hp
      exact g_iret cx gr (Nat.zero_le _) (Nat.zero_le _) dX5_set_144 (xleaf (by rw [sp_set, if_neg c_1, if_pos (isW_out (lo := 1) (hi := 3) hsx)]; rfl))
  · refine g_aload_n cx dX5_set_7 0 rfl ?_
    refine g_ldc cx m1X5_set_c61 dX5_set_8 ?_
    refine g_VSi (rest := []) (As := [.int (-1000000001)]) cx hYX5_finding gX5_set_X5_finding (c_X5_finding l E a c g (-1000000001) (by unfold vp_in; decide +kernel)) rfl rfl rfl ⟨Nat.le_of_ble_eq_true rfl, Nat.le_of_ble_eq_true rfl⟩ rfl rfl (Nat.le_of_ble_eq_true rfl) ⟨Nat.le_of_ble_eq_true rfl, Nat.le_of_ble_eq_true rfl⟩ dX5_set_10 (fun r w1 hp => ?_)
    obtain ⟨rfl, rfl⟩ := hp
    exact g_iret cx gr (Nat.zero_le _) (Nat.zero_le _) dX5_set_13 (xleaf (by rw [sp_set, if_pos c_1]; rfl))

abbrev rmX5_turn : Room := { frames := 2, cells := 0, slots := 0, locals := 44 }
theorem hYX5_turn : gY yX5_turn wsX5_turn cX5_turn 3 (some .int) 2 := ⟨⟨_, rfl⟩, by decide +kernel, by decide +kernel, by decide +kernel⟩
theorem m1X5_turn_c61 : Cond.constant RX5 61 (-1000000001) ∈ wsX5_turn := by decide +kernel
theorem iwX5_turn_X5 : ∀ w ∈ u_ws RX5 TX5 8, w ∈ wsX5_turn := by decide +kernel
theorem lkX5_turn_10 : Cond.fieldLink RX5 10 "MuffinBells" "present" "LMuffinBells$Terrace;" ∈ wsX5_turn := by decide +kernel
theorem iwX5_turn_X3 : ∀ w ∈ u_ws RX3 TX3 11, w ∈ wsX5_turn := by decide +kernel
theorem lkX5_turn_110 : Cond.fieldLink RX5 110 "MuffinBells$Terrace" "kinds" "[I" ∈ wsX5_turn := by decide +kernel
set_option maxRecDepth 100000 in
set_option maxHeartbeats 4000000 in
theorem c_X5_turn (l : Launch) (E : gE) (a : Nat → Nat) (c : Cor) (g : Gar) (h0 : Int32) (k0 : Int32) (hok : cOk c) : cti l yX5_turn wsX5_turn rmX5_turn E [.ref (a 0), .int h0, .int k0] (xW E a c g) (fun r w => ∃ g', r = (sp_turn c h0 k0).1 ∧ w = xW E a (sp_turn c h0 k0).2 g') := by
  refine mt_i (cc := cX5_turn) (maxL := 3) (ret := some .int) (lv0 := [(0, .ref (a 0)), (1, .int h0), (2, .int k0)]) (by decide) rfl rfl (Nat.le_of_ble_eq_true rfl) (fun X cx gr hI => ?_)
  refine g_iload_n cx dX5_turn_0 1 rfl ?_
  refine g_SPi (rest := []) (As := [.int h0]) cx hYX5_isHouse gX5_turn_X5_isHouse (c_X5_isHouse l E h0 ) ⟨Nat.le_of_ble_eq_true rfl, Nat.le_of_ble_eq_true rfl⟩ rfl rfl (Nat.le_of_ble_eq_true rfl) ⟨Nat.le_of_ble_eq_true rfl, Nat.le_of_ble_eq_true rfl⟩ dX5_turn_1 ?_
  refine g_if_eq (tgt := 14) cx dX5_turn_4 (by decide) (fun c_1 => ?_) (fun c_1 => ?_)
  · refine g_aload_n cx dX5_turn_14 0 rfl ?_
    refine g_ldc cx m1X5_turn_c61 dX5_turn_15 ?_
    refine g_VSi (rest := []) (As := [.int (-1000000001)]) cx hYX5_finding gX5_turn_X5_finding (c_X5_finding l E a c g (-1000000001) (by unfold vp_in; decide +kernel)) rfl rfl rfl ⟨Nat.le_of_ble_eq_true rfl, Nat.le_of_ble_eq_true rfl⟩ rfl rfl (Nat.le_of_ble_eq_true rfl) ⟨Nat.le_of_ble_eq_true rfl, Nat.le_of_ble_eq_true rfl⟩ dX5_turn_17 (fun r w1 hp => ?_)
    obtain ⟨rfl, rfl⟩ := hp
    exact g_iret cx gr (Nat.zero_le _) (Nat.zero_le _) dX5_turn_20 (xleaf (by first | (simp only [sp_turn, tKind, tMood, tPen, tAte, tHour, tTray, tAt, tRang, tCrack, tTak, tWay, cB, c_1, if_true, if_false]; done) | (simp only [sp_turn, tKind, tMood, tPen, tAte, tHour, tTray, tAt, tRang, tCrack, tTak, tWay, cB, c_1, if_true, if_false] <;> rfl) | (simp [sp_turn, tKind, tMood, tPen, tAte, tHour, tTray, tAt, tRang, tCrack, tTak, tWay, cB, c_1] <;> rfl)))
  · refine g_iload_n cx dX5_turn_7 2 rfl ?_
    refine g_SPi (rest := []) (As := [.int k0]) cx hYX0_isKind gX5_turn_X0_isKind (c_X0_isKind l E k0 ) ⟨Nat.le_of_ble_eq_true rfl, Nat.le_of_ble_eq_true rfl⟩ rfl rfl (Nat.le_of_ble_eq_true rfl) ⟨Nat.le_of_ble_eq_true rfl, Nat.le_of_ble_eq_true rfl⟩ dX5_turn_8 ?_
    refine g_if_ne (tgt := 21) cx dX5_turn_11 (by decide) (fun c_2 => ?_) (fun c_2 => ?_)
    · refine g_aload_n cx dX5_turn_21 0 rfl ?_
      refine g_get (C := RX5) (T := TX5) (N := 8) (v := .ref (a 1)) cx iwX5_turn_X5 0 0 rfl rfl (by decide) lkX5_turn_10 rfl dX5_turn_22 ?_
      refine g_get (C := RX3) (T := TX3) (N := 11) (v := .ref (a 2)) cx iwX5_turn_X3 1 7 rfl rfl (by decide) lkX5_turn_110 rfl dX5_turn_25 ?_
      refine g_iload_n cx dX5_turn_28 1 rfl ?_
      refine g_iload_n cx dX5_turn_29 2 rfl ?_
      refine g_Si (rest := []) (As := [.ref (a 2), .int h0, .int k0]) (wr := (xW E a c g).eraseIdx 2) cx hYX5_exchange gX5_turn_X5_exchange (c_X5_exchange l E (a 2) 8 c.1.2.2.2.2.2.2.2.1 h0 k0 (isW_vp 7 c_1 (by decide))) [2] [0, 1, 3, 4, 5, 6, 7, 8, 9, 10, 11, 12, 13, 14, 15, 16, 17, 18, 19, 20, 21, 22, 23, 24, 25, 26, 27, 28] rfl rfl rfl rfl (by decide) ⟨Nat.le_of_ble_eq_true rfl, Nat.le_of_ble_eq_true rfl⟩ rfl rfl (Nat.le_of_ble_eq_true rfl) ⟨Nat.le_of_ble_eq_true rfl, Nat.le_of_ble_eq_true rfl⟩ dX5_turn_30 (fun r w1 hp => ?_)
      obtain ⟨rfl, rfl⟩ := hp
      refine g_ws (ws' := (xW E a ((c.1.1, c.1.2.1, c.1.2.2.1, c.1.2.2.2.1, c.1.2.2.2.2.1, c.1.2.2.2.2.2.1, c.1.2.2.2.2.2.2.1, upd c.1.2.2.2.2.2.2.2.1 h0.toNatClampNeg k0, c.1.2.2.2.2.2.2.2.2.1, c.1.2.2.2.2.2.2.2.2.2.1, c.1.2.2.2.2.2.2.2.2.2.2), c.2.1, c.2.2.1, c.2.2.2.1, c.2.2.2.2.1, c.2.2.2.2.2.1, c.2.2.2.2.2.2.1, c.2.2.2.2.2.2.2.1, c.2.2.2.2.2.2.2.2) g)) [0, 1, 28, 2, 3, 4, 5, 6, 7, 8, 9, 10, 11, 12, 13, 14, 15, 16, 17, 18, 19, 20, 21, 22, 23, 24, 25, 26, 27] rfl rfl ?_
      exact g_iret cx gr (Nat.zero_le _) (Nat.zero_le _) dX5_turn_33 (xleaf (by rw [sp_turn, if_neg c_1, if_neg c_2, sp_K (isW_vp 7 c_1 (by decide)), tput_K (isW_vp 7 c_1 (by decide))]))
    · refine g_aload_n cx dX5_turn_14 0 rfl ?_
      refine g_ldc cx m1X5_turn_c61 dX5_turn_15 ?_
      refine g_VSi (rest := []) (As := [.int (-1000000001)]) cx hYX5_finding gX5_turn_X5_finding (c_X5_finding l E a c g (-1000000001) (by unfold vp_in; decide +kernel)) rfl rfl rfl ⟨Nat.le_of_ble_eq_true rfl, Nat.le_of_ble_eq_true rfl⟩ rfl rfl (Nat.le_of_ble_eq_true rfl) ⟨Nat.le_of_ble_eq_true rfl, Nat.le_of_ble_eq_true rfl⟩ dX5_turn_17 (fun r w1 hp => ?_)
      obtain ⟨rfl, rfl⟩ := hp
      exact g_iret cx gr (Nat.zero_le _) (Nat.zero_le _) dX5_turn_20 (xleaf (by first | (simp only [sp_turn, tKind, tMood, tPen, tAte, tHour, tTray, tAt, tRang, tCrack, tTak, tWay, cB, c_1, c_2, if_true, if_false]; done) | (simp only [sp_turn, tKind, tMood, tPen, tAte, tHour, tTray, tAt, tRang, tCrack, tTak, tWay, cB, c_1, c_2, if_true, if_false] <;> rfl) | (simp [sp_turn, tKind, tMood, tPen, tAte, tHour, tTray, tAt, tRang, tCrack, tTak, tWay, cB, c_1, c_2] <;> rfl)))

abbrev rmX5_as : Room := { frames := 2, cells := 0, slots := 0, locals := 44 }
theorem hYX5_as : gY yX5_as wsX5_as cX5_as 3 (some .int) 2 := ⟨⟨_, rfl⟩, by decide +kernel, by decide +kernel, by decide +kernel⟩
theorem m1X5_as_c61 : Cond.constant RX5 61 (-1000000001) ∈ wsX5_as := by decide +kernel
theorem iwX5_as_X5 : ∀ w ∈ u_ws RX5 TX5 8, w ∈ wsX5_as := by decide +kernel
theorem lkX5_as_10 : Cond.fieldLink RX5 10 "MuffinBells" "present" "LMuffinBells$Terrace;" ∈ wsX5_as := by decide +kernel
theorem iwX5_as_X3 : ∀ w ∈ u_ws RX3 TX3 11, w ∈ wsX5_as := by decide +kernel
theorem lkX5_as_110 : Cond.fieldLink RX5 110 "MuffinBells$Terrace" "kinds" "[I" ∈ wsX5_as := by decide +kernel
theorem lkX5_as_113 : Cond.fieldLink RX5 113 "MuffinBells$Terrace" "moods" "[I" ∈ wsX5_as := by decide +kernel
theorem m1X5_as_c145 : Cond.constant RX5 145 (-1000000003) ∈ wsX5_as := by decide +kernel
set_option maxRecDepth 100000 in
set_option maxHeartbeats 4000000 in
theorem c_X5_as (l : Launch) (E : gE) (a : Nat → Nat) (c : Cor) (g : Gar) (h0 : Int32) (k0 : Int32) (hok : cOk c) : cti l yX5_as wsX5_as rmX5_as E [.ref (a 0), .int h0, .int k0] (xW E a c g) (fun r w => ∃ g', r = (sp_as c h0 k0).1 ∧ w = xW E a (sp_as c h0 k0).2 g') := by
  refine mt_i (cc := cX5_as) (maxL := 3) (ret := some .int) (lv0 := [(0, .ref (a 0)), (1, .int h0), (2, .int k0)]) (by decide) rfl rfl (Nat.le_of_ble_eq_true rfl) (fun X cx gr hI => ?_)
  refine g_iload_n cx dX5_as_0 1 rfl ?_
  refine g_SPi (rest := []) (As := [.int h0]) cx hYX5_isHouse gX5_as_X5_isHouse (c_X5_isHouse l E h0 ) ⟨Nat.le_of_ble_eq_true rfl, Nat.le_of_ble_eq_true rfl⟩ rfl rfl (Nat.le_of_ble_eq_true rfl) ⟨Nat.le_of_ble_eq_true rfl, Nat.le_of_ble_eq_true rfl⟩ dX5_as_1 ?_
  refine g_if_eq (tgt := 14) cx dX5_as_4 (by decide) (fun c_1 => ?_) (fun c_1 => ?_)
  · refine g_aload_n cx dX5_as_14 0 rfl ?_
    refine g_ldc cx m1X5_as_c61 dX5_as_15 ?_
    refine g_VSi (rest := []) (As := [.int (-1000000001)]) cx hYX5_finding gX5_as_X5_finding (c_X5_finding l E a c g (-1000000001) (by unfold vp_in; decide +kernel)) rfl rfl rfl ⟨Nat.le_of_ble_eq_true rfl, Nat.le_of_ble_eq_true rfl⟩ rfl rfl (Nat.le_of_ble_eq_true rfl) ⟨Nat.le_of_ble_eq_true rfl, Nat.le_of_ble_eq_true rfl⟩ dX5_as_17 (fun r w1 hp => ?_)
    obtain ⟨rfl, rfl⟩ := hp
    exact g_iret cx gr (Nat.zero_le _) (Nat.zero_le _) dX5_as_20 (xleaf (by first | (simp only [sp_as, tKind, tMood, tPen, tAte, tHour, tTray, tAt, tRang, tCrack, tTak, tWay, cB, c_1, if_true, if_false]; done) | (simp only [sp_as, tKind, tMood, tPen, tAte, tHour, tTray, tAt, tRang, tCrack, tTak, tWay, cB, c_1, if_true, if_false] <;> rfl) | (simp [sp_as, tKind, tMood, tPen, tAte, tHour, tTray, tAt, tRang, tCrack, tTak, tWay, cB, c_1] <;> rfl)))
  · refine g_iload_n cx dX5_as_7 2 rfl ?_
    refine g_SPi (rest := []) (As := [.int k0]) cx hYX0_isKind gX5_as_X0_isKind (c_X0_isKind l E k0 ) ⟨Nat.le_of_ble_eq_true rfl, Nat.le_of_ble_eq_true rfl⟩ rfl rfl (Nat.le_of_ble_eq_true rfl) ⟨Nat.le_of_ble_eq_true rfl, Nat.le_of_ble_eq_true rfl⟩ dX5_as_8 ?_
    refine g_if_ne (tgt := 21) cx dX5_as_11 (by decide) (fun c_2 => ?_) (fun c_2 => ?_)
    · refine g_aload_n cx dX5_as_21 0 rfl ?_
      refine g_get (C := RX5) (T := TX5) (N := 8) (v := .ref (a 1)) cx iwX5_as_X5 0 0 rfl rfl (by decide) lkX5_as_10 rfl dX5_as_22 ?_
      refine g_get (C := RX3) (T := TX3) (N := 11) (v := .ref (a 2)) cx iwX5_as_X3 1 7 rfl rfl (by decide) lkX5_as_110 rfl dX5_as_25 ?_
      refine g_iload_n cx dX5_as_28 1 rfl ?_
      refine g_iald cx 2 rfl rfl (isW_vp 7 c_1 (by decide)) dX5_as_29 ?_
      refine g_iload_n cx dX5_as_30 2 rfl ?_
      refine g_SPi (rest := []) (As := [.int (c.1.2.2.2.2.2.2.2.1 (h0.toNatClampNeg)), .int k0]) cx hYX0_isOneOf gX5_as_X0_isOneOf (c_X0_isOneOf l E (c.1.2.2.2.2.2.2.2.1 (h0.toNatClampNeg)) k0 ) ⟨Nat.le_of_ble_eq_true rfl, Nat.le_of_ble_eq_true rfl⟩ rfl rfl (Nat.le_of_ble_eq_true rfl) ⟨Nat.le_of_ble_eq_true rfl, Nat.le_of_ble_eq_true rfl⟩ dX5_as_31 ?_
      refine g_if_ne (tgt := 44) cx dX5_as_34 (by decide) (fun c_3 => ?_) (fun c_3 => ?_)
      · refine g_aload_n cx dX5_as_44 0 rfl ?_
        refine g_get (C := RX5) (T := TX5) (N := 8) (v := .ref (a 1)) cx iwX5_as_X5 0 0 rfl rfl (by decide) lkX5_as_10 rfl dX5_as_45 ?_
        refine g_get (C := RX3) (T := TX3) (N := 11) (v := .ref (a 3)) cx iwX5_as_X3 1 8 rfl rfl (by decide) lkX5_as_113 rfl dX5_as_48 ?_
        refine g_iload_n cx dX5_as_51 1 rfl ?_
        refine g_iald cx 3 rfl rfl (isW_vp 7 c_1 (by decide)) dX5_as_52 ?_
        exact g_iret cx gr (Nat.zero_le _) (Nat.zero_le _) dX5_as_53 (xleaf (by first | (simp only [sp_as, tKind, tMood, tPen, tAte, tHour, tTray, tAt, tRang, tCrack, tTak, tWay, cB, c_1, c_2, c_3, if_true, if_false]; done) | (simp only [sp_as, tKind, tMood, tPen, tAte, tHour, tTray, tAt, tRang, tCrack, tTak, tWay, cB, c_1, c_2, c_3, if_true, if_false] <;> rfl) | (simp [sp_as, tKind, tMood, tPen, tAte, tHour, tTray, tAt, tRang, tCrack, tTak, tWay, cB, c_1, c_2, c_3] <;> rfl)))
      · refine g_aload_n cx dX5_as_37 0 rfl ?_
        refine g_ldc cx m1X5_as_c145 dX5_as_38 ?_
        refine g_VSi (rest := []) (As := [.int (-1000000003)]) cx hYX5_finding gX5_as_X5_finding (c_X5_finding l E a c g (-1000000003) (by unfold vp_in; decide +kernel)) rfl rfl rfl ⟨Nat.le_of_ble_eq_true rfl, Nat.le_of_ble_eq_true rfl⟩ rfl rfl (Nat.le_of_ble_eq_true rfl) ⟨Nat.le_of_ble_eq_true rfl, Nat.le_of_ble_eq_true rfl⟩ dX5_as_40 (fun r w1 hp => ?_)
        obtain ⟨rfl, rfl⟩ := hp
        exact g_iret cx gr (Nat.zero_le _) (Nat.zero_le _) dX5_as_43 (xleaf (by first | (simp only [sp_as, tKind, tMood, tPen, tAte, tHour, tTray, tAt, tRang, tCrack, tTak, tWay, cB, c_1, c_2, c_3, if_true, if_false]; done) | (simp only [sp_as, tKind, tMood, tPen, tAte, tHour, tTray, tAt, tRang, tCrack, tTak, tWay, cB, c_1, c_2, c_3, if_true, if_false] <;> rfl) | (simp [sp_as, tKind, tMood, tPen, tAte, tHour, tTray, tAt, tRang, tCrack, tTak, tWay, cB, c_1, c_2, c_3] <;> rfl)))
    · refine g_aload_n cx dX5_as_14 0 rfl ?_
      refine g_ldc cx m1X5_as_c61 dX5_as_15 ?_
      refine g_VSi (rest := []) (As := [.int (-1000000001)]) cx hYX5_finding gX5_as_X5_finding (c_X5_finding l E a c g (-1000000001) (by unfold vp_in; decide +kernel)) rfl rfl rfl ⟨Nat.le_of_ble_eq_true rfl, Nat.le_of_ble_eq_true rfl⟩ rfl rfl (Nat.le_of_ble_eq_true rfl) ⟨Nat.le_of_ble_eq_true rfl, Nat.le_of_ble_eq_true rfl⟩ dX5_as_17 (fun r w1 hp => ?_)
      obtain ⟨rfl, rfl⟩ := hp
      exact g_iret cx gr (Nat.zero_le _) (Nat.zero_le _) dX5_as_20 (xleaf (by first | (simp only [sp_as, tKind, tMood, tPen, tAte, tHour, tTray, tAt, tRang, tCrack, tTak, tWay, cB, c_1, c_2, if_true, if_false]; done) | (simp only [sp_as, tKind, tMood, tPen, tAte, tHour, tTray, tAt, tRang, tCrack, tTak, tWay, cB, c_1, c_2, if_true, if_false] <;> rfl) | (simp [sp_as, tKind, tMood, tPen, tAte, tHour, tTray, tAt, tRang, tCrack, tTak, tWay, cB, c_1, c_2] <;> rfl)))

abbrev rmX5_move : Room := { frames := 2, cells := 0, slots := 0, locals := 45 }
theorem hYX5_move : gY yX5_move wsX5_move cX5_move 3 (some .int) 2 := ⟨⟨_, rfl⟩, by decide +kernel, by decide +kernel, by decide +kernel⟩
theorem m1X5_move_c61 : Cond.constant RX5 61 (-1000000001) ∈ wsX5_move := by decide +kernel
theorem iwX5_move_X5 : ∀ w ∈ u_ws RX5 TX5 8, w ∈ wsX5_move := by decide +kernel
theorem lkX5_move_10 : Cond.fieldLink RX5 10 "MuffinBells" "present" "LMuffinBells$Terrace;" ∈ wsX5_move := by decide +kernel
set_option maxRecDepth 100000 in
set_option maxHeartbeats 4000000 in
theorem c_X5_move (l : Launch) (E : gE) (a : Nat → Nat) (c : Cor) (g : Gar) (h0 : Int32) (o0 : Int32) (hok : cOk c) : cti l yX5_move wsX5_move rmX5_move E [.ref (a 0), .int h0, .int o0] (xW E a c g) (fun r w => ∃ g', r = (sp_move c h0 o0).1 ∧ w = xW E a (sp_move c h0 o0).2 g') := by
  refine mt_i (cc := cX5_move) (maxL := 3) (ret := some .int) (lv0 := [(0, .ref (a 0)), (1, .int h0), (2, .int o0)]) (by decide) rfl rfl (Nat.le_of_ble_eq_true rfl) (fun X cx gr hI => ?_)
  refine g_iload_n cx dX5_move_0 1 rfl ?_
  refine g_SPi (rest := []) (As := [.int h0]) cx hYX5_isHouse gX5_move_X5_isHouse (c_X5_isHouse l E h0 ) ⟨Nat.le_of_ble_eq_true rfl, Nat.le_of_ble_eq_true rfl⟩ rfl rfl (Nat.le_of_ble_eq_true rfl) ⟨Nat.le_of_ble_eq_true rfl, Nat.le_of_ble_eq_true rfl⟩ dX5_move_1 ?_
  refine g_if_eq (tgt := 19) cx dX5_move_4 (by decide) (fun c_1 => ?_) (fun c_1 => ?_)
  · refine g_aload_n cx dX5_move_19 0 rfl ?_
    refine g_ldc cx m1X5_move_c61 dX5_move_20 ?_
    refine g_VSi (rest := []) (As := [.int (-1000000001)]) cx hYX5_finding gX5_move_X5_finding (c_X5_finding l E a c g (-1000000001) (by unfold vp_in; decide +kernel)) rfl rfl rfl ⟨Nat.le_of_ble_eq_true rfl, Nat.le_of_ble_eq_true rfl⟩ rfl rfl (Nat.le_of_ble_eq_true rfl) ⟨Nat.le_of_ble_eq_true rfl, Nat.le_of_ble_eq_true rfl⟩ dX5_move_22 (fun r w1 hp => ?_)
    obtain ⟨rfl, rfl⟩ := hp
    exact g_iret cx gr (Nat.zero_le _) (Nat.zero_le _) dX5_move_25 (xleaf (by first | (simp only [sp_move, tKind, tMood, tPen, tAte, tHour, tTray, tAt, tRang, tCrack, tTak, tWay, cB, c_1, if_true, if_false]; done) | (simp only [sp_move, tKind, tMood, tPen, tAte, tHour, tTray, tAt, tRang, tCrack, tTak, tWay, cB, c_1, if_true, if_false] <;> rfl) | (simp [sp_move, tKind, tMood, tPen, tAte, tHour, tTray, tAt, tRang, tCrack, tTak, tWay, cB, c_1] <;> rfl)))
  · refine g_iload_n cx dX5_move_7 2 rfl ?_
    refine g_SPi (rest := []) (As := [.int o0]) cx hYX5_isHouse gX5_move_X5_isHouse (c_X5_isHouse l E o0 ) ⟨Nat.le_of_ble_eq_true rfl, Nat.le_of_ble_eq_true rfl⟩ rfl rfl (Nat.le_of_ble_eq_true rfl) ⟨Nat.le_of_ble_eq_true rfl, Nat.le_of_ble_eq_true rfl⟩ dX5_move_8 ?_
    refine g_if_eq (tgt := 19) cx dX5_move_11 (by decide) (fun c_2 => ?_) (fun c_2 => ?_)
    · refine g_aload_n cx dX5_move_19 0 rfl ?_
      refine g_ldc cx m1X5_move_c61 dX5_move_20 ?_
      refine g_VSi (rest := []) (As := [.int (-1000000001)]) cx hYX5_finding gX5_move_X5_finding (c_X5_finding l E a c g (-1000000001) (by unfold vp_in; decide +kernel)) rfl rfl rfl ⟨Nat.le_of_ble_eq_true rfl, Nat.le_of_ble_eq_true rfl⟩ rfl rfl (Nat.le_of_ble_eq_true rfl) ⟨Nat.le_of_ble_eq_true rfl, Nat.le_of_ble_eq_true rfl⟩ dX5_move_22 (fun r w1 hp => ?_)
      obtain ⟨rfl, rfl⟩ := hp
      exact g_iret cx gr (Nat.zero_le _) (Nat.zero_le _) dX5_move_25 (xleaf (by first | (simp only [sp_move, tKind, tMood, tPen, tAte, tHour, tTray, tAt, tRang, tCrack, tTak, tWay, cB, c_1, c_2, if_true, if_false]; done) | (simp only [sp_move, tKind, tMood, tPen, tAte, tHour, tTray, tAt, tRang, tCrack, tTak, tWay, cB, c_1, c_2, if_true, if_false] <;> rfl) | (simp [sp_move, tKind, tMood, tPen, tAte, tHour, tTray, tAt, tRang, tCrack, tTak, tWay, cB, c_1, c_2] <;> rfl)))
    · refine g_iload_n cx dX5_move_14 1 rfl ?_
      refine g_iload_n cx dX5_move_15 2 rfl ?_
      refine g_icmp_ne (tgt := 26) cx dX5_move_16 (by decide) (fun c_3 => ?_) (fun c_3 => ?_)
      · refine g_aload_n cx dX5_move_26 0 rfl ?_
        refine g_get (C := RX5) (T := TX5) (N := 8) (v := .ref (a 1)) cx iwX5_move_X5 0 0 rfl rfl (by decide) lkX5_move_10 rfl dX5_move_27 ?_
        refine g_iload_n cx dX5_move_30 1 rfl ?_
        refine g_iload_n cx dX5_move_31 2 rfl ?_
        refine g_Xpv (rest := []) (As := [.int h0, .int o0]) cx hYX3_changeFamilies gX5_move_X3_changeFamilies (c_X3_changeFamilies l E (fun i => a (1 + i)) c.1 h0 o0 (isW_vp 7 c_1 (by decide)) (isW_vp 7 c_2 (by decide))) rfl ⟨Nat.le_of_ble_eq_true rfl, Nat.le_of_ble_eq_true rfl⟩ rfl rfl (Nat.le_of_ble_eq_true rfl) ⟨Nat.le_of_ble_eq_true rfl, Nat.le_of_ble_eq_true rfl⟩ dX5_move_32 ?_
        refine g_iconst (v := 1) cx dX5_move_35 (by decide) ?_
        exact g_iret cx gr (Nat.zero_le _) (Nat.zero_le _) dX5_move_36 (xleaf (by first | (simp only [sp_move, tKind, tMood, tPen, tAte, tHour, tTray, tAt, tRang, tCrack, tTak, tWay, cB, c_1, c_2, c_3, if_true, if_false]; done) | (simp only [sp_move, tKind, tMood, tPen, tAte, tHour, tTray, tAt, tRang, tCrack, tTak, tWay, cB, c_1, c_2, c_3, if_true, if_false] <;> rfl) | (simp [sp_move, tKind, tMood, tPen, tAte, tHour, tTray, tAt, tRang, tCrack, tTak, tWay, cB, c_1, c_2, c_3] <;> rfl)))
      · refine g_aload_n cx dX5_move_19 0 rfl ?_
        refine g_ldc cx m1X5_move_c61 dX5_move_20 ?_
        refine g_VSi (rest := []) (As := [.int (-1000000001)]) cx hYX5_finding gX5_move_X5_finding (c_X5_finding l E a c g (-1000000001) (by unfold vp_in; decide +kernel)) rfl rfl rfl ⟨Nat.le_of_ble_eq_true rfl, Nat.le_of_ble_eq_true rfl⟩ rfl rfl (Nat.le_of_ble_eq_true rfl) ⟨Nat.le_of_ble_eq_true rfl, Nat.le_of_ble_eq_true rfl⟩ dX5_move_22 (fun r w1 hp => ?_)
        obtain ⟨rfl, rfl⟩ := hp
        exact g_iret cx gr (Nat.zero_le _) (Nat.zero_le _) dX5_move_25 (xleaf (by first | (simp only [sp_move, tKind, tMood, tPen, tAte, tHour, tTray, tAt, tRang, tCrack, tTak, tWay, cB, c_1, c_2, c_3, if_true, if_false]; done) | (simp only [sp_move, tKind, tMood, tPen, tAte, tHour, tTray, tAt, tRang, tCrack, tTak, tWay, cB, c_1, c_2, c_3, if_true, if_false] <;> rfl) | (simp [sp_move, tKind, tMood, tPen, tAte, tHour, tTray, tAt, tRang, tCrack, tTak, tWay, cB, c_1, c_2, c_3] <;> rfl)))
