theorem lay_kM {m : Nat → Int64} {i : Nat} {s : (Nat → Int32) × Int32} {f : Nat → Int32} {y : Int32} (hs : (f, y) = layS m i s) (h : inL (m i) 0 20 = 0) : (upd f i (f i), y + 0) = layS m (i + 1) s := by
  rw [layS, if_pos h, ← hs, Int32.add_zero]
  congr 1
  funext k
  unfold upd
  by_cases q : k = i
  · rw [if_pos q, q]
  · rw [if_neg q]

abbrev rmX6_lays : Room := { frames := 3, cells := 0, slots := 0, locals := 66 }
theorem hYX6_lays : gY yX6_lays wsX6_lays cX6_lays 6 (some .int) 1 := ⟨⟨_, rfl⟩, by decide +kernel, by decide +kernel, by decide +kernel⟩
theorem iwX6_lays_X6 : ∀ w ∈ u_ws RX6 TX6 16, w ∈ wsX6_lays := by decide +kernel
theorem lkX6_lays_31 : Cond.fieldLink RX6 31 "MuffinBellsModel" "sizeOf" "[I" ∈ wsX6_lays := by decide +kernel
theorem lkX6_lays_34 : Cond.fieldLink RX6 34 "MuffinBellsModel" "numbers" "[J" ∈ wsX6_lays := by decide +kernel
theorem m1X6_lays_c109 : Cond.constantLong RX6 109 (20) ∈ wsX6_lays := by decide +kernel
theorem lkX6_lays_7 : Cond.fieldLink RX6 7 "MuffinBellsModel" "s" "[I" ∈ wsX6_lays := by decide +kernel
set_option maxRecDepth 100000 in
set_option maxHeartbeats 4000000 in
theorem c_X6_lays (l : Launch) (E : gE) (a : Nat → Nat) (c : Cor) (h : Mar) (s0 : Int32) (hok : cOk c) : cti l yX6_lays wsX6_lays rmX6_lays E [.ref (a 0), .int s0] (mW E a c h) (fun r w => ∃ h', r = (sp_lays c s0).1 ∧ w = mW E a (sp_lays c s0).2 h') := by
  refine mt_i (cc := cX6_lays) (maxL := 6) (ret := some .int) (lv0 := [(0, .ref (a 0)), (1, .int s0)]) (by decide) rfl rfl (Nat.le_of_ble_eq_true rfl) (fun X cx gr hI => ?_)
  refine g_aload_n cx dX6_lays_0 0 rfl ?_
  refine g_iload_n cx dX6_lays_1 1 rfl ?_
  refine g_VSi (rest := []) (As := [.int s0]) cx hYX6_wrongSheet gX6_lays_X6_wrongSheet (c_X6_wrongSheet l E a c h s0 ) rfl rfl rfl ⟨Nat.le_of_ble_eq_true rfl, Nat.le_of_ble_eq_true rfl⟩ rfl rfl (Nat.le_of_ble_eq_true rfl) ⟨Nat.le_of_ble_eq_true rfl, Nat.le_of_ble_eq_true rfl⟩ dX6_lays_2 (fun r w1 hp => ?_)
  obtain ⟨rfl, rfl⟩ := hp
  refine g_istore_n (lv' := [(2, .int (wrS c.2.2.2.2.2.1 s0)), (0, .ref (a 0)), (1, .int s0)]) cx dX6_lays_5 (by decide) rfl ?_
  refine g_iload_n cx dX6_lays_6 0 rfl ?_
  refine g_if_eq (tgt := 16) cx dX6_lays_7 (by decide) (fun c_1 => ?_) (fun c_1 => ?_)
  · obtain ⟨hw1, hw2⟩ := wr_0 c_1
    obtain ⟨j, hj3, hj⟩ := isW_nI 3 hw1 (by decide)
    have hj4 : j < 4 := by omega
    have hjc : s0.toNatClampNeg = j := by rw [hj, nI_clamp (by omega)]
    obtain ⟨Z, hZ, hz⟩ := sz_nI (j := j) hok hj4
    refine g_iconst (v := 0) cx dX6_lays_16 (by decide) ?_
    refine g_istore_n (lv' := [(3, .int 0), (2, .int (wrS c.2.2.2.2.2.1 s0)), (0, .ref (a 0)), (1, .int s0)]) cx dX6_lays_17 (by decide) rfl ?_
    refine g_iconst (v := 0) cx dX6_lays_18 (by decide) ?_
    refine g_istore (lv' := [(4, .int 0), (3, .int 0), (2, .int (wrS c.2.2.2.2.2.1 s0)), (0, .ref (a 0)), (1, .int s0)]) cx dX6_lays_19 (by decide) rfl ?_
    have LP21 : ∀ (d : Nat) (i : Nat) (x : Int32) (f : Nat → Int32) (y : Int32), i + d = 9 → i ≤ 8 → i ≤ Z → x = nI i → (f, y) = layS (c.2.2.2.2.2.2.2.1 j) i (c.1.2.2.2.2.2.2.2.2.1, 0) → gG X 0 0 (mW E a ((c.1.1, c.1.2.1, c.1.2.2.1, c.1.2.2.2.1, c.1.2.2.2.2.1, c.1.2.2.2.2.2.1, c.1.2.2.2.2.2.2.1, c.1.2.2.2.2.2.2.2.1, f, c.1.2.2.2.2.2.2.2.2.2.1, c.1.2.2.2.2.2.2.2.2.2.2), c.2.1, c.2.2.1, c.2.2.2.1, c.2.2.2.2.1, c.2.2.2.2.2.1, c.2.2.2.2.2.2.1, c.2.2.2.2.2.2.2.1, c.2.2.2.2.2.2.2.2) h) 21 [(0, .ref (a 0)), (1, .int s0), (3, .int y), (4, .int x)] [] := by
      intro d
      induction d with
      | zero =>
        intro i x f y hi hi8 hiZ hx hs
        omega
      | succ d ih =>
        intro i x f y hi hi8 hiZ hx hs
        refine g_iload cx dX6_lays_21 3 rfl ?_
        refine g_aload_n cx dX6_lays_23 0 rfl ?_
        refine g_get (C := RX6) (T := TX6) (N := 16) (v := .ref (a 8)) cx iwX6_lays_X6 0 13 rfl rfl (by decide) lkX6_lays_31 rfl dX6_lays_24 ?_
        refine g_iload_n cx dX6_lays_27 1 rfl ?_
        refine g_iald cx 8 rfl rfl (vp_of_nI hj hj4 (by decide)) dX6_lays_28 ?_
        refine g_icmp_ge (tgt := 118) cx dX6_lays_29 (by decide) (fun c_2 => ?_) (fun c_2 => ?_)
        · refine g_iload_n cx dX6_lays_118 2 rfl ?_
          exact g_iret cx gr (Nat.zero_le _) (Nat.zero_le _) dX6_lays_119 (mleaf (by rw [sp_lays, if_neg hw1, if_neg hw2, hjc]; show ((layS (c.2.2.2.2.2.2.2.1 j) (min8 (c.2.2.2.2.2.2.1 j).toNatClampNeg) _).2, cMo c (layS (c.2.2.2.2.2.2.2.1 j) (min8 (c.2.2.2.2.2.2.1 j).toNatClampNeg) _).1) = _; rw [hz, nI_clamp (by omega), lay_eZ (ge_of Z hx (by rw [← hz, ← hjc]; exact c_2) (by omega) (by omega)) hi8 hiZ, ← hs]; rfl))
        · refine g_iload cx dX6_lays_32 3 rfl ?_
          refine g_bipush (v := 8) cx dX6_lays_34 (by decide) ?_
          refine g_icmp_ge (tgt := 118) cx dX6_lays_36 (by decide) (fun c_3 => ?_) (fun c_3 => ?_)
          · refine g_iload_n cx dX6_lays_118 2 rfl ?_
            exact g_iret cx gr (Nat.zero_le _) (Nat.zero_le _) dX6_lays_119 (mleaf (by rw [sp_lays, if_neg hw1, if_neg hw2, hjc]; show ((layS (c.2.2.2.2.2.2.2.1 j) (min8 (c.2.2.2.2.2.2.1 j).toNatClampNeg) _).2, cMo c (layS (c.2.2.2.2.2.2.2.1 j) (min8 (c.2.2.2.2.2.2.1 j).toNatClampNeg) _).1) = _; rw [hz, nI_clamp (by omega), lay_e8 (ge_of 8 hx c_3 (by omega) (by decide)) hi8 hiZ, ← hs]; rfl))
          · refine g_aload_n cx dX6_lays_39 0 rfl ?_
            refine g_get (C := RX6) (T := TX6) (N := 16) (v := .ref (a 9)) cx iwX6_lays_X6 0 14 rfl rfl (by decide) lkX6_lays_34 rfl dX6_lays_40 ?_
            refine g_bipush (v := 40) cx dX6_lays_43 (by decide) ?_
            refine g_iload_n cx dX6_lays_45 1 rfl ?_
            refine g_imul cx dX6_lays_46 ?_
            refine g_iload cx dX6_lays_47 3 rfl ?_
            refine g_iadd cx dX6_lays_49 ?_
            refine g_lald cx 9 rfl rfl (fl_in hj hx hj4 (by have := lt_of Z hx (by rw [← hz, ← hjc]; exact c_2) (by omega) (by omega); omega)) dX6_lays_50 ?_
            refine g_topl (y := c.2.2.2.2.2.2.2.1 j i) (fl_r c.2.2.2.2.2.2.2.1 hj hx hj4 (by have := lt_of Z hx (by rw [← hz, ← hjc]; exact c_2) (by omega) (by omega); omega)) ?_
            refine g_lconst (v := 0) cx dX6_lays_51 (by decide) ?_
            refine g_ldc2 cx m1X6_lays_c109 dX6_lays_52 ?_
            refine g_SPi (rest := []) (As := [.long (c.2.2.2.2.2.2.2.1 j i), .long 0, .long 20]) cx hYX6_in gX6_lays_X6_in (c_X6_in l E (c.2.2.2.2.2.2.2.1 j i) 0 20) ⟨Nat.le_of_ble_eq_true rfl, Nat.le_of_ble_eq_true rfl⟩ rfl rfl (Nat.le_of_ble_eq_true rfl) ⟨Nat.le_of_ble_eq_true rfl, Nat.le_of_ble_eq_true rfl⟩ dX6_lays_55 ?_
            refine g_istore (lv' := [(5, .int (inL (c.2.2.2.2.2.2.2.1 j i) 0 20)), (0, .ref (a 0)), (1, .int s0), (3, .int y), (4, .int x)]) cx dX6_lays_58 (by decide) rfl ?_
            refine g_aload_n cx dX6_lays_60 1 rfl ?_
            refine g_get (C := RX6) (T := TX6) (N := 16) (v := .ref (a 1)) cx iwX6_lays_X6 0 0 rfl rfl (by decide) lkX6_lays_7 rfl dX6_lays_61 ?_
            refine g_iload cx dX6_lays_64 4 rfl ?_
            refine g_iconst (v := 1) cx dX6_lays_66 (by decide) ?_
            refine g_SPi (rest := [.ref (a 1)]) (As := [.int x, .int 1]) cx hYX6_spotOf gX6_lays_X6_spotOf (c_X6_spotOf l E x 1 ) ⟨Nat.le_of_ble_eq_true rfl, Nat.le_of_ble_eq_true rfl⟩ rfl rfl (Nat.le_of_ble_eq_true rfl) ⟨Nat.le_of_ble_eq_true rfl, Nat.le_of_ble_eq_true rfl⟩ dX6_lays_67 ?_
            refine g_iload cx dX6_lays_70 0 rfl ?_
            refine g_if_eq (tgt := 91) cx dX6_lays_72 (by decide) (fun c_4 => ?_) (fun c_4 => ?_)
            · refine g_aload_n cx dX6_lays_91 1 rfl ?_
              refine g_iload cx dX6_lays_92 4 rfl ?_
              refine g_iconst (v := 1) cx dX6_lays_94 (by decide) ?_
              refine g_VSi (rest := [.int (spot x 1), .ref (a 1)]) (As := [.int x, .int 1]) cx hYX6_its gX6_lays_X6_its (c_X6_its1 l E a ((c.1.1, c.1.2.1, c.1.2.2.1, c.1.2.2.2.1, c.1.2.2.2.2.1, c.1.2.2.2.2.2.1, c.1.2.2.2.2.2.2.1, c.1.2.2.2.2.2.2.2.1, f, c.1.2.2.2.2.2.2.2.2.2.1, c.1.2.2.2.2.2.2.2.2.2.2), c.2.1, c.2.2.1, c.2.2.2.1, c.2.2.2.2.1, c.2.2.2.2.2.1, c.2.2.2.2.2.2.1, c.2.2.2.2.2.2.2.1, c.2.2.2.2.2.2.2.2) h x (vp_of_nI hx (lt_of 8 hx c_3 (by omega) (by decide)) (by decide))) rfl rfl rfl ⟨Nat.le_of_ble_eq_true rfl, Nat.le_of_ble_eq_true rfl⟩ rfl rfl (Nat.le_of_ble_eq_true rfl) ⟨Nat.le_of_ble_eq_true rfl, Nat.le_of_ble_eq_true rfl⟩ dX6_lays_95 (fun r w1 hp => ?_)
              obtain ⟨rfl, rfl⟩ := hp
              refine g_iast (ws' := (mW E a ((c.1.1, c.1.2.1, c.1.2.2.1, c.1.2.2.2.1, c.1.2.2.2.2.1, c.1.2.2.2.2.2.1, c.1.2.2.2.2.2.2.1, c.1.2.2.2.2.2.2.2.1, upd f x.toNatClampNeg (f x.toNatClampNeg), c.1.2.2.2.2.2.2.2.2.2.1, c.1.2.2.2.2.2.2.2.2.2.2), c.2.1, c.2.2.1, c.2.2.2.1, c.2.2.2.2.1, c.2.2.2.2.2.1, c.2.2.2.2.2.2.1, c.2.2.2.2.2.2.2.1, c.2.2.2.2.2.2.2.2) h)) cx 1 rfl rfl (si_M (vp_of_nI hx (lt_of 8 hx c_3 (by omega) (by decide)) (by decide))) dX6_lays_98 (congrArg (fun f => List.set (mW E a ((c.1.1, c.1.2.1, c.1.2.2.1, c.1.2.2.2.1, c.1.2.2.2.2.1, c.1.2.2.2.2.2.1, c.1.2.2.2.2.2.2.1, c.1.2.2.2.2.2.2.2.1, f, c.1.2.2.2.2.2.2.2.2.2.1, c.1.2.2.2.2.2.2.2.2.2.2), c.2.1, c.2.2.1, c.2.2.2.1, c.2.2.2.2.1, c.2.2.2.2.2.1, c.2.2.2.2.2.2.1, c.2.2.2.2.2.2.2.1, c.2.2.2.2.2.2.2.2) h) 1 (a 1, .inl (gI E, 39, .inl f))) (su_M (vp_of_nI hx (lt_of 8 hx c_3 (by omega) (by decide)) (by decide)) (c.1.1, c.1.2.1, c.1.2.2.1, c.1.2.2.2.1, c.1.2.2.2.2.1, c.1.2.2.2.2.2.1, c.1.2.2.2.2.2.2.1, c.1.2.2.2.2.2.2.2.1, f, c.1.2.2.2.2.2.2.2.2.2.1, c.1.2.2.2.2.2.2.2.2.2.2) (f x.toNatClampNeg))) ?_
              refine g_iload_n cx dX6_lays_99 3 rfl ?_
              refine g_iload cx dX6_lays_100 0 rfl ?_
              refine g_if_eq (tgt := 109) cx dX6_lays_102 (by decide) (fun c_5 => ?_) (fun c_5 => absurd (c_4) c_5)
              refine g_iconst (v := 0) cx dX6_lays_109 (by decide) ?_
              refine g_iadd cx dX6_lays_110 ?_
              refine g_istore_n (lv' := [(3, .int (y + 0)), (5, .int (inL (c.2.2.2.2.2.2.2.1 j i) 0 20)), (0, .ref (a 0)), (1, .int s0), (4, .int x)]) cx dX6_lays_111 (by decide) rfl ?_
              refine g_iinc (v := x + 1) (lv' := [(4, .int (x + 1)), (3, .int (y + 0)), (5, .int (inL (c.2.2.2.2.2.2.2.1 j i) 0 20)), (0, .ref (a 0)), (1, .int s0)]) cx dX6_lays_112 4 rfl rfl (by decide) rfl ?_
              refine g_goto (tgt := 21) cx dX6_lays_115 (by decide) ?_
              exact g_lv [3, 4, 1, 0] rfl (ih (i + 1) (x + 1) (upd f x.toNatClampNeg (f x.toNatClampNeg)) (y + 0) (by omega) (by have := (lt_of 8 hx c_3 (by omega) (by decide)); omega) (by have := (lt_of Z hx (by rw [← hz, ← hjc]; exact c_2) (by omega) (by omega)); omega) (by rw [hx]; exact nI_1 i) (by have q := lay_kM hs c_4; rw [hx, nI_clamp (by omega)]; exact q))
            · refine g_aload_n cx dX6_lays_75 1 rfl ?_
              refine g_get (C := RX6) (T := TX6) (N := 16) (v := .ref (a 9)) cx iwX6_lays_X6 0 14 rfl rfl (by decide) lkX6_lays_34 rfl dX6_lays_76 ?_
              refine g_bipush (v := 40) cx dX6_lays_79 (by decide) ?_
              refine g_iload_n cx dX6_lays_81 2 rfl ?_
              refine g_imul cx dX6_lays_82 ?_
              refine g_iload cx dX6_lays_83 4 rfl ?_
              refine g_iadd cx dX6_lays_85 ?_
              refine g_lald cx 9 rfl rfl (fl_in hj hx hj4 (by have := lt_of Z hx (by rw [← hz, ← hjc]; exact c_2) (by omega) (by omega); omega)) dX6_lays_86 ?_
              refine g_topl (y := c.2.2.2.2.2.2.2.1 j i) (fl_r c.2.2.2.2.2.2.2.1 hj hx hj4 (by have := lt_of Z hx (by rw [← hz, ← hjc]; exact c_2) (by omega) (by omega); omega)) ?_
              refine g_l2i cx dX6_lays_87 ?_
              refine g_goto (tgt := 98) cx dX6_lays_88 (by decide) ?_
              refine g_iast (ws' := (mW E a ((c.1.1, c.1.2.1, c.1.2.2.1, c.1.2.2.2.1, c.1.2.2.2.2.1, c.1.2.2.2.2.2.1, c.1.2.2.2.2.2.2.1, c.1.2.2.2.2.2.2.2.1, upd f x.toNatClampNeg ((c.2.2.2.2.2.2.2.1 j i).toInt32), c.1.2.2.2.2.2.2.2.2.2.1, c.1.2.2.2.2.2.2.2.2.2.2), c.2.1, c.2.2.1, c.2.2.2.1, c.2.2.2.2.1, c.2.2.2.2.2.1, c.2.2.2.2.2.2.1, c.2.2.2.2.2.2.2.1, c.2.2.2.2.2.2.2.2) h)) cx 1 rfl rfl (si_M (vp_of_nI hx (lt_of 8 hx c_3 (by omega) (by decide)) (by decide))) dX6_lays_98 (congrArg (fun f => List.set (mW E a ((c.1.1, c.1.2.1, c.1.2.2.1, c.1.2.2.2.1, c.1.2.2.2.2.1, c.1.2.2.2.2.2.1, c.1.2.2.2.2.2.2.1, c.1.2.2.2.2.2.2.2.1, f, c.1.2.2.2.2.2.2.2.2.2.1, c.1.2.2.2.2.2.2.2.2.2.2), c.2.1, c.2.2.1, c.2.2.2.1, c.2.2.2.2.1, c.2.2.2.2.2.1, c.2.2.2.2.2.2.1, c.2.2.2.2.2.2.2.1, c.2.2.2.2.2.2.2.2) h) 1 (a 1, .inl (gI E, 39, .inl f))) (su_M (vp_of_nI hx (lt_of 8 hx c_3 (by omega) (by decide)) (by decide)) (c.1.1, c.1.2.1, c.1.2.2.1, c.1.2.2.2.1, c.1.2.2.2.2.1, c.1.2.2.2.2.2.1, c.1.2.2.2.2.2.2.1, c.1.2.2.2.2.2.2.2.1, f, c.1.2.2.2.2.2.2.2.2.2.1, c.1.2.2.2.2.2.2.2.2.2.2) ((c.2.2.2.2.2.2.2.1 j i).toInt32))) ?_
              refine g_iload_n cx dX6_lays_99 3 rfl ?_
              refine g_iload cx dX6_lays_100 0 rfl ?_
              refine g_if_eq (tgt := 109) cx dX6_lays_102 (by decide) (fun c_6 => absurd c_6 (c_4)) (fun c_6 => ?_)
              refine g_iconst (v := 1) cx dX6_lays_105 (by decide) ?_
              refine g_goto (tgt := 110) cx dX6_lays_106 (by decide) ?_
              refine g_iadd cx dX6_lays_110 ?_
              refine g_istore_n (lv' := [(3, .int (y + 1)), (5, .int (inL (c.2.2.2.2.2.2.2.1 j i) 0 20)), (0, .ref (a 0)), (1, .int s0), (4, .int x)]) cx dX6_lays_111 (by decide) rfl ?_
              refine g_iinc (v := x + 1) (lv' := [(4, .int (x + 1)), (3, .int (y + 1)), (5, .int (inL (c.2.2.2.2.2.2.2.1 j i) 0 20)), (0, .ref (a 0)), (1, .int s0)]) cx dX6_lays_112 4 rfl rfl (by decide) rfl ?_
              refine g_goto (tgt := 21) cx dX6_lays_115 (by decide) ?_
              exact g_lv [3, 4, 1, 0] rfl (ih (i + 1) (x + 1) (upd f x.toNatClampNeg ((c.2.2.2.2.2.2.2.1 j i).toInt32)) (y + 1) (by omega) (by have := (lt_of 8 hx c_3 (by omega) (by decide)); omega) (by have := (lt_of Z hx (by rw [← hz, ← hjc]; exact c_2) (by omega) (by omega)); omega) (by rw [hx]; exact nI_1 i) (by have q := lay_k hs c_4; rw [hx, nI_clamp (by omega)]; exact q))
    exact g_lv [3, 4, 1, 0] rfl (LP21 9 0 0 _ 0 (by omega) (by omega) (by omega) rfl rfl)
  · refine g_aload_n cx dX6_lays_10 1 rfl ?_
    refine g_iload_n cx dX6_lays_11 0 rfl ?_
    refine g_VSi (rest := []) (As := [.int (wrS c.2.2.2.2.2.1 s0)]) cx hYX6_finds gX6_lays_X6_finds (c_X6_finds l E a c h (wrS c.2.2.2.2.2.1 s0) (wr_in7 c_1)) rfl rfl rfl ⟨Nat.le_of_ble_eq_true rfl, Nat.le_of_ble_eq_true rfl⟩ rfl rfl (Nat.le_of_ble_eq_true rfl) ⟨Nat.le_of_ble_eq_true rfl, Nat.le_of_ble_eq_true rfl⟩ dX6_lays_12 (fun r w1 hp => ?_)
    obtain ⟨rfl, rfl⟩ := hp
    exact g_iret cx gr (Nat.zero_le _) (Nat.zero_le _) dX6_lays_15 (mleaf (by rw [sp_lays]; exact wr_b (P := fun f => cB f c) c_1 rfl rfl))
