abbrev rmX5_copy : Room := { frames := 2, cells := 0, slots := 0, locals := 60 }
theorem hYX5_copy : gY yX5_copy wsX5_copy cX5_copy 8 (some .int) 5 := ⟨⟨_, rfl⟩, by decide +kernel, by decide +kernel, by decide +kernel⟩
theorem m1X5_copy_c61 : Cond.constant RX5 61 (-1000000001) ∈ wsX5_copy := by decide +kernel
theorem iwX5_copy_X5 : ∀ w ∈ u_ws RX5 TX5 8, w ∈ wsX5_copy := by decide +kernel
theorem lkX5_copy_44 : Cond.fieldLink RX5 44 "MuffinBells" "sheets" "[LMuffinBells$Sheet;" ∈ wsX5_copy := by decide +kernel
theorem m1X5_copy_c211 : Cond.constant RX5 211 (-1000000006) ∈ wsX5_copy := by decide +kernel
theorem iwX5_copy_X1 : ∀ w ∈ u_ws RX1 TX1 3, w ∈ wsX5_copy := by decide +kernel
theorem lkX5_copy_220 : Cond.fieldLink RX5 220 "MuffinBells$Sheet" "bits" "I" ∈ wsX5_copy := by decide +kernel
theorem lkX5_copy_212 : Cond.fieldLink RX5 212 "MuffinBells$Sheet" "numbers" "[J" ∈ wsX5_copy := by decide +kernel
theorem mwX5_copy_ac : ∀ w ∈ ([Cond.methodLink RX5 226 arraycopyName, Cond.native arraycopyName, Cond.static arraycopyName, Cond.initialized "java/lang/System"] : List Cond), w ∈ wsX5_copy := by decide +kernel
theorem m1X5_copy_c145 : Cond.constant RX5 145 (-1000000003) ∈ wsX5_copy := by decide +kernel
set_option maxRecDepth 100000 in
set_option maxHeartbeats 4000000 in
theorem c_X5_copy (l : Launch) (E : gE) (a : Nat → Nat) (c : Cor) (g : Gar) (s0 : Int32) (f0 : Int32) (t0 : Int32) (o0 : Int32) (n0 : Int32) (hok : cOk c) : cti l yX5_copy wsX5_copy rmX5_copy E [.ref (a 0), .int s0, .int f0, .int t0, .int o0, .int n0] (xW E a c g) (fun r w => ∃ g', r = (sp_copy c s0 f0 t0 o0 n0).1 ∧ w = xW E a (sp_copy c s0 f0 t0 o0 n0).2 g') := by
  refine mt_i (cc := cX5_copy) (maxL := 8) (ret := some .int) (lv0 := [(0, .ref (a 0)), (1, .int s0), (2, .int f0), (3, .int t0), (4, .int o0), (5, .int n0)]) (by decide) rfl rfl (Nat.le_of_ble_eq_true rfl) (fun X cx gr hI => ?_)
  refine g_iload_n cx dX5_copy_0 1 rfl ?_
  refine g_SPi (rest := []) (As := [.int s0]) cx hYX5_isSheet gX5_copy_X5_isSheet (c_X5_isSheet l E s0 ) ⟨Nat.le_of_ble_eq_true rfl, Nat.le_of_ble_eq_true rfl⟩ rfl rfl (Nat.le_of_ble_eq_true rfl) ⟨Nat.le_of_ble_eq_true rfl, Nat.le_of_ble_eq_true rfl⟩ dX5_copy_1 ?_
  refine g_if_eq (tgt := 14) cx dX5_copy_4 (by decide) (fun c_1 => ?_) (fun c_1 => ?_)
  · refine g_aload_n cx dX5_copy_14 0 rfl ?_
    refine g_ldc cx m1X5_copy_c61 dX5_copy_15 ?_
    refine g_VSi (rest := []) (As := [.int (-1000000001)]) cx hYX5_finding gX5_copy_X5_finding (c_X5_finding l E a c g (-1000000001) (by unfold vp_in; decide +kernel)) rfl rfl rfl ⟨Nat.le_of_ble_eq_true rfl, Nat.le_of_ble_eq_true rfl⟩ rfl rfl (Nat.le_of_ble_eq_true rfl) ⟨Nat.le_of_ble_eq_true rfl, Nat.le_of_ble_eq_true rfl⟩ dX5_copy_17 (fun r w1 hp => ?_)
    obtain ⟨rfl, rfl⟩ := hp
    exact g_iret cx gr (Nat.zero_le _) (Nat.zero_le _) dX5_copy_20 (xleaf (by rw [sp_copy, if_pos c_1]; rfl))
  · refine g_iload_n cx dX5_copy_7 3 rfl ?_
    refine g_SPi (rest := []) (As := [.int t0]) cx hYX5_isSheet gX5_copy_X5_isSheet (c_X5_isSheet l E t0 ) ⟨Nat.le_of_ble_eq_true rfl, Nat.le_of_ble_eq_true rfl⟩ rfl rfl (Nat.le_of_ble_eq_true rfl) ⟨Nat.le_of_ble_eq_true rfl, Nat.le_of_ble_eq_true rfl⟩ dX5_copy_8 ?_
    refine g_if_ne (tgt := 21) cx dX5_copy_11 (by decide) (fun c_2 => ?_) (fun c_2 => ?_)
    · obtain ⟨js0, hjs0, rfl⟩ := isW_nI 3 c_1 (by decide)
      rcases (show js0 = 0 ∨ js0 = 1 ∨ js0 = 2 ∨ js0 = 3 by omega) with rfl | rfl | rfl | rfl
      · refine g_aload_n cx dX5_copy_21 0 rfl ?_
        refine g_get (C := RX5) (T := TX5) (N := 8) (v := .ref (a 19)) cx iwX5_copy_X5 0 6 rfl rfl (by decide) lkX5_copy_44 rfl dX5_copy_22 ?_
        refine g_iload_n cx dX5_copy_25 1 rfl ?_
        refine g_aald (v := a 20) cx 19 rfl rfl (vp_in_nI (by decide) (by decide)) rfl dX5_copy_26 ?_
        refine g_astore (lv' := [(6, .ref (a 20)), (0, .ref (a 0)), (1, .int (nI 0)), (2, .int f0), (3, .int t0), (4, .int o0), (5, .int n0)]) cx dX5_copy_27 (by decide) rfl ?_
        obtain ⟨jt0, hjt0, rfl⟩ := isW_nI 3 c_2 (by decide)
        rcases (show jt0 = 0 ∨ jt0 = 1 ∨ jt0 = 2 ∨ jt0 = 3 by omega) with rfl | rfl | rfl | rfl
        · refine g_aload_n cx dX5_copy_29 1 rfl ?_
          refine g_get (C := RX5) (T := TX5) (N := 8) (v := .ref (a 19)) cx iwX5_copy_X5 0 6 rfl rfl (by decide) lkX5_copy_44 rfl dX5_copy_30 ?_
          refine g_iload_n cx dX5_copy_33 4 rfl ?_
          refine g_aald (v := a 20) cx 19 rfl rfl (vp_in_nI (by decide) (by decide)) rfl dX5_copy_34 ?_
          refine g_astore (lv' := [(7, .ref (a 20)), (6, .ref (a 20)), (0, .ref (a 0)), (1, .int (nI 0)), (2, .int f0), (3, .int (nI 0)), (4, .int o0), (5, .int n0)]) cx dX5_copy_35 (by decide) rfl ?_
          refine g_aload cx dX5_copy_37 1 rfl ?_
          refine g_Vi (rest := []) (As := []) (wr := ([0, 1, 2, 3, 4, 5, 6, 7, 8, 9, 10, 11, 12, 13, 14, 15, 16, 17, 18, 19, 22, 23, 24, 25, 26, 27, 28].filterMap (fun i => (xW E a c g)[i]?))) cx hYX1_isMissing gX5_copy_X1_isMissing (c_X1_isMissing l E (fun i => a (20 + i)) (c.2.2.2.2.2.1 0, c.2.2.2.2.2.2.1 0, c.2.2.2.2.2.2.2.1 0)  ) rfl rfl rfl [20, 21] [0, 1, 2, 3, 4, 5, 6, 7, 8, 9, 10, 11, 12, 13, 14, 15, 16, 17, 18, 19, 22, 23, 24, 25, 26, 27, 28] rfl rfl rfl rfl (by decide) ⟨Nat.le_of_ble_eq_true rfl, Nat.le_of_ble_eq_true rfl⟩ rfl rfl (Nat.le_of_ble_eq_true rfl) ⟨Nat.le_of_ble_eq_true rfl, Nat.le_of_ble_eq_true rfl⟩ dX5_copy_39 (fun r w1 hp => ?_)
          obtain ⟨rfl, rfl⟩ := hp
          refine g_ws (ws' := (xW E a c g)) [0, 1, 2, 3, 4, 5, 6, 7, 8, 9, 10, 11, 12, 13, 14, 15, 16, 17, 18, 19, 27, 28, 20, 21, 22, 23, 24, 25, 26] rfl rfl ?_
          refine g_if_ne (tgt := 53) cx dX5_copy_42 (by decide) (fun c_3 => ?_) (fun c_3 => ?_)
          · refine g_aload_n cx dX5_copy_53 2 rfl ?_
            refine g_ldc cx m1X5_copy_c211 dX5_copy_54 ?_
            refine g_VSi (rest := []) (As := [.int (-1000000006)]) cx hYX5_finding gX5_copy_X5_finding (c_X5_finding l E a c g (-1000000006) (by unfold vp_in; decide +kernel)) rfl rfl rfl ⟨Nat.le_of_ble_eq_true rfl, Nat.le_of_ble_eq_true rfl⟩ rfl rfl (Nat.le_of_ble_eq_true rfl) ⟨Nat.le_of_ble_eq_true rfl, Nat.le_of_ble_eq_true rfl⟩ dX5_copy_56 (fun r w1 hp => ?_)
            obtain ⟨rfl, rfl⟩ := hp
            exact g_iret cx gr (Nat.zero_le _) (Nat.zero_le _) dX5_copy_59 (xleaf (by rw [sp_copy, if_neg c_1, if_neg c_2, show (nI 0).toNatClampNeg = 0 from rfl, if_pos (ms_1 c_3)]; rfl))
          · refine g_aload cx dX5_copy_45 0 rfl ?_
            refine g_Vi (rest := []) (As := []) (wr := ([0, 1, 2, 3, 4, 5, 6, 7, 8, 9, 10, 11, 12, 13, 14, 15, 16, 17, 18, 19, 22, 23, 24, 25, 26, 27, 28].filterMap (fun i => (xW E a c g)[i]?))) cx hYX1_isMissing gX5_copy_X1_isMissing (c_X1_isMissing l E (fun i => a (20 + i)) (c.2.2.2.2.2.1 0, c.2.2.2.2.2.2.1 0, c.2.2.2.2.2.2.2.1 0)  ) rfl rfl rfl [20, 21] [0, 1, 2, 3, 4, 5, 6, 7, 8, 9, 10, 11, 12, 13, 14, 15, 16, 17, 18, 19, 22, 23, 24, 25, 26, 27, 28] rfl rfl rfl rfl (by decide) ⟨Nat.le_of_ble_eq_true rfl, Nat.le_of_ble_eq_true rfl⟩ rfl rfl (Nat.le_of_ble_eq_true rfl) ⟨Nat.le_of_ble_eq_true rfl, Nat.le_of_ble_eq_true rfl⟩ dX5_copy_47 (fun r w1 hp => ?_)
            obtain ⟨rfl, rfl⟩ := hp
            refine g_ws (ws' := (xW E a c g)) [0, 1, 2, 3, 4, 5, 6, 7, 8, 9, 10, 11, 12, 13, 14, 15, 16, 17, 18, 19, 27, 28, 20, 21, 22, 23, 24, 25, 26] rfl rfl ?_
            refine g_if_eq (tgt := 60) cx dX5_copy_50 (by decide) (fun c_4 => ?_) (fun c_4 => ?_)
            · refine g_aload cx dX5_copy_60 1 rfl ?_
              refine g_get (C := RX1) (T := TX1) (N := 3) (v := .int (c.2.2.2.2.2.1 0)) cx iwX5_copy_X1 20 0 rfl rfl (by decide) lkX5_copy_220 rfl dX5_copy_62 ?_
              refine g_aload cx dX5_copy_65 0 rfl ?_
              refine g_get (C := RX1) (T := TX1) (N := 3) (v := .int (c.2.2.2.2.2.1 0)) cx iwX5_copy_X1 20 0 rfl rfl (by decide) lkX5_copy_220 rfl dX5_copy_67 ?_
              refine g_icmp_eq (tgt := 80) cx dX5_copy_70 (by decide) (fun c_5 => ?_) (fun c_5 => ?_)
              · obtain ⟨Zs0, hZs0, hzs0⟩ := sz_nI (j := 0) hok (by decide)
                obtain ⟨Zt0, hZt0, hzt0⟩ := sz_nI (j := 0) hok (by decide)
                refine g_aload cx dX5_copy_80 1 rfl ?_
                refine g_iload_n cx dX5_copy_82 4 rfl ?_
                refine g_iload cx dX5_copy_83 7 rfl ?_
                refine g_Vi (rest := []) (As := [.int f0, .int n0]) (wr := ([0, 1, 2, 3, 4, 5, 6, 7, 8, 9, 10, 11, 12, 13, 14, 15, 16, 17, 18, 19, 22, 23, 24, 25, 26, 27, 28].filterMap (fun i => (xW E a c g)[i]?))) cx hYX1_hasSpan gX5_copy_X1_hasSpan (c_X1_hasSpan l E (fun i => a (20 + i)) (c.2.2.2.2.2.1 0, c.2.2.2.2.2.2.1 0, c.2.2.2.2.2.2.2.1 0) f0 n0 ) rfl rfl rfl [20, 21] [0, 1, 2, 3, 4, 5, 6, 7, 8, 9, 10, 11, 12, 13, 14, 15, 16, 17, 18, 19, 22, 23, 24, 25, 26, 27, 28] rfl rfl rfl rfl (by decide) ⟨Nat.le_of_ble_eq_true rfl, Nat.le_of_ble_eq_true rfl⟩ rfl rfl (Nat.le_of_ble_eq_true rfl) ⟨Nat.le_of_ble_eq_true rfl, Nat.le_of_ble_eq_true rfl⟩ dX5_copy_85 (fun r w1 hp => ?_)
                obtain ⟨rfl, rfl⟩ := hp
                refine g_ws (ws' := (xW E a c g)) [0, 1, 2, 3, 4, 5, 6, 7, 8, 9, 10, 11, 12, 13, 14, 15, 16, 17, 18, 19, 27, 28, 20, 21, 22, 23, 24, 25, 26] rfl rfl ?_
                refine g_if_eq (tgt := 103) cx dX5_copy_88 (by decide) (fun c_6 => ?_) (fun c_6 => ?_)
                · refine g_aload_n cx dX5_copy_103 2 rfl ?_
                  refine g_ldc cx m1X5_copy_c61 dX5_copy_104 ?_
                  refine g_VSi (rest := []) (As := [.int (-1000000001)]) cx hYX5_finding gX5_copy_X5_finding (c_X5_finding l E a c g (-1000000001) (by unfold vp_in; decide +kernel)) rfl rfl rfl ⟨Nat.le_of_ble_eq_true rfl, Nat.le_of_ble_eq_true rfl⟩ rfl rfl (Nat.le_of_ble_eq_true rfl) ⟨Nat.le_of_ble_eq_true rfl, Nat.le_of_ble_eq_true rfl⟩ dX5_copy_106 (fun r w1 hp => ?_)
                  obtain ⟨rfl, rfl⟩ := hp
                  exact g_iret cx gr (Nat.zero_le _) (Nat.zero_le _) dX5_copy_109 (xleaf (by rw [sp_copy, if_neg c_1, if_neg c_2, show (nI 0).toNatClampNeg = 0 from rfl, if_neg (ms_0 c_3), if_neg (ms_0 c_4), if_pos c_5, if_pos c_6]; rfl))
                · refine g_aload cx dX5_copy_91 0 rfl ?_
                  refine g_iload cx dX5_copy_93 6 rfl ?_
                  refine g_iload cx dX5_copy_95 7 rfl ?_
                  refine g_Vi (rest := []) (As := [.int o0, .int n0]) (wr := ([0, 1, 2, 3, 4, 5, 6, 7, 8, 9, 10, 11, 12, 13, 14, 15, 16, 17, 18, 19, 22, 23, 24, 25, 26, 27, 28].filterMap (fun i => (xW E a c g)[i]?))) cx hYX1_hasSpan gX5_copy_X1_hasSpan (c_X1_hasSpan l E (fun i => a (20 + i)) (c.2.2.2.2.2.1 0, c.2.2.2.2.2.2.1 0, c.2.2.2.2.2.2.2.1 0) o0 n0 ) rfl rfl rfl [20, 21] [0, 1, 2, 3, 4, 5, 6, 7, 8, 9, 10, 11, 12, 13, 14, 15, 16, 17, 18, 19, 22, 23, 24, 25, 26, 27, 28] rfl rfl rfl rfl (by decide) ⟨Nat.le_of_ble_eq_true rfl, Nat.le_of_ble_eq_true rfl⟩ rfl rfl (Nat.le_of_ble_eq_true rfl) ⟨Nat.le_of_ble_eq_true rfl, Nat.le_of_ble_eq_true rfl⟩ dX5_copy_97 (fun r w1 hp => ?_)
                  obtain ⟨rfl, rfl⟩ := hp
                  refine g_ws (ws' := (xW E a c g)) [0, 1, 2, 3, 4, 5, 6, 7, 8, 9, 10, 11, 12, 13, 14, 15, 16, 17, 18, 19, 27, 28, 20, 21, 22, 23, 24, 25, 26] rfl rfl ?_
                  refine g_if_ne (tgt := 110) cx dX5_copy_100 (by decide) (fun c_7 => ?_) (fun c_7 => ?_)
                  · refine g_aload cx dX5_copy_110 1 rfl ?_
                    refine g_get (C := RX1) (T := TX1) (N := 3) (v := .ref (a 21)) cx iwX5_copy_X1 20 2 rfl rfl (by decide) lkX5_copy_212 rfl dX5_copy_112 ?_
                    refine g_iload_n cx dX5_copy_115 4 rfl ?_
                    refine g_aload cx dX5_copy_116 0 rfl ?_
                    refine g_get (C := RX1) (T := TX1) (N := 3) (v := .ref (a 21)) cx iwX5_copy_X1 20 2 rfl rfl (by decide) lkX5_copy_212 rfl dX5_copy_118 ?_
                    refine g_iload cx dX5_copy_121 6 rfl ?_
                    refine g_iload cx dX5_copy_123 7 rfl ?_
                    have ok1 := hsp_ok c_6 hzs0 hZs0
                    have ok2 := hsp_ok c_7 hzt0 hZt0
                    refine g_copyL (ws' := (xW E a (c.1, c.2.1, c.2.2.1, c.2.2.2.1, c.2.2.2.2.1, c.2.2.2.2.2.1, c.2.2.2.2.2.2.1, upN c.2.2.2.2.2.2.2.1 0 (va_cpy (c.2.2.2.2.2.2.2.1 0) (c.2.2.2.2.2.2.2.1 0) f0.toNatClampNeg o0.toNatClampNeg n0.toNatClampNeg), c.2.2.2.2.2.2.2.2) g)) cx mwX5_copy_ac 21 21 rfl rfl ok1.1 ok2.1 ok1.2.1 ok1.2.2 ok2.2.2 (by decide) (Nat.le_of_ble_eq_true rfl) dX5_copy_125 rfl ?_
                    refine g_iload cx dX5_copy_128 7 rfl ?_
                    exact g_iret cx gr (Nat.zero_le _) (Nat.zero_le _) dX5_copy_130 (xleaf (by rw [sp_copy, if_neg c_1, if_neg c_2, show (nI 0).toNatClampNeg = 0 from rfl, if_neg (ms_0 c_3), if_neg (ms_0 c_4), if_pos c_5, if_neg c_6, if_neg c_7]; rfl))
                  · refine g_aload_n cx dX5_copy_103 2 rfl ?_
                    refine g_ldc cx m1X5_copy_c61 dX5_copy_104 ?_
                    refine g_VSi (rest := []) (As := [.int (-1000000001)]) cx hYX5_finding gX5_copy_X5_finding (c_X5_finding l E a c g (-1000000001) (by unfold vp_in; decide +kernel)) rfl rfl rfl ⟨Nat.le_of_ble_eq_true rfl, Nat.le_of_ble_eq_true rfl⟩ rfl rfl (Nat.le_of_ble_eq_true rfl) ⟨Nat.le_of_ble_eq_true rfl, Nat.le_of_ble_eq_true rfl⟩ dX5_copy_106 (fun r w1 hp => ?_)
                    obtain ⟨rfl, rfl⟩ := hp
                    exact g_iret cx gr (Nat.zero_le _) (Nat.zero_le _) dX5_copy_109 (xleaf (by rw [sp_copy, if_neg c_1, if_neg c_2, show (nI 0).toNatClampNeg = 0 from rfl, if_neg (ms_0 c_3), if_neg (ms_0 c_4), if_pos c_5, if_neg c_6, if_pos c_7]; rfl))
              · refine g_aload_n cx dX5_copy_73 2 rfl ?_
                refine g_ldc cx m1X5_copy_c145 dX5_copy_74 ?_
                refine g_VSi (rest := []) (As := [.int (-1000000003)]) cx hYX5_finding gX5_copy_X5_finding (c_X5_finding l E a c g (-1000000003) (by unfold vp_in; decide +kernel)) rfl rfl rfl ⟨Nat.le_of_ble_eq_true rfl, Nat.le_of_ble_eq_true rfl⟩ rfl rfl (Nat.le_of_ble_eq_true rfl) ⟨Nat.le_of_ble_eq_true rfl, Nat.le_of_ble_eq_true rfl⟩ dX5_copy_76 (fun r w1 hp => ?_)
                obtain ⟨rfl, rfl⟩ := hp
                exact g_iret cx gr (Nat.zero_le _) (Nat.zero_le _) dX5_copy_79 (xleaf (by rw [sp_copy, if_neg c_1, if_neg c_2, show (nI 0).toNatClampNeg = 0 from rfl, if_neg (ms_0 c_3), if_neg (ms_0 c_4), if_neg c_5]; rfl))
            · refine g_aload_n cx dX5_copy_53 2 rfl ?_
              refine g_ldc cx m1X5_copy_c211 dX5_copy_54 ?_
              refine g_VSi (rest := []) (As := [.int (-1000000006)]) cx hYX5_finding gX5_copy_X5_finding (c_X5_finding l E a c g (-1000000006) (by unfold vp_in; decide +kernel)) rfl rfl rfl ⟨Nat.le_of_ble_eq_true rfl, Nat.le_of_ble_eq_true rfl⟩ rfl rfl (Nat.le_of_ble_eq_true rfl) ⟨Nat.le_of_ble_eq_true rfl, Nat.le_of_ble_eq_true rfl⟩ dX5_copy_56 (fun r w1 hp => ?_)
              obtain ⟨rfl, rfl⟩ := hp
              exact g_iret cx gr (Nat.zero_le _) (Nat.zero_le _) dX5_copy_59 (xleaf (by rw [sp_copy, if_neg c_1, if_neg c_2, show (nI 0).toNatClampNeg = 0 from rfl, if_neg (ms_0 c_3), if_pos (ms_1 c_4)]; rfl))
        · refine g_aload_n cx dX5_copy_29 1 rfl ?_
          refine g_get (C := RX5) (T := TX5) (N := 8) (v := .ref (a 19)) cx iwX5_copy_X5 0 6 rfl rfl (by decide) lkX5_copy_44 rfl dX5_copy_30 ?_
          refine g_iload_n cx dX5_copy_33 4 rfl ?_
          refine g_aald (v := a 22) cx 19 rfl rfl (vp_in_nI (by decide) (by decide)) rfl dX5_copy_34 ?_
          refine g_astore (lv' := [(7, .ref (a 22)), (6, .ref (a 20)), (0, .ref (a 0)), (1, .int (nI 0)), (2, .int f0), (3, .int (nI 1)), (4, .int o0), (5, .int n0)]) cx dX5_copy_35 (by decide) rfl ?_
          refine g_aload cx dX5_copy_37 1 rfl ?_
          refine g_Vi (rest := []) (As := []) (wr := ([0, 1, 2, 3, 4, 5, 6, 7, 8, 9, 10, 11, 12, 13, 14, 15, 16, 17, 18, 19, 22, 23, 24, 25, 26, 27, 28].filterMap (fun i => (xW E a c g)[i]?))) cx hYX1_isMissing gX5_copy_X1_isMissing (c_X1_isMissing l E (fun i => a (20 + i)) (c.2.2.2.2.2.1 0, c.2.2.2.2.2.2.1 0, c.2.2.2.2.2.2.2.1 0)  ) rfl rfl rfl [20, 21] [0, 1, 2, 3, 4, 5, 6, 7, 8, 9, 10, 11, 12, 13, 14, 15, 16, 17, 18, 19, 22, 23, 24, 25, 26, 27, 28] rfl rfl rfl rfl (by decide) ⟨Nat.le_of_ble_eq_true rfl, Nat.le_of_ble_eq_true rfl⟩ rfl rfl (Nat.le_of_ble_eq_true rfl) ⟨Nat.le_of_ble_eq_true rfl, Nat.le_of_ble_eq_true rfl⟩ dX5_copy_39 (fun r w1 hp => ?_)
          obtain ⟨rfl, rfl⟩ := hp
          refine g_ws (ws' := (xW E a c g)) [0, 1, 2, 3, 4, 5, 6, 7, 8, 9, 10, 11, 12, 13, 14, 15, 16, 17, 18, 19, 27, 28, 20, 21, 22, 23, 24, 25, 26] rfl rfl ?_
          refine g_if_ne (tgt := 53) cx dX5_copy_42 (by decide) (fun c_8 => ?_) (fun c_8 => ?_)
          · refine g_aload_n cx dX5_copy_53 2 rfl ?_
            refine g_ldc cx m1X5_copy_c211 dX5_copy_54 ?_
            refine g_VSi (rest := []) (As := [.int (-1000000006)]) cx hYX5_finding gX5_copy_X5_finding (c_X5_finding l E a c g (-1000000006) (by unfold vp_in; decide +kernel)) rfl rfl rfl ⟨Nat.le_of_ble_eq_true rfl, Nat.le_of_ble_eq_true rfl⟩ rfl rfl (Nat.le_of_ble_eq_true rfl) ⟨Nat.le_of_ble_eq_true rfl, Nat.le_of_ble_eq_true rfl⟩ dX5_copy_56 (fun r w1 hp => ?_)
            obtain ⟨rfl, rfl⟩ := hp
            exact g_iret cx gr (Nat.zero_le _) (Nat.zero_le _) dX5_copy_59 (xleaf (by rw [sp_copy, if_neg c_1, if_neg c_2, show (nI 0).toNatClampNeg = 0 from rfl, show (nI 1).toNatClampNeg = 1 from rfl, if_pos (ms_1 c_8)]; rfl))
          · refine g_aload cx dX5_copy_45 0 rfl ?_
            refine g_Vi (rest := []) (As := []) (wr := ([0, 1, 2, 3, 4, 5, 6, 7, 8, 9, 10, 11, 12, 13, 14, 15, 16, 17, 18, 19, 20, 21, 24, 25, 26, 27, 28].filterMap (fun i => (xW E a c g)[i]?))) cx hYX1_isMissing gX5_copy_X1_isMissing (c_X1_isMissing l E (fun i => a (22 + i)) (c.2.2.2.2.2.1 1, c.2.2.2.2.2.2.1 1, c.2.2.2.2.2.2.2.1 1)  ) rfl rfl rfl [22, 23] [0, 1, 2, 3, 4, 5, 6, 7, 8, 9, 10, 11, 12, 13, 14, 15, 16, 17, 18, 19, 20, 21, 24, 25, 26, 27, 28] rfl rfl rfl rfl (by decide) ⟨Nat.le_of_ble_eq_true rfl, Nat.le_of_ble_eq_true rfl⟩ rfl rfl (Nat.le_of_ble_eq_true rfl) ⟨Nat.le_of_ble_eq_true rfl, Nat.le_of_ble_eq_true rfl⟩ dX5_copy_47 (fun r w1 hp => ?_)
            obtain ⟨rfl, rfl⟩ := hp
            refine g_ws (ws' := (xW E a c g)) [0, 1, 2, 3, 4, 5, 6, 7, 8, 9, 10, 11, 12, 13, 14, 15, 16, 17, 18, 19, 20, 21, 27, 28, 22, 23, 24, 25, 26] rfl rfl ?_
            refine g_if_eq (tgt := 60) cx dX5_copy_50 (by decide) (fun c_9 => ?_) (fun c_9 => ?_)
            · refine g_aload cx dX5_copy_60 1 rfl ?_
              refine g_get (C := RX1) (T := TX1) (N := 3) (v := .int (c.2.2.2.2.2.1 0)) cx iwX5_copy_X1 20 0 rfl rfl (by decide) lkX5_copy_220 rfl dX5_copy_62 ?_
              refine g_aload cx dX5_copy_65 0 rfl ?_
              refine g_get (C := RX1) (T := TX1) (N := 3) (v := .int (c.2.2.2.2.2.1 1)) cx iwX5_copy_X1 22 0 rfl rfl (by decide) lkX5_copy_220 rfl dX5_copy_67 ?_
              refine g_icmp_eq (tgt := 80) cx dX5_copy_70 (by decide) (fun c_10 => ?_) (fun c_10 => ?_)
              · obtain ⟨Zs0, hZs0, hzs0⟩ := sz_nI (j := 0) hok (by decide)
                obtain ⟨Zt0, hZt0, hzt0⟩ := sz_nI (j := 1) hok (by decide)
                refine g_aload cx dX5_copy_80 1 rfl ?_
                refine g_iload_n cx dX5_copy_82 4 rfl ?_
                refine g_iload cx dX5_copy_83 7 rfl ?_
                refine g_Vi (rest := []) (As := [.int f0, .int n0]) (wr := ([0, 1, 2, 3, 4, 5, 6, 7, 8, 9, 10, 11, 12, 13, 14, 15, 16, 17, 18, 19, 22, 23, 24, 25, 26, 27, 28].filterMap (fun i => (xW E a c g)[i]?))) cx hYX1_hasSpan gX5_copy_X1_hasSpan (c_X1_hasSpan l E (fun i => a (20 + i)) (c.2.2.2.2.2.1 0, c.2.2.2.2.2.2.1 0, c.2.2.2.2.2.2.2.1 0) f0 n0 ) rfl rfl rfl [20, 21] [0, 1, 2, 3, 4, 5, 6, 7, 8, 9, 10, 11, 12, 13, 14, 15, 16, 17, 18, 19, 22, 23, 24, 25, 26, 27, 28] rfl rfl rfl rfl (by decide) ⟨Nat.le_of_ble_eq_true rfl, Nat.le_of_ble_eq_true rfl⟩ rfl rfl (Nat.le_of_ble_eq_true rfl) ⟨Nat.le_of_ble_eq_true rfl, Nat.le_of_ble_eq_true rfl⟩ dX5_copy_85 (fun r w1 hp => ?_)
                obtain ⟨rfl, rfl⟩ := hp
                refine g_ws (ws' := (xW E a c g)) [0, 1, 2, 3, 4, 5, 6, 7, 8, 9, 10, 11, 12, 13, 14, 15, 16, 17, 18, 19, 27, 28, 20, 21, 22, 23, 24, 25, 26] rfl rfl ?_
                refine g_if_eq (tgt := 103) cx dX5_copy_88 (by decide) (fun c_11 => ?_) (fun c_11 => ?_)
                · refine g_aload_n cx dX5_copy_103 2 rfl ?_
                  refine g_ldc cx m1X5_copy_c61 dX5_copy_104 ?_
                  refine g_VSi (rest := []) (As := [.int (-1000000001)]) cx hYX5_finding gX5_copy_X5_finding (c_X5_finding l E a c g (-1000000001) (by unfold vp_in; decide +kernel)) rfl rfl rfl ⟨Nat.le_of_ble_eq_true rfl, Nat.le_of_ble_eq_true rfl⟩ rfl rfl (Nat.le_of_ble_eq_true rfl) ⟨Nat.le_of_ble_eq_true rfl, Nat.le_of_ble_eq_true rfl⟩ dX5_copy_106 (fun r w1 hp => ?_)
                  obtain ⟨rfl, rfl⟩ := hp
                  exact g_iret cx gr (Nat.zero_le _) (Nat.zero_le _) dX5_copy_109 (xleaf (by rw [sp_copy, if_neg c_1, if_neg c_2, show (nI 0).toNatClampNeg = 0 from rfl, show (nI 1).toNatClampNeg = 1 from rfl, if_neg (ms_0 c_8), if_neg (ms_0 c_9), if_pos c_10, if_pos c_11]; rfl))
                · refine g_aload cx dX5_copy_91 0 rfl ?_
                  refine g_iload cx dX5_copy_93 6 rfl ?_
                  refine g_iload cx dX5_copy_95 7 rfl ?_
                  refine g_Vi (rest := []) (As := [.int o0, .int n0]) (wr := ([0, 1, 2, 3, 4, 5, 6, 7, 8, 9, 10, 11, 12, 13, 14, 15, 16, 17, 18, 19, 20, 21, 24, 25, 26, 27, 28].filterMap (fun i => (xW E a c g)[i]?))) cx hYX1_hasSpan gX5_copy_X1_hasSpan (c_X1_hasSpan l E (fun i => a (22 + i)) (c.2.2.2.2.2.1 1, c.2.2.2.2.2.2.1 1, c.2.2.2.2.2.2.2.1 1) o0 n0 ) rfl rfl rfl [22, 23] [0, 1, 2, 3, 4, 5, 6, 7, 8, 9, 10, 11, 12, 13, 14, 15, 16, 17, 18, 19, 20, 21, 24, 25, 26, 27, 28] rfl rfl rfl rfl (by decide) ⟨Nat.le_of_ble_eq_true rfl, Nat.le_of_ble_eq_true rfl⟩ rfl rfl (Nat.le_of_ble_eq_true rfl) ⟨Nat.le_of_ble_eq_true rfl, Nat.le_of_ble_eq_true rfl⟩ dX5_copy_97 (fun r w1 hp => ?_)
                  obtain ⟨rfl, rfl⟩ := hp
                  refine g_ws (ws' := (xW E a c g)) [0, 1, 2, 3, 4, 5, 6, 7, 8, 9, 10, 11, 12, 13, 14, 15, 16, 17, 18, 19, 20, 21, 27, 28, 22, 23, 24, 25, 26] rfl rfl ?_
                  refine g_if_ne (tgt := 110) cx dX5_copy_100 (by decide) (fun c_12 => ?_) (fun c_12 => ?_)
                  · refine g_aload cx dX5_copy_110 1 rfl ?_
                    refine g_get (C := RX1) (T := TX1) (N := 3) (v := .ref (a 21)) cx iwX5_copy_X1 20 2 rfl rfl (by decide) lkX5_copy_212 rfl dX5_copy_112 ?_
                    refine g_iload_n cx dX5_copy_115 4 rfl ?_
                    refine g_aload cx dX5_copy_116 0 rfl ?_
                    refine g_get (C := RX1) (T := TX1) (N := 3) (v := .ref (a 23)) cx iwX5_copy_X1 22 2 rfl rfl (by decide) lkX5_copy_212 rfl dX5_copy_118 ?_
                    refine g_iload cx dX5_copy_121 6 rfl ?_
                    refine g_iload cx dX5_copy_123 7 rfl ?_
                    have ok1 := hsp_ok c_11 hzs0 hZs0
                    have ok2 := hsp_ok c_12 hzt0 hZt0
                    refine g_copyL (ws' := (xW E a (c.1, c.2.1, c.2.2.1, c.2.2.2.1, c.2.2.2.2.1, c.2.2.2.2.2.1, c.2.2.2.2.2.2.1, upN c.2.2.2.2.2.2.2.1 1 (va_cpy (c.2.2.2.2.2.2.2.1 0) (c.2.2.2.2.2.2.2.1 1) f0.toNatClampNeg o0.toNatClampNeg n0.toNatClampNeg), c.2.2.2.2.2.2.2.2) g)) cx mwX5_copy_ac 21 23 rfl rfl ok1.1 ok2.1 ok1.2.1 ok1.2.2 ok2.2.2 (by decide) (Nat.le_of_ble_eq_true rfl) dX5_copy_125 rfl ?_
                    refine g_iload cx dX5_copy_128 7 rfl ?_
                    exact g_iret cx gr (Nat.zero_le _) (Nat.zero_le _) dX5_copy_130 (xleaf (by rw [sp_copy, if_neg c_1, if_neg c_2, show (nI 0).toNatClampNeg = 0 from rfl, show (nI 1).toNatClampNeg = 1 from rfl, if_neg (ms_0 c_8), if_neg (ms_0 c_9), if_pos c_10, if_neg c_11, if_neg c_12]; rfl))
                  · refine g_aload_n cx dX5_copy_103 2 rfl ?_
                    refine g_ldc cx m1X5_copy_c61 dX5_copy_104 ?_
                    refine g_VSi (rest := []) (As := [.int (-1000000001)]) cx hYX5_finding gX5_copy_X5_finding (c_X5_finding l E a c g (-1000000001) (by unfold vp_in; decide +kernel)) rfl rfl rfl ⟨Nat.le_of_ble_eq_true rfl, Nat.le_of_ble_eq_true rfl⟩ rfl rfl (Nat.le_of_ble_eq_true rfl) ⟨Nat.le_of_ble_eq_true rfl, Nat.le_of_ble_eq_true rfl⟩ dX5_copy_106 (fun r w1 hp => ?_)
                    obtain ⟨rfl, rfl⟩ := hp
                    exact g_iret cx gr (Nat.zero_le _) (Nat.zero_le _) dX5_copy_109 (xleaf (by rw [sp_copy, if_neg c_1, if_neg c_2, show (nI 0).toNatClampNeg = 0 from rfl, show (nI 1).toNatClampNeg = 1 from rfl, if_neg (ms_0 c_8), if_neg (ms_0 c_9), if_pos c_10, if_neg c_11, if_pos c_12]; rfl))
              · refine g_aload_n cx dX5_copy_73 2 rfl ?_
                refine g_ldc cx m1X5_copy_c145 dX5_copy_74 ?_
                refine g_VSi (rest := []) (As := [.int (-1000000003)]) cx hYX5_finding gX5_copy_X5_finding (c_X5_finding l E a c g (-1000000003) (by unfold vp_in; decide +kernel)) rfl rfl rfl ⟨Nat.le_of_ble_eq_true rfl, Nat.le_of_ble_eq_true rfl⟩ rfl rfl (Nat.le_of_ble_eq_true rfl) ⟨Nat.le_of_ble_eq_true rfl, Nat.le_of_ble_eq_true rfl⟩ dX5_copy_76 (fun r w1 hp => ?_)
                obtain ⟨rfl, rfl⟩ := hp
                exact g_iret cx gr (Nat.zero_le _) (Nat.zero_le _) dX5_copy_79 (xleaf (by rw [sp_copy, if_neg c_1, if_neg c_2, show (nI 0).toNatClampNeg = 0 from rfl, show (nI 1).toNatClampNeg = 1 from rfl, if_neg (ms_0 c_8), if_neg (ms_0 c_9), if_neg c_10]; rfl))
            · refine g_aload_n cx dX5_copy_53 2 rfl ?_
              refine g_ldc cx m1X5_copy_c211 dX5_copy_54 ?_
              refine g_VSi (rest := []) (As := [.int (-1000000006)]) cx hYX5_finding gX5_copy_X5_finding (c_X5_finding l E a c g (-1000000006) (by unfold vp_in; decide +kernel)) rfl rfl rfl ⟨Nat.le_of_ble_eq_true rfl, Nat.le_of_ble_eq_true rfl⟩ rfl rfl (Nat.le_of_ble_eq_true rfl) ⟨Nat.le_of_ble_eq_true rfl, Nat.le_of_ble_eq_true rfl⟩ dX5_copy_56 (fun r w1 hp => ?_)
              obtain ⟨rfl, rfl⟩ := hp
              exact g_iret cx gr (Nat.zero_le _) (Nat.zero_le _) dX5_copy_59 (xleaf (by rw [sp_copy, if_neg c_1, if_neg c_2, show (nI 0).toNatClampNeg = 0 from rfl, show (nI 1).toNatClampNeg = 1 from rfl, if_neg (ms_0 c_8), if_pos (ms_1 c_9)]; rfl))
        · refine g_aload_n cx dX5_copy_29 1 rfl ?_
          refine g_get (C := RX5) (T := TX5) (N := 8) (v := .ref (a 19)) cx iwX5_copy_X5 0 6 rfl rfl (by decide) lkX5_copy_44 rfl dX5_copy_30 ?_
          refine g_iload_n cx dX5_copy_33 4 rfl ?_
          refine g_aald (v := a 24) cx 19 rfl rfl (vp_in_nI (by decide) (by decide)) rfl dX5_copy_34 ?_
          refine g_astore (lv' := [(7, .ref (a 24)), (6, .ref (a 20)), (0, .ref (a 0)), (1, .int (nI 0)), (2, .int f0), (3, .int (nI 2)), (4, .int o0), (5, .int n0)]) cx dX5_copy_35 (by decide) rfl ?_
          refine g_aload cx dX5_copy_37 1 rfl ?_
          refine g_Vi (rest := []) (As := []) (wr := ([0, 1, 2, 3, 4, 5, 6, 7, 8, 9, 10, 11, 12, 13, 14, 15, 16, 17, 18, 19, 22, 23, 24, 25, 26, 27, 28].filterMap (fun i => (xW E a c g)[i]?))) cx hYX1_isMissing gX5_copy_X1_isMissing (c_X1_isMissing l E (fun i => a (20 + i)) (c.2.2.2.2.2.1 0, c.2.2.2.2.2.2.1 0, c.2.2.2.2.2.2.2.1 0)  ) rfl rfl rfl [20, 21] [0, 1, 2, 3, 4, 5, 6, 7, 8, 9, 10, 11, 12, 13, 14, 15, 16, 17, 18, 19, 22, 23, 24, 25, 26, 27, 28] rfl rfl rfl rfl (by decide) ⟨Nat.le_of_ble_eq_true rfl, Nat.le_of_ble_eq_true rfl⟩ rfl rfl (Nat.le_of_ble_eq_true rfl) ⟨Nat.le_of_ble_eq_true rfl, Nat.le_of_ble_eq_true rfl⟩ dX5_copy_39 (fun r w1 hp => ?_)
          obtain ⟨rfl, rfl⟩ := hp
          refine g_ws (ws' := (xW E a c g)) [0, 1, 2, 3, 4, 5, 6, 7, 8, 9, 10, 11, 12, 13, 14, 15, 16, 17, 18, 19, 27, 28, 20, 21, 22, 23, 24, 25, 26] rfl rfl ?_
          refine g_if_ne (tgt := 53) cx dX5_copy_42 (by decide) (fun c_13 => ?_) (fun c_13 => ?_)
          · refine g_aload_n cx dX5_copy_53 2 rfl ?_
            refine g_ldc cx m1X5_copy_c211 dX5_copy_54 ?_
            refine g_VSi (rest := []) (As := [.int (-1000000006)]) cx hYX5_finding gX5_copy_X5_finding (c_X5_finding l E a c g (-1000000006) (by unfold vp_in; decide +kernel)) rfl rfl rfl ⟨Nat.le_of_ble_eq_true rfl, Nat.le_of_ble_eq_true rfl⟩ rfl rfl (Nat.le_of_ble_eq_true rfl) ⟨Nat.le_of_ble_eq_true rfl, Nat.le_of_ble_eq_true rfl⟩ dX5_copy_56 (fun r w1 hp => ?_)
            obtain ⟨rfl, rfl⟩ := hp
            exact g_iret cx gr (Nat.zero_le _) (Nat.zero_le _) dX5_copy_59 (xleaf (by rw [sp_copy, if_neg c_1, if_neg c_2, show (nI 0).toNatClampNeg = 0 from rfl, show (nI 2).toNatClampNeg = 2 from rfl, if_pos (ms_1 c_13)]; rfl))
          · refine g_aload cx dX5_copy_45 0 rfl ?_
            refine g_Vi (rest := []) (As := []) (wr := ([0, 1, 2, 3, 4, 5, 6, 7, 8, 9, 10, 11, 12, 13, 14, 15, 16, 17, 18, 19, 20, 21, 22, 23, 26, 27, 28].filterMap (fun i => (xW E a c g)[i]?))) cx hYX1_isMissing gX5_copy_X1_isMissing (c_X1_isMissing l E (fun i => a (24 + i)) (c.2.2.2.2.2.1 2, c.2.2.2.2.2.2.1 2, c.2.2.2.2.2.2.2.1 2)  ) rfl rfl rfl [24, 25] [0, 1, 2, 3, 4, 5, 6, 7, 8, 9, 10, 11, 12, 13, 14, 15, 16, 17, 18, 19, 20, 21, 22, 23, 26, 27, 28] rfl rfl rfl rfl (by decide) ⟨Nat.le_of_ble_eq_true rfl, Nat.le_of_ble_eq_true rfl⟩ rfl rfl (Nat.le_of_ble_eq_true rfl) ⟨Nat.le_of_ble_eq_true rfl, Nat.le_of_ble_eq_true rfl⟩ dX5_copy_47 (fun r w1 hp => ?_)
            obtain ⟨rfl, rfl⟩ := hp
            refine g_ws (ws' := (xW E a c g)) [0, 1, 2, 3, 4, 5, 6, 7, 8, 9, 10, 11, 12, 13, 14, 15, 16, 17, 18, 19, 20, 21, 22, 23, 27, 28, 24, 25, 26] rfl rfl ?_
            refine g_if_eq (tgt := 60) cx dX5_copy_50 (by decide) (fun c_14 => ?_) (fun c_14 => ?_)
            · refine g_aload cx dX5_copy_60 1 rfl ?_
              refine g_get (C := RX1) (T := TX1) (N := 3) (v := .int (c.2.2.2.2.2.1 0)) cx iwX5_copy_X1 20 0 rfl rfl (by decide) lkX5_copy_220 rfl dX5_copy_62 ?_
              refine g_aload cx dX5_copy_65 0 rfl ?_
              refine g_get (C := RX1) (T := TX1) (N := 3) (v := .int (c.2.2.2.2.2.1 2)) cx iwX5_copy_X1 24 0 rfl rfl (by decide) lkX5_copy_220 rfl dX5_copy_67 ?_
              refine g_icmp_eq (tgt := 80) cx dX5_copy_70 (by decide) (fun c_15 => ?_) (fun c_15 => ?_)
              · obtain ⟨Zs0, hZs0, hzs0⟩ := sz_nI (j := 0) hok (by decide)
                obtain ⟨Zt0, hZt0, hzt0⟩ := sz_nI (j := 2) hok (by decide)
                refine g_aload cx dX5_copy_80 1 rfl ?_
                refine g_iload_n cx dX5_copy_82 4 rfl ?_
                refine g_iload cx dX5_copy_83 7 rfl ?_
                refine g_Vi (rest := []) (As := [.int f0, .int n0]) (wr := ([0, 1, 2, 3, 4, 5, 6, 7, 8, 9, 10, 11, 12, 13, 14, 15, 16, 17, 18, 19, 22, 23, 24, 25, 26, 27, 28].filterMap (fun i => (xW E a c g)[i]?))) cx hYX1_hasSpan gX5_copy_X1_hasSpan (c_X1_hasSpan l E (fun i => a (20 + i)) (c.2.2.2.2.2.1 0, c.2.2.2.2.2.2.1 0, c.2.2.2.2.2.2.2.1 0) f0 n0 ) rfl rfl rfl [20, 21] [0, 1, 2, 3, 4, 5, 6, 7, 8, 9, 10, 11, 12, 13, 14, 15, 16, 17, 18, 19, 22, 23, 24, 25, 26, 27, 28] rfl rfl rfl rfl (by decide) ⟨Nat.le_of_ble_eq_true rfl, Nat.le_of_ble_eq_true rfl⟩ rfl rfl (Nat.le_of_ble_eq_true rfl) ⟨Nat.le_of_ble_eq_true rfl, Nat.le_of_ble_eq_true rfl⟩ dX5_copy_85 (fun r w1 hp => ?_)
                obtain ⟨rfl, rfl⟩ := hp
                refine g_ws (ws' := (xW E a c g)) [0, 1, 2, 3, 4, 5, 6, 7, 8, 9, 10, 11, 12, 13, 14, 15, 16, 17, 18, 19, 27, 28, 20, 21, 22, 23, 24, 25, 26] rfl rfl ?_
                refine g_if_eq (tgt := 103) cx dX5_copy_88 (by decide) (fun c_16 => ?_) (fun c_16 => ?_)
                · refine g_aload_n cx dX5_copy_103 2 rfl ?_
                  refine g_ldc cx m1X5_copy_c61 dX5_copy_104 ?_
                  refine g_VSi (rest := []) (As := [.int (-1000000001)]) cx hYX5_finding gX5_copy_X5_finding (c_X5_finding l E a c g (-1000000001) (by unfold vp_in; decide +kernel)) rfl rfl rfl ⟨Nat.le_of_ble_eq_true rfl, Nat.le_of_ble_eq_true rfl⟩ rfl rfl (Nat.le_of_ble_eq_true rfl) ⟨Nat.le_of_ble_eq_true rfl, Nat.le_of_ble_eq_true rfl⟩ dX5_copy_106 (fun r w1 hp => ?_)
                  obtain ⟨rfl, rfl⟩ := hp
                  exact g_iret cx gr (Nat.zero_le _) (Nat.zero_le _) dX5_copy_109 (xleaf (by rw [sp_copy, if_neg c_1, if_neg c_2, show (nI 0).toNatClampNeg = 0 from rfl, show (nI 2).toNatClampNeg = 2 from rfl, if_neg (ms_0 c_13), if_neg (ms_0 c_14), if_pos c_15, if_pos c_16]; rfl))
                · refine g_aload cx dX5_copy_91 0 rfl ?_
                  refine g_iload cx dX5_copy_93 6 rfl ?_
                  refine g_iload cx dX5_copy_95 7 rfl ?_
                  refine g_Vi (rest := []) (As := [.int o0, .int n0]) (wr := ([0, 1, 2, 3, 4, 5, 6, 7, 8, 9, 10, 11, 12, 13, 14, 15, 16, 17, 18, 19, 20, 21, 22, 23, 26, 27, 28].filterMap (fun i => (xW E a c g)[i]?))) cx hYX1_hasSpan gX5_copy_X1_hasSpan (c_X1_hasSpan l E (fun i => a (24 + i)) (c.2.2.2.2.2.1 2, c.2.2.2.2.2.2.1 2, c.2.2.2.2.2.2.2.1 2) o0 n0 ) rfl rfl rfl [24, 25] [0, 1, 2, 3, 4, 5, 6, 7, 8, 9, 10, 11, 12, 13, 14, 15, 16, 17, 18, 19, 20, 21, 22, 23, 26, 27, 28] rfl rfl rfl rfl (by decide) ⟨Nat.le_of_ble_eq_true rfl, Nat.le_of_ble_eq_true rfl⟩ rfl rfl (Nat.le_of_ble_eq_true rfl) ⟨Nat.le_of_ble_eq_true rfl, Nat.le_of_ble_eq_true rfl⟩ dX5_copy_97 (fun r w1 hp => ?_)
                  obtain ⟨rfl, rfl⟩ := hp
                  refine g_ws (ws' := (xW E a c g)) [0, 1, 2, 3, 4, 5, 6, 7, 8, 9, 10, 11, 12, 13, 14, 15, 16, 17, 18, 19, 20, 21, 22, 23, 27, 28, 24, 25, 26] rfl rfl ?_
                  refine g_if_ne (tgt := 110) cx dX5_copy_100 (by decide) (fun c_17 => ?_) (fun c_17 => ?_)
                  · refine g_aload cx dX5_copy_110 1 rfl ?_
                    refine g_get (C := RX1) (T := TX1) (N := 3) (v := .ref (a 21)) cx iwX5_copy_X1 20 2 rfl rfl (by decide) lkX5_copy_212 rfl dX5_copy_112 ?_
                    refine g_iload_n cx dX5_copy_115 4 rfl ?_
                    refine g_aload cx dX5_copy_116 0 rfl ?_
                    refine g_get (C := RX1) (T := TX1) (N := 3) (v := .ref (a 25)) cx iwX5_copy_X1 24 2 rfl rfl (by decide) lkX5_copy_212 rfl dX5_copy_118 ?_
                    refine g_iload cx dX5_copy_121 6 rfl ?_
                    refine g_iload cx dX5_copy_123 7 rfl ?_
                    have ok1 := hsp_ok c_16 hzs0 hZs0
                    have ok2 := hsp_ok c_17 hzt0 hZt0
                    refine g_copyL (ws' := (xW E a (c.1, c.2.1, c.2.2.1, c.2.2.2.1, c.2.2.2.2.1, c.2.2.2.2.2.1, c.2.2.2.2.2.2.1, upN c.2.2.2.2.2.2.2.1 2 (va_cpy (c.2.2.2.2.2.2.2.1 0) (c.2.2.2.2.2.2.2.1 2) f0.toNatClampNeg o0.toNatClampNeg n0.toNatClampNeg), c.2.2.2.2.2.2.2.2) g)) cx mwX5_copy_ac 21 25 rfl rfl ok1.1 ok2.1 ok1.2.1 ok1.2.2 ok2.2.2 (by decide) (Nat.le_of_ble_eq_true rfl) dX5_copy_125 rfl ?_
                    refine g_iload cx dX5_copy_128 7 rfl ?_
                    exact g_iret cx gr (Nat.zero_le _) (Nat.zero_le _) dX5_copy_130 (xleaf (by rw [sp_copy, if_neg c_1, if_neg c_2, show (nI 0).toNatClampNeg = 0 from rfl, show (nI 2).toNatClampNeg = 2 from rfl, if_neg (ms_0 c_13), if_neg (ms_0 c_14), if_pos c_15, if_neg c_16, if_neg c_17]; rfl))
                  · refine g_aload_n cx dX5_copy_103 2 rfl ?_
                    refine g_ldc cx m1X5_copy_c61 dX5_copy_104 ?_
                    refine g_VSi (rest := []) (As := [.int (-1000000001)]) cx hYX5_finding gX5_copy_X5_finding (c_X5_finding l E a c g (-1000000001) (by unfold vp_in; decide +kernel)) rfl rfl rfl ⟨Nat.le_of_ble_eq_true rfl, Nat.le_of_ble_eq_true rfl⟩ rfl rfl (Nat.le_of_ble_eq_true rfl) ⟨Nat.le_of_ble_eq_true rfl, Nat.le_of_ble_eq_true rfl⟩ dX5_copy_106 (fun r w1 hp => ?_)
                    obtain ⟨rfl, rfl⟩ := hp
                    exact g_iret cx gr (Nat.zero_le _) (Nat.zero_le _) dX5_copy_109 (xleaf (by rw [sp_copy, if_neg c_1, if_neg c_2, show (nI 0).toNatClampNeg = 0 from rfl, show (nI 2).toNatClampNeg = 2 from rfl, if_neg (ms_0 c_13), if_neg (ms_0 c_14), if_pos c_15, if_neg c_16, if_pos c_17]; rfl))
              · refine g_aload_n cx dX5_copy_73 2 rfl ?_
                refine g_ldc cx m1X5_copy_c145 dX5_copy_74 ?_
                refine g_VSi (rest := []) (As := [.int (-1000000003)]) cx hYX5_finding gX5_copy_X5_finding (c_X5_finding l E a c g (-1000000003) (by unfold vp_in; decide +kernel)) rfl rfl rfl ⟨Nat.le_of_ble_eq_true rfl, Nat.le_of_ble_eq_true rfl⟩ rfl rfl (Nat.le_of_ble_eq_true rfl) ⟨Nat.le_of_ble_eq_true rfl, Nat.le_of_ble_eq_true rfl⟩ dX5_copy_76 (fun r w1 hp => ?_)
                obtain ⟨rfl, rfl⟩ := hp
                exact g_iret cx gr (Nat.zero_le _) (Nat.zero_le _) dX5_copy_79 (xleaf (by rw [sp_copy, if_neg c_1, if_neg c_2, show (nI 0).toNatClampNeg = 0 from rfl, show (nI 2).toNatClampNeg = 2 from rfl, if_neg (ms_0 c_13), if_neg (ms_0 c_14), if_neg c_15]; rfl))
            · refine g_aload_n cx dX5_copy_53 2 rfl ?_
              refine g_ldc cx m1X5_copy_c211 dX5_copy_54 ?_
              refine g_VSi (rest := []) (As := [.int (-1000000006)]) cx hYX5_finding gX5_copy_X5_finding (c_X5_finding l E a c g (-1000000006) (by unfold vp_in; decide +kernel)) rfl rfl rfl ⟨Nat.le_of_ble_eq_true rfl, Nat.le_of_ble_eq_true rfl⟩ rfl rfl (Nat.le_of_ble_eq_true rfl) ⟨Nat.le_of_ble_eq_true rfl, Nat.le_of_ble_eq_true rfl⟩ dX5_copy_56 (fun r w1 hp => ?_)
              obtain ⟨rfl, rfl⟩ := hp
              exact g_iret cx gr (Nat.zero_le _) (Nat.zero_le _) dX5_copy_59 (xleaf (by rw [sp_copy, if_neg c_1, if_neg c_2, show (nI 0).toNatClampNeg = 0 from rfl, show (nI 2).toNatClampNeg = 2 from rfl, if_neg (ms_0 c_13), if_pos (ms_1 c_14)]; rfl))
        · refine g_aload_n cx dX5_copy_29 1 rfl ?_
          refine g_get (C := RX5) (T := TX5) (N := 8) (v := .ref (a 19)) cx iwX5_copy_X5 0 6 rfl rfl (by decide) lkX5_copy_44 rfl dX5_copy_30 ?_
          refine g_iload_n cx dX5_copy_33 4 rfl ?_
          refine g_aald (v := a 26) cx 19 rfl rfl (vp_in_nI (by decide) (by decide)) rfl dX5_copy_34 ?_
          refine g_astore (lv' := [(7, .ref (a 26)), (6, .ref (a 20)), (0, .ref (a 0)), (1, .int (nI 0)), (2, .int f0), (3, .int (nI 3)), (4, .int o0), (5, .int n0)]) cx dX5_copy_35 (by decide) rfl ?_
          refine g_aload cx dX5_copy_37 1 rfl ?_
          refine g_Vi (rest := []) (As := []) (wr := ([0, 1, 2, 3, 4, 5, 6, 7, 8, 9, 10, 11, 12, 13, 14, 15, 16, 17, 18, 19, 22, 23, 24, 25, 26, 27, 28].filterMap (fun i => (xW E a c g)[i]?))) cx hYX1_isMissing gX5_copy_X1_isMissing (c_X1_isMissing l E (fun i => a (20 + i)) (c.2.2.2.2.2.1 0, c.2.2.2.2.2.2.1 0, c.2.2.2.2.2.2.2.1 0)  ) rfl rfl rfl [20, 21] [0, 1, 2, 3, 4, 5, 6, 7, 8, 9, 10, 11, 12, 13, 14, 15, 16, 17, 18, 19, 22, 23, 24, 25, 26, 27, 28] rfl rfl rfl rfl (by decide) ⟨Nat.le_of_ble_eq_true rfl, Nat.le_of_ble_eq_true rfl⟩ rfl rfl (Nat.le_of_ble_eq_true rfl) ⟨Nat.le_of_ble_eq_true rfl, Nat.le_of_ble_eq_true rfl⟩ dX5_copy_39 (fun r w1 hp => ?_)
          obtain ⟨rfl, rfl⟩ := hp
          refine g_ws (ws' := (xW E a c g)) [0, 1, 2, 3, 4, 5, 6, 7, 8, 9, 10, 11, 12, 13, 14, 15, 16, 17, 18, 19, 27, 28, 20, 21, 22, 23, 24, 25, 26] rfl rfl ?_
          refine g_if_ne (tgt := 53) cx dX5_copy_42 (by decide) (fun c_18 => ?_) (fun c_18 => ?_)
          · refine g_aload_n cx dX5_copy_53 2 rfl ?_
            refine g_ldc cx m1X5_copy_c211 dX5_copy_54 ?_
            refine g_VSi (rest := []) (As := [.int (-1000000006)]) cx hYX5_finding gX5_copy_X5_finding (c_X5_finding l E a c g (-1000000006) (by unfold vp_in; decide +kernel)) rfl rfl rfl ⟨Nat.le_of_ble_eq_true rfl, Nat.le_of_ble_eq_true rfl⟩ rfl rfl (Nat.le_of_ble_eq_true rfl) ⟨Nat.le_of_ble_eq_true rfl, Nat.le_of_ble_eq_true rfl⟩ dX5_copy_56 (fun r w1 hp => ?_)
            obtain ⟨rfl, rfl⟩ := hp
            exact g_iret cx gr (Nat.zero_le _) (Nat.zero_le _) dX5_copy_59 (xleaf (by rw [sp_copy, if_neg c_1, if_neg c_2, show (nI 0).toNatClampNeg = 0 from rfl, show (nI 3).toNatClampNeg = 3 from rfl, if_pos (ms_1 c_18)]; rfl))
          · refine g_aload cx dX5_copy_45 0 rfl ?_
            refine g_Vi (rest := []) (As := []) (wr := ([0, 1, 2, 3, 4, 5, 6, 7, 8, 9, 10, 11, 12, 13, 14, 15, 16, 17, 18, 19, 20, 21, 22, 23, 24, 25, 28].filterMap (fun i => (xW E a c g)[i]?))) cx hYX1_isMissing gX5_copy_X1_isMissing (c_X1_isMissing l E (fun i => a (26 + i)) (c.2.2.2.2.2.1 3, c.2.2.2.2.2.2.1 3, c.2.2.2.2.2.2.2.1 3)  ) rfl rfl rfl [26, 27] [0, 1, 2, 3, 4, 5, 6, 7, 8, 9, 10, 11, 12, 13, 14, 15, 16, 17, 18, 19, 20, 21, 22, 23, 24, 25, 28] rfl rfl rfl rfl (by decide) ⟨Nat.le_of_ble_eq_true rfl, Nat.le_of_ble_eq_true rfl⟩ rfl rfl (Nat.le_of_ble_eq_true rfl) ⟨Nat.le_of_ble_eq_true rfl, Nat.le_of_ble_eq_true rfl⟩ dX5_copy_47 (fun r w1 hp => ?_)
            obtain ⟨rfl, rfl⟩ := hp
            refine g_ws (ws' := (xW E a c g)) [0, 1, 2, 3, 4, 5, 6, 7, 8, 9, 10, 11, 12, 13, 14, 15, 16, 17, 18, 19, 20, 21, 22, 23, 24, 25, 27, 28, 26] rfl rfl ?_
            refine g_if_eq (tgt := 60) cx dX5_copy_50 (by decide) (fun c_19 => ?_) (fun c_19 => ?_)
            · refine g_aload cx dX5_copy_60 1 rfl ?_
              refine g_get (C := RX1) (T := TX1) (N := 3) (v := .int (c.2.2.2.2.2.1 0)) cx iwX5_copy_X1 20 0 rfl rfl (by decide) lkX5_copy_220 rfl dX5_copy_62 ?_
              refine g_aload cx dX5_copy_65 0 rfl ?_
              refine g_get (C := RX1) (T := TX1) (N := 3) (v := .int (c.2.2.2.2.2.1 3)) cx iwX5_copy_X1 26 0 rfl rfl (by decide) lkX5_copy_220 rfl dX5_copy_67 ?_
              refine g_icmp_eq (tgt := 80) cx dX5_copy_70 (by decide) (fun c_20 => ?_) (fun c_20 => ?_)
              · obtain ⟨Zs0, hZs0, hzs0⟩ := sz_nI (j := 0) hok (by decide)
                obtain ⟨Zt0, hZt0, hzt0⟩ := sz_nI (j := 3) hok (by decide)
                refine g_aload cx dX5_copy_80 1 rfl ?_
                refine g_iload_n cx dX5_copy_82 4 rfl ?_
                refine g_iload cx dX5_copy_83 7 rfl ?_
                refine g_Vi (rest := []) (As := [.int f0, .int n0]) (wr := ([0, 1, 2, 3, 4, 5, 6, 7, 8, 9, 10, 11, 12, 13, 14, 15, 16, 17, 18, 19, 22, 23, 24, 25, 26, 27, 28].filterMap (fun i => (xW E a c g)[i]?))) cx hYX1_hasSpan gX5_copy_X1_hasSpan (c_X1_hasSpan l E (fun i => a (20 + i)) (c.2.2.2.2.2.1 0, c.2.2.2.2.2.2.1 0, c.2.2.2.2.2.2.2.1 0) f0 n0 ) rfl rfl rfl [20, 21] [0, 1, 2, 3, 4, 5, 6, 7, 8, 9, 10, 11, 12, 13, 14, 15, 16, 17, 18, 19, 22, 23, 24, 25, 26, 27, 28] rfl rfl rfl rfl (by decide) ⟨Nat.le_of_ble_eq_true rfl, Nat.le_of_ble_eq_true rfl⟩ rfl rfl (Nat.le_of_ble_eq_true rfl) ⟨Nat.le_of_ble_eq_true rfl, Nat.le_of_ble_eq_true rfl⟩ dX5_copy_85 (fun r w1 hp => ?_)
                obtain ⟨rfl, rfl⟩ := hp
                refine g_ws (ws' := (xW E a c g)) [0, 1, 2, 3, 4, 5, 6, 7, 8, 9, 10, 11, 12, 13, 14, 15, 16, 17, 18, 19, 27, 28, 20, 21, 22, 23, 24, 25, 26] rfl rfl ?_
                refine g_if_eq (tgt := 103) cx dX5_copy_88 (by decide) (fun c_21 => ?_) (fun c_21 => ?_)
                · refine g_aload_n cx dX5_copy_103 2 rfl ?_
                  refine g_ldc cx m1X5_copy_c61 dX5_copy_104 ?_
                  refine g_VSi (rest := []) (As := [.int (-1000000001)]) cx hYX5_finding gX5_copy_X5_finding (c_X5_finding l E a c g (-1000000001) (by unfold vp_in; decide +kernel)) rfl rfl rfl ⟨Nat.le_of_ble_eq_true rfl, Nat.le_of_ble_eq_true rfl⟩ rfl rfl (Nat.le_of_ble_eq_true rfl) ⟨Nat.le_of_ble_eq_true rfl, Nat.le_of_ble_eq_true rfl⟩ dX5_copy_106 (fun r w1 hp => ?_)
                  obtain ⟨rfl, rfl⟩ := hp
                  exact g_iret cx gr (Nat.zero_le _) (Nat.zero_le _) dX5_copy_109 (xleaf (by rw [sp_copy, if_neg c_1, if_neg c_2, show (nI 0).toNatClampNeg = 0 from rfl, show (nI 3).toNatClampNeg = 3 from rfl, if_neg (ms_0 c_18), if_neg (ms_0 c_19), if_pos c_20, if_pos c_21]; rfl))
                · refine g_aload cx dX5_copy_91 0 rfl ?_
                  refine g_iload cx dX5_copy_93 6 rfl ?_
                  refine g_iload cx dX5_copy_95 7 rfl ?_
                  refine g_Vi (rest := []) (As := [.int o0, .int n0]) (wr := ([0, 1, 2, 3, 4, 5, 6, 7, 8, 9, 10, 11, 12, 13, 14, 15, 16, 17, 18, 19, 20, 21, 22, 23, 24, 25, 28].filterMap (fun i => (xW E a c g)[i]?))) cx hYX1_hasSpan gX5_copy_X1_hasSpan (c_X1_hasSpan l E (fun i => a (26 + i)) (c.2.2.2.2.2.1 3, c.2.2.2.2.2.2.1 3, c.2.2.2.2.2.2.2.1 3) o0 n0 ) rfl rfl rfl [26, 27] [0, 1, 2, 3, 4, 5, 6, 7, 8, 9, 10, 11, 12, 13, 14, 15, 16, 17, 18, 19, 20, 21, 22, 23, 24, 25, 28] rfl rfl rfl rfl (by decide) ⟨Nat.le_of_ble_eq_true rfl, Nat.le_of_ble_eq_true rfl⟩ rfl rfl (Nat.le_of_ble_eq_true rfl) ⟨Nat.le_of_ble_eq_true rfl, Nat.le_of_ble_eq_true rfl⟩ dX5_copy_97 (fun r w1 hp => ?_)
                  obtain ⟨rfl, rfl⟩ := hp
                  refine g_ws (ws' := (xW E a c g)) [0, 1, 2, 3, 4, 5, 6, 7, 8, 9, 10, 11, 12, 13, 14, 15, 16, 17, 18, 19, 20, 21, 22, 23, 24, 25, 27, 28, 26] rfl rfl ?_
                  refine g_if_ne (tgt := 110) cx dX5_copy_100 (by decide) (fun c_22 => ?_) (fun c_22 => ?_)
                  · refine g_aload cx dX5_copy_110 1 rfl ?_
                    refine g_get (C := RX1) (T := TX1) (N := 3) (v := .ref (a 21)) cx iwX5_copy_X1 20 2 rfl rfl (by decide) lkX5_copy_212 rfl dX5_copy_112 ?_
                    refine g_iload_n cx dX5_copy_115 4 rfl ?_
                    refine g_aload cx dX5_copy_116 0 rfl ?_
                    refine g_get (C := RX1) (T := TX1) (N := 3) (v := .ref (a 27)) cx iwX5_copy_X1 26 2 rfl rfl (by decide) lkX5_copy_212 rfl dX5_copy_118 ?_
                    refine g_iload cx dX5_copy_121 6 rfl ?_
                    refine g_iload cx dX5_copy_123 7 rfl ?_
                    have ok1 := hsp_ok c_21 hzs0 hZs0
                    have ok2 := hsp_ok c_22 hzt0 hZt0
                    refine g_copyL (ws' := (xW E a (c.1, c.2.1, c.2.2.1, c.2.2.2.1, c.2.2.2.2.1, c.2.2.2.2.2.1, c.2.2.2.2.2.2.1, upN c.2.2.2.2.2.2.2.1 3 (va_cpy (c.2.2.2.2.2.2.2.1 0) (c.2.2.2.2.2.2.2.1 3) f0.toNatClampNeg o0.toNatClampNeg n0.toNatClampNeg), c.2.2.2.2.2.2.2.2) g)) cx mwX5_copy_ac 21 27 rfl rfl ok1.1 ok2.1 ok1.2.1 ok1.2.2 ok2.2.2 (by decide) (Nat.le_of_ble_eq_true rfl) dX5_copy_125 rfl ?_
                    refine g_iload cx dX5_copy_128 7 rfl ?_
                    exact g_iret cx gr (Nat.zero_le _) (Nat.zero_le _) dX5_copy_130 (xleaf (by rw [sp_copy, if_neg c_1, if_neg c_2, show (nI 0).toNatClampNeg = 0 from rfl, show (nI 3).toNatClampNeg = 3 from rfl, if_neg (ms_0 c_18), if_neg (ms_0 c_19), if_pos c_20, if_neg c_21, if_neg c_22]; rfl))
                  · refine g_aload_n cx dX5_copy_103 2 rfl ?_
                    refine g_ldc cx m1X5_copy_c61 dX5_copy_104 ?_
                    refine g_VSi (rest := []) (As := [.int (-1000000001)]) cx hYX5_finding gX5_copy_X5_finding (c_X5_finding l E a c g (-1000000001) (by unfold vp_in; decide +kernel)) rfl rfl rfl ⟨Nat.le_of_ble_eq_true rfl, Nat.le_of_ble_eq_true rfl⟩ rfl rfl (Nat.le_of_ble_eq_true rfl) ⟨Nat.le_of_ble_eq_true rfl, Nat.le_of_ble_eq_true rfl⟩ dX5_copy_106 (fun r w1 hp => ?_)
                    obtain ⟨rfl, rfl⟩ := hp
                    exact g_iret cx gr (Nat.zero_le _) (Nat.zero_le _) dX5_copy_109 (xleaf (by rw [sp_copy, if_neg c_1, if_neg c_2, show (nI 0).toNatClampNeg = 0 from rfl, show (nI 3).toNatClampNeg = 3 from rfl, if_neg (ms_0 c_18), if_neg (ms_0 c_19), if_pos c_20, if_neg c_21, if_pos c_22]; rfl))
              · refine g_aload_n cx dX5_copy_73 2 rfl ?_
                refine g_ldc cx m1X5_copy_c145 dX5_copy_74 ?_
                refine g_VSi (rest := []) (As := [.int (-1000000003)]) cx hYX5_finding gX5_copy_X5_finding (c_X5_finding l E a c g (-1000000003) (by unfold vp_in; decide +kernel)) rfl rfl rfl ⟨Nat.le_of_ble_eq_true rfl, Nat.le_of_ble_eq_true rfl⟩ rfl rfl (Nat.le_of_ble_eq_true rfl) ⟨Nat.le_of_ble_eq_true rfl, Nat.le_of_ble_eq_true rfl⟩ dX5_copy_76 (fun r w1 hp => ?_)
                obtain ⟨rfl, rfl⟩ := hp
                exact g_iret cx gr (Nat.zero_le _) (Nat.zero_le _) dX5_copy_79 (xleaf (by rw [sp_copy, if_neg c_1, if_neg c_2, show (nI 0).toNatClampNeg = 0 from rfl, show (nI 3).toNatClampNeg = 3 from rfl, if_neg (ms_0 c_18), if_neg (ms_0 c_19), if_neg c_20]; rfl))
            · refine g_aload_n cx dX5_copy_53 2 rfl ?_
              refine g_ldc cx m1X5_copy_c211 dX5_copy_54 ?_
              refine g_VSi (rest := []) (As := [.int (-1000000006)]) cx hYX5_finding gX5_copy_X5_finding (c_X5_finding l E a c g (-1000000006) (by unfold vp_in; decide +kernel)) rfl rfl rfl ⟨Nat.le_of_ble_eq_true rfl, Nat.le_of_ble_eq_true rfl⟩ rfl rfl (Nat.le_of_ble_eq_true rfl) ⟨Nat.le_of_ble_eq_true rfl, Nat.le_of_ble_eq_true rfl⟩ dX5_copy_56 (fun r w1 hp => ?_)
              obtain ⟨rfl, rfl⟩ := hp
              exact g_iret cx gr (Nat.zero_le _) (Nat.zero_le _) dX5_copy_59 (xleaf (by rw [sp_copy, if_neg c_1, if_neg c_2, show (nI 0).toNatClampNeg = 0 from rfl, show (nI 3).toNatClampNeg = 3 from rfl, if_neg (ms_0 c_18), if_pos (ms_1 c_19)]; rfl))
      · refine g_aload_n cx dX5_copy_21 0 rfl ?_
        refine g_get (C := RX5) (T := TX5) (N := 8) (v := .ref (a 19)) cx iwX5_copy_X5 0 6 rfl rfl (by decide) lkX5_copy_44 rfl dX5_copy_22 ?_
        refine g_iload_n cx dX5_copy_25 1 rfl ?_
        refine g_aald (v := a 22) cx 19 rfl rfl (vp_in_nI (by decide) (by decide)) rfl dX5_copy_26 ?_
        refine g_astore (lv' := [(6, .ref (a 22)), (0, .ref (a 0)), (1, .int (nI 1)), (2, .int f0), (3, .int t0), (4, .int o0), (5, .int n0)]) cx dX5_copy_27 (by decide) rfl ?_
        obtain ⟨jt0, hjt0, rfl⟩ := isW_nI 3 c_2 (by decide)
        rcases (show jt0 = 0 ∨ jt0 = 1 ∨ jt0 = 2 ∨ jt0 = 3 by omega) with rfl | rfl | rfl | rfl
        · refine g_aload_n cx dX5_copy_29 1 rfl ?_
          refine g_get (C := RX5) (T := TX5) (N := 8) (v := .ref (a 19)) cx iwX5_copy_X5 0 6 rfl rfl (by decide) lkX5_copy_44 rfl dX5_copy_30 ?_
          refine g_iload_n cx dX5_copy_33 4 rfl ?_
          refine g_aald (v := a 20) cx 19 rfl rfl (vp_in_nI (by decide) (by decide)) rfl dX5_copy_34 ?_
          refine g_astore (lv' := [(7, .ref (a 20)), (6, .ref (a 22)), (0, .ref (a 0)), (1, .int (nI 1)), (2, .int f0), (3, .int (nI 0)), (4, .int o0), (5, .int n0)]) cx dX5_copy_35 (by decide) rfl ?_
          refine g_aload cx dX5_copy_37 1 rfl ?_
          refine g_Vi (rest := []) (As := []) (wr := ([0, 1, 2, 3, 4, 5, 6, 7, 8, 9, 10, 11, 12, 13, 14, 15, 16, 17, 18, 19, 20, 21, 24, 25, 26, 27, 28].filterMap (fun i => (xW E a c g)[i]?))) cx hYX1_isMissing gX5_copy_X1_isMissing (c_X1_isMissing l E (fun i => a (22 + i)) (c.2.2.2.2.2.1 1, c.2.2.2.2.2.2.1 1, c.2.2.2.2.2.2.2.1 1)  ) rfl rfl rfl [22, 23] [0, 1, 2, 3, 4, 5, 6, 7, 8, 9, 10, 11, 12, 13, 14, 15, 16, 17, 18, 19, 20, 21, 24, 25, 26, 27, 28] rfl rfl rfl rfl (by decide) ⟨Nat.le_of_ble_eq_true rfl, Nat.le_of_ble_eq_true rfl⟩ rfl rfl (Nat.le_of_ble_eq_true rfl) ⟨Nat.le_of_ble_eq_true rfl, Nat.le_of_ble_eq_true rfl⟩ dX5_copy_39 (fun r w1 hp => ?_)
          obtain ⟨rfl, rfl⟩ := hp
          refine g_ws (ws' := (xW E a c g)) [0, 1, 2, 3, 4, 5, 6, 7, 8, 9, 10, 11, 12, 13, 14, 15, 16, 17, 18, 19, 20, 21, 27, 28, 22, 23, 24, 25, 26] rfl rfl ?_
          refine g_if_ne (tgt := 53) cx dX5_copy_42 (by decide) (fun c_23 => ?_) (fun c_23 => ?_)
          · refine g_aload_n cx dX5_copy_53 2 rfl ?_
            refine g_ldc cx m1X5_copy_c211 dX5_copy_54 ?_
            refine g_VSi (rest := []) (As := [.int (-1000000006)]) cx hYX5_finding gX5_copy_X5_finding (c_X5_finding l E a c g (-1000000006) (by unfold vp_in; decide +kernel)) rfl rfl rfl ⟨Nat.le_of_ble_eq_true rfl, Nat.le_of_ble_eq_true rfl⟩ rfl rfl (Nat.le_of_ble_eq_true rfl) ⟨Nat.le_of_ble_eq_true rfl, Nat.le_of_ble_eq_true rfl⟩ dX5_copy_56 (fun r w1 hp => ?_)
            obtain ⟨rfl, rfl⟩ := hp
            exact g_iret cx gr (Nat.zero_le _) (Nat.zero_le _) dX5_copy_59 (xleaf (by rw [sp_copy, if_neg c_1, if_neg c_2, show (nI 1).toNatClampNeg = 1 from rfl, show (nI 0).toNatClampNeg = 0 from rfl, if_pos (ms_1 c_23)]; rfl))
          · refine g_aload cx dX5_copy_45 0 rfl ?_
            refine g_Vi (rest := []) (As := []) (wr := ([0, 1, 2, 3, 4, 5, 6, 7, 8, 9, 10, 11, 12, 13, 14, 15, 16, 17, 18, 19, 22, 23, 24, 25, 26, 27, 28].filterMap (fun i => (xW E a c g)[i]?))) cx hYX1_isMissing gX5_copy_X1_isMissing (c_X1_isMissing l E (fun i => a (20 + i)) (c.2.2.2.2.2.1 0, c.2.2.2.2.2.2.1 0, c.2.2.2.2.2.2.2.1 0)  ) rfl rfl rfl [20, 21] [0, 1, 2, 3, 4, 5, 6, 7, 8, 9, 10, 11, 12, 13, 14, 15, 16, 17, 18, 19, 22, 23, 24, 25, 26, 27, 28] rfl rfl rfl rfl (by decide) ⟨Nat.le_of_ble_eq_true rfl, Nat.le_of_ble_eq_true rfl⟩ rfl rfl (Nat.le_of_ble_eq_true rfl) ⟨Nat.le_of_ble_eq_true rfl, Nat.le_of_ble_eq_true rfl⟩ dX5_copy_47 (fun r w1 hp => ?_)
            obtain ⟨rfl, rfl⟩ := hp
            refine g_ws (ws' := (xW E a c g)) [0, 1, 2, 3, 4, 5, 6, 7, 8, 9, 10, 11, 12, 13, 14, 15, 16, 17, 18, 19, 27, 28, 20, 21, 22, 23, 24, 25, 26] rfl rfl ?_
            refine g_if_eq (tgt := 60) cx dX5_copy_50 (by decide) (fun c_24 => ?_) (fun c_24 => ?_)
            · refine g_aload cx dX5_copy_60 1 rfl ?_
              refine g_get (C := RX1) (T := TX1) (N := 3) (v := .int (c.2.2.2.2.2.1 1)) cx iwX5_copy_X1 22 0 rfl rfl (by decide) lkX5_copy_220 rfl dX5_copy_62 ?_
              refine g_aload cx dX5_copy_65 0 rfl ?_
              refine g_get (C := RX1) (T := TX1) (N := 3) (v := .int (c.2.2.2.2.2.1 0)) cx iwX5_copy_X1 20 0 rfl rfl (by decide) lkX5_copy_220 rfl dX5_copy_67 ?_
              refine g_icmp_eq (tgt := 80) cx dX5_copy_70 (by decide) (fun c_25 => ?_) (fun c_25 => ?_)
              · obtain ⟨Zs0, hZs0, hzs0⟩ := sz_nI (j := 1) hok (by decide)
                obtain ⟨Zt0, hZt0, hzt0⟩ := sz_nI (j := 0) hok (by decide)
                refine g_aload cx dX5_copy_80 1 rfl ?_
                refine g_iload_n cx dX5_copy_82 4 rfl ?_
                refine g_iload cx dX5_copy_83 7 rfl ?_
                refine g_Vi (rest := []) (As := [.int f0, .int n0]) (wr := ([0, 1, 2, 3, 4, 5, 6, 7, 8, 9, 10, 11, 12, 13, 14, 15, 16, 17, 18, 19, 20, 21, 24, 25, 26, 27, 28].filterMap (fun i => (xW E a c g)[i]?))) cx hYX1_hasSpan gX5_copy_X1_hasSpan (c_X1_hasSpan l E (fun i => a (22 + i)) (c.2.2.2.2.2.1 1, c.2.2.2.2.2.2.1 1, c.2.2.2.2.2.2.2.1 1) f0 n0 ) rfl rfl rfl [22, 23] [0, 1, 2, 3, 4, 5, 6, 7, 8, 9, 10, 11, 12, 13, 14, 15, 16, 17, 18, 19, 20, 21, 24, 25, 26, 27, 28] rfl rfl rfl rfl (by decide) ⟨Nat.le_of_ble_eq_true rfl, Nat.le_of_ble_eq_true rfl⟩ rfl rfl (Nat.le_of_ble_eq_true rfl) ⟨Nat.le_of_ble_eq_true rfl, Nat.le_of_ble_eq_true rfl⟩ dX5_copy_85 (fun r w1 hp => ?_)
                obtain ⟨rfl, rfl⟩ := hp
                refine g_ws (ws' := (xW E a c g)) [0, 1, 2, 3, 4, 5, 6, 7, 8, 9, 10, 11, 12, 13, 14, 15, 16, 17, 18, 19, 20, 21, 27, 28, 22, 23, 24, 25, 26] rfl rfl ?_
                refine g_if_eq (tgt := 103) cx dX5_copy_88 (by decide) (fun c_26 => ?_) (fun c_26 => ?_)
                · refine g_aload_n cx dX5_copy_103 2 rfl ?_
                  refine g_ldc cx m1X5_copy_c61 dX5_copy_104 ?_
                  refine g_VSi (rest := []) (As := [.int (-1000000001)]) cx hYX5_finding gX5_copy_X5_finding (c_X5_finding l E a c g (-1000000001) (by unfold vp_in; decide +kernel)) rfl rfl rfl ⟨Nat.le_of_ble_eq_true rfl, Nat.le_of_ble_eq_true rfl⟩ rfl rfl (Nat.le_of_ble_eq_true rfl) ⟨Nat.le_of_ble_eq_true rfl, Nat.le_of_ble_eq_true rfl⟩ dX5_copy_106 (fun r w1 hp => ?_)
                  obtain ⟨rfl, rfl⟩ := hp
                  exact g_iret cx gr (Nat.zero_le _) (Nat.zero_le _) dX5_copy_109 (xleaf (by rw [sp_copy, if_neg c_1, if_neg c_2, show (nI 1).toNatClampNeg = 1 from rfl, show (nI 0).toNatClampNeg = 0 from rfl, if_neg (ms_0 c_23), if_neg (ms_0 c_24), if_pos c_25, if_pos c_26]; rfl))
                · refine g_aload cx dX5_copy_91 0 rfl ?_
                  refine g_iload cx dX5_copy_93 6 rfl ?_
                  refine g_iload cx dX5_copy_95 7 rfl ?_
                  refine g_Vi (rest := []) (As := [.int o0, .int n0]) (wr := ([0, 1, 2, 3, 4, 5, 6, 7, 8, 9, 10, 11, 12, 13, 14, 15, 16, 17, 18, 19, 22, 23, 24, 25, 26, 27, 28].filterMap (fun i => (xW E a c g)[i]?))) cx hYX1_hasSpan gX5_copy_X1_hasSpan (c_X1_hasSpan l E (fun i => a (20 + i)) (c.2.2.2.2.2.1 0, c.2.2.2.2.2.2.1 0, c.2.2.2.2.2.2.2.1 0) o0 n0 ) rfl rfl rfl [20, 21] [0, 1, 2, 3, 4, 5, 6, 7, 8, 9, 10, 11, 12, 13, 14, 15, 16, 17, 18, 19, 22, 23, 24, 25, 26, 27, 28] rfl rfl rfl rfl (by decide) ⟨Nat.le_of_ble_eq_true rfl, Nat.le_of_ble_eq_true rfl⟩ rfl rfl (Nat.le_of_ble_eq_true rfl) ⟨Nat.le_of_ble_eq_true rfl, Nat.le_of_ble_eq_true rfl⟩ dX5_copy_97 (fun r w1 hp => ?_)
                  obtain ⟨rfl, rfl⟩ := hp
                  refine g_ws (ws' := (xW E a c g)) [0, 1, 2, 3, 4, 5, 6, 7, 8, 9, 10, 11, 12, 13, 14, 15, 16, 17, 18, 19, 27, 28, 20, 21, 22, 23, 24, 25, 26] rfl rfl ?_
                  refine g_if_ne (tgt := 110) cx dX5_copy_100 (by decide) (fun c_27 => ?_) (fun c_27 => ?_)
                  · refine g_aload cx dX5_copy_110 1 rfl ?_
                    refine g_get (C := RX1) (T := TX1) (N := 3) (v := .ref (a 23)) cx iwX5_copy_X1 22 2 rfl rfl (by decide) lkX5_copy_212 rfl dX5_copy_112 ?_
                    refine g_iload_n cx dX5_copy_115 4 rfl ?_
                    refine g_aload cx dX5_copy_116 0 rfl ?_
                    refine g_get (C := RX1) (T := TX1) (N := 3) (v := .ref (a 21)) cx iwX5_copy_X1 20 2 rfl rfl (by decide) lkX5_copy_212 rfl dX5_copy_118 ?_
                    refine g_iload cx dX5_copy_121 6 rfl ?_
                    refine g_iload cx dX5_copy_123 7 rfl ?_
                    have ok1 := hsp_ok c_26 hzs0 hZs0
                    have ok2 := hsp_ok c_27 hzt0 hZt0
                    refine g_copyL (ws' := (xW E a (c.1, c.2.1, c.2.2.1, c.2.2.2.1, c.2.2.2.2.1, c.2.2.2.2.2.1, c.2.2.2.2.2.2.1, upN c.2.2.2.2.2.2.2.1 0 (va_cpy (c.2.2.2.2.2.2.2.1 1) (c.2.2.2.2.2.2.2.1 0) f0.toNatClampNeg o0.toNatClampNeg n0.toNatClampNeg), c.2.2.2.2.2.2.2.2) g)) cx mwX5_copy_ac 23 21 rfl rfl ok1.1 ok2.1 ok1.2.1 ok1.2.2 ok2.2.2 (by decide) (Nat.le_of_ble_eq_true rfl) dX5_copy_125 rfl ?_
                    refine g_iload cx dX5_copy_128 7 rfl ?_
                    exact g_iret cx gr (Nat.zero_le _) (Nat.zero_le _) dX5_copy_130 (xleaf (by rw [sp_copy, if_neg c_1, if_neg c_2, show (nI 1).toNatClampNeg = 1 from rfl, show (nI 0).toNatClampNeg = 0 from rfl, if_neg (ms_0 c_23), if_neg (ms_0 c_24), if_pos c_25, if_neg c_26, if_neg c_27]; rfl))
                  · refine g_aload_n cx dX5_copy_103 2 rfl ?_
                    refine g_ldc cx m1X5_copy_c61 dX5_copy_104 ?_
                    refine g_VSi (rest := []) (As := [.int (-1000000001)]) cx hYX5_finding gX5_copy_X5_finding (c_X5_finding l E a c g (-1000000001) (by unfold vp_in; decide +kernel)) rfl rfl rfl ⟨Nat.le_of_ble_eq_true rfl, Nat.le_of_ble_eq_true rfl⟩ rfl rfl (Nat.le_of_ble_eq_true rfl) ⟨Nat.le_of_ble_eq_true rfl, Nat.le_of_ble_eq_true rfl⟩ dX5_copy_106 (fun r w1 hp => ?_)
                    obtain ⟨rfl, rfl⟩ := hp
                    exact g_iret cx gr (Nat.zero_le _) (Nat.zero_le _) dX5_copy_109 (xleaf (by rw [sp_copy, if_neg c_1, if_neg c_2, show (nI 1).toNatClampNeg = 1 from rfl, show (nI 0).toNatClampNeg = 0 from rfl, if_neg (ms_0 c_23), if_neg (ms_0 c_24), if_pos c_25, if_neg c_26, if_pos c_27]; rfl))
              · refine g_aload_n cx dX5_copy_73 2 rfl ?_
                refine g_ldc cx m1X5_copy_c145 dX5_copy_74 ?_
                refine g_VSi (rest := []) (As := [.int (-1000000003)]) cx hYX5_finding gX5_copy_X5_finding (c_X5_finding l E a c g (-1000000003) (by unfold vp_in; decide +kernel)) rfl rfl rfl ⟨Nat.le_of_ble_eq_true rfl, Nat.le_of_ble_eq_true rfl⟩ rfl rfl (Nat.le_of_ble_eq_true rfl) ⟨Nat.le_of_ble_eq_true rfl, Nat.le_of_ble_eq_true rfl⟩ dX5_copy_76 (fun r w1 hp => ?_)
                obtain ⟨rfl, rfl⟩ := hp
                exact g_iret cx gr (Nat.zero_le _) (Nat.zero_le _) dX5_copy_79 (xleaf (by rw [sp_copy, if_neg c_1, if_neg c_2, show (nI 1).toNatClampNeg = 1 from rfl, show (nI 0).toNatClampNeg = 0 from rfl, if_neg (ms_0 c_23), if_neg (ms_0 c_24), if_neg c_25]; rfl))
            · refine g_aload_n cx dX5_copy_53 2 rfl ?_
              refine g_ldc cx m1X5_copy_c211 dX5_copy_54 ?_
              refine g_VSi (rest := []) (As := [.int (-1000000006)]) cx hYX5_finding gX5_copy_X5_finding (c_X5_finding l E a c g (-1000000006) (by unfold vp_in; decide +kernel)) rfl rfl rfl ⟨Nat.le_of_ble_eq_true rfl, Nat.le_of_ble_eq_true rfl⟩ rfl rfl (Nat.le_of_ble_eq_true rfl) ⟨Nat.le_of_ble_eq_true rfl, Nat.le_of_ble_eq_true rfl⟩ dX5_copy_56 (fun r w1 hp => ?_)
              obtain ⟨rfl, rfl⟩ := hp
              exact g_iret cx gr (Nat.zero_le _) (Nat.zero_le _) dX5_copy_59 (xleaf (by rw [sp_copy, if_neg c_1, if_neg c_2, show (nI 1).toNatClampNeg = 1 from rfl, show (nI 0).toNatClampNeg = 0 from rfl, if_neg (ms_0 c_23), if_pos (ms_1 c_24)]; rfl))
        · refine g_aload_n cx dX5_copy_29 1 rfl ?_
          refine g_get (C := RX5) (T := TX5) (N := 8) (v := .ref (a 19)) cx iwX5_copy_X5 0 6 rfl rfl (by decide) lkX5_copy_44 rfl dX5_copy_30 ?_
          refine g_iload_n cx dX5_copy_33 4 rfl ?_
          refine g_aald (v := a 22) cx 19 rfl rfl (vp_in_nI (by decide) (by decide)) rfl dX5_copy_34 ?_
          refine g_astore (lv' := [(7, .ref (a 22)), (6, .ref (a 22)), (0, .ref (a 0)), (1, .int (nI 1)), (2, .int f0), (3, .int (nI 1)), (4, .int o0), (5, .int n0)]) cx dX5_copy_35 (by decide) rfl ?_
          refine g_aload cx dX5_copy_37 1 rfl ?_
          refine g_Vi (rest := []) (As := []) (wr := ([0, 1, 2, 3, 4, 5, 6, 7, 8, 9, 10, 11, 12, 13, 14, 15, 16, 17, 18, 19, 20, 21, 24, 25, 26, 27, 28].filterMap (fun i => (xW E a c g)[i]?))) cx hYX1_isMissing gX5_copy_X1_isMissing (c_X1_isMissing l E (fun i => a (22 + i)) (c.2.2.2.2.2.1 1, c.2.2.2.2.2.2.1 1, c.2.2.2.2.2.2.2.1 1)  ) rfl rfl rfl [22, 23] [0, 1, 2, 3, 4, 5, 6, 7, 8, 9, 10, 11, 12, 13, 14, 15, 16, 17, 18, 19, 20, 21, 24, 25, 26, 27, 28] rfl rfl rfl rfl (by decide) ⟨Nat.le_of_ble_eq_true rfl, Nat.le_of_ble_eq_true rfl⟩ rfl rfl (Nat.le_of_ble_eq_true rfl) ⟨Nat.le_of_ble_eq_true rfl, Nat.le_of_ble_eq_true rfl⟩ dX5_copy_39 (fun r w1 hp => ?_)
          obtain ⟨rfl, rfl⟩ := hp
          refine g_ws (ws' := (xW E a c g)) [0, 1, 2, 3, 4, 5, 6, 7, 8, 9, 10, 11, 12, 13, 14, 15, 16, 17, 18, 19, 20, 21, 27, 28, 22, 23, 24, 25, 26] rfl rfl ?_
          refine g_if_ne (tgt := 53) cx dX5_copy_42 (by decide) (fun c_28 => ?_) (fun c_28 => ?_)
          · refine g_aload_n cx dX5_copy_53 2 rfl ?_
            refine g_ldc cx m1X5_copy_c211 dX5_copy_54 ?_
            refine g_VSi (rest := []) (As := [.int (-1000000006)]) cx hYX5_finding gX5_copy_X5_finding (c_X5_finding l E a c g (-1000000006) (by unfold vp_in; decide +kernel)) rfl rfl rfl ⟨Nat.le_of_ble_eq_true rfl, Nat.le_of_ble_eq_true rfl⟩ rfl rfl (Nat.le_of_ble_eq_true rfl) ⟨Nat.le_of_ble_eq_true rfl, Nat.le_of_ble_eq_true rfl⟩ dX5_copy_56 (fun r w1 hp => ?_)
            obtain ⟨rfl, rfl⟩ := hp
            exact g_iret cx gr (Nat.zero_le _) (Nat.zero_le _) dX5_copy_59 (xleaf (by rw [sp_copy, if_neg c_1, if_neg c_2, show (nI 1).toNatClampNeg = 1 from rfl, if_pos (ms_1 c_28)]; rfl))
          · refine g_aload cx dX5_copy_45 0 rfl ?_
            refine g_Vi (rest := []) (As := []) (wr := ([0, 1, 2, 3, 4, 5, 6, 7, 8, 9, 10, 11, 12, 13, 14, 15, 16, 17, 18, 19, 20, 21, 24, 25, 26, 27, 28].filterMap (fun i => (xW E a c g)[i]?))) cx hYX1_isMissing gX5_copy_X1_isMissing (c_X1_isMissing l E (fun i => a (22 + i)) (c.2.2.2.2.2.1 1, c.2.2.2.2.2.2.1 1, c.2.2.2.2.2.2.2.1 1)  ) rfl rfl rfl [22, 23] [0, 1, 2, 3, 4, 5, 6, 7, 8, 9, 10, 11, 12, 13, 14, 15, 16, 17, 18, 19, 20, 21, 24, 25, 26, 27, 28] rfl rfl rfl rfl (by decide) ⟨Nat.le_of_ble_eq_true rfl, Nat.le_of_ble_eq_true rfl⟩ rfl rfl (Nat.le_of_ble_eq_true rfl) ⟨Nat.le_of_ble_eq_true rfl, Nat.le_of_ble_eq_true rfl⟩ dX5_copy_47 (fun r w1 hp => ?_)
            obtain ⟨rfl, rfl⟩ := hp
            refine g_ws (ws' := (xW E a c g)) [0, 1, 2, 3, 4, 5, 6, 7, 8, 9, 10, 11, 12, 13, 14, 15, 16, 17, 18, 19, 20, 21, 27, 28, 22, 23, 24, 25, 26] rfl rfl ?_
            refine g_if_eq (tgt := 60) cx dX5_copy_50 (by decide) (fun c_29 => ?_) (fun c_29 => ?_)
            · refine g_aload cx dX5_copy_60 1 rfl ?_
              refine g_get (C := RX1) (T := TX1) (N := 3) (v := .int (c.2.2.2.2.2.1 1)) cx iwX5_copy_X1 22 0 rfl rfl (by decide) lkX5_copy_220 rfl dX5_copy_62 ?_
              refine g_aload cx dX5_copy_65 0 rfl ?_
              refine g_get (C := RX1) (T := TX1) (N := 3) (v := .int (c.2.2.2.2.2.1 1)) cx iwX5_copy_X1 22 0 rfl rfl (by decide) lkX5_copy_220 rfl dX5_copy_67 ?_
              refine g_icmp_eq (tgt := 80) cx dX5_copy_70 (by decide) (fun c_30 => ?_) (fun c_30 => ?_)
              · obtain ⟨Zs0, hZs0, hzs0⟩ := sz_nI (j := 1) hok (by decide)
                obtain ⟨Zt0, hZt0, hzt0⟩ := sz_nI (j := 1) hok (by decide)
                refine g_aload cx dX5_copy_80 1 rfl ?_
                refine g_iload_n cx dX5_copy_82 4 rfl ?_
                refine g_iload cx dX5_copy_83 7 rfl ?_
                refine g_Vi (rest := []) (As := [.int f0, .int n0]) (wr := ([0, 1, 2, 3, 4, 5, 6, 7, 8, 9, 10, 11, 12, 13, 14, 15, 16, 17, 18, 19, 20, 21, 24, 25, 26, 27, 28].filterMap (fun i => (xW E a c g)[i]?))) cx hYX1_hasSpan gX5_copy_X1_hasSpan (c_X1_hasSpan l E (fun i => a (22 + i)) (c.2.2.2.2.2.1 1, c.2.2.2.2.2.2.1 1, c.2.2.2.2.2.2.2.1 1) f0 n0 ) rfl rfl rfl [22, 23] [0, 1, 2, 3, 4, 5, 6, 7, 8, 9, 10, 11, 12, 13, 14, 15, 16, 17, 18, 19, 20, 21, 24, 25, 26, 27, 28] rfl rfl rfl rfl (by decide) ⟨Nat.le_of_ble_eq_true rfl, Nat.le_of_ble_eq_true rfl⟩ rfl rfl (Nat.le_of_ble_eq_true rfl) ⟨Nat.le_of_ble_eq_true rfl, Nat.le_of_ble_eq_true rfl⟩ dX5_copy_85 (fun r w1 hp => ?_)
                obtain ⟨rfl, rfl⟩ := hp
                refine g_ws (ws' := (xW E a c g)) [0, 1, 2, 3, 4, 5, 6, 7, 8, 9, 10, 11, 12, 13, 14, 15, 16, 17, 18, 19, 20, 21, 27, 28, 22, 23, 24, 25, 26] rfl rfl ?_
                refine g_if_eq (tgt := 103) cx dX5_copy_88 (by decide) (fun c_31 => ?_) (fun c_31 => ?_)
                · refine g_aload_n cx dX5_copy_103 2 rfl ?_
                  refine g_ldc cx m1X5_copy_c61 dX5_copy_104 ?_
                  refine g_VSi (rest := []) (As := [.int (-1000000001)]) cx hYX5_finding gX5_copy_X5_finding (c_X5_finding l E a c g (-1000000001) (by unfold vp_in; decide +kernel)) rfl rfl rfl ⟨Nat.le_of_ble_eq_true rfl, Nat.le_of_ble_eq_true rfl⟩ rfl rfl (Nat.le_of_ble_eq_true rfl) ⟨Nat.le_of_ble_eq_true rfl, Nat.le_of_ble_eq_true rfl⟩ dX5_copy_106 (fun r w1 hp => ?_)
                  obtain ⟨rfl, rfl⟩ := hp
                  exact g_iret cx gr (Nat.zero_le _) (Nat.zero_le _) dX5_copy_109 (xleaf (by rw [sp_copy, if_neg c_1, if_neg c_2, show (nI 1).toNatClampNeg = 1 from rfl, if_neg (ms_0 c_28), if_neg (ms_0 c_29), if_pos c_30, if_pos c_31]; rfl))
                · refine g_aload cx dX5_copy_91 0 rfl ?_
                  refine g_iload cx dX5_copy_93 6 rfl ?_
                  refine g_iload cx dX5_copy_95 7 rfl ?_
                  refine g_Vi (rest := []) (As := [.int o0, .int n0]) (wr := ([0, 1, 2, 3, 4, 5, 6, 7, 8, 9, 10, 11, 12, 13, 14, 15, 16, 17, 18, 19, 20, 21, 24, 25, 26, 27, 28].filterMap (fun i => (xW E a c g)[i]?))) cx hYX1_hasSpan gX5_copy_X1_hasSpan (c_X1_hasSpan l E (fun i => a (22 + i)) (c.2.2.2.2.2.1 1, c.2.2.2.2.2.2.1 1, c.2.2.2.2.2.2.2.1 1) o0 n0 ) rfl rfl rfl [22, 23] [0, 1, 2, 3, 4, 5, 6, 7, 8, 9, 10, 11, 12, 13, 14, 15, 16, 17, 18, 19, 20, 21, 24, 25, 26, 27, 28] rfl rfl rfl rfl (by decide) ⟨Nat.le_of_ble_eq_true rfl, Nat.le_of_ble_eq_true rfl⟩ rfl rfl (Nat.le_of_ble_eq_true rfl) ⟨Nat.le_of_ble_eq_true rfl, Nat.le_of_ble_eq_true rfl⟩ dX5_copy_97 (fun r w1 hp => ?_)
                  obtain ⟨rfl, rfl⟩ := hp
                  refine g_ws (ws' := (xW E a c g)) [0, 1, 2, 3, 4, 5, 6, 7, 8, 9, 10, 11, 12, 13, 14, 15, 16, 17, 18, 19, 20, 21, 27, 28, 22, 23, 24, 25, 26] rfl rfl ?_
                  refine g_if_ne (tgt := 110) cx dX5_copy_100 (by decide) (fun c_32 => ?_) (fun c_32 => ?_)
                  · refine g_aload cx dX5_copy_110 1 rfl ?_
                    refine g_get (C := RX1) (T := TX1) (N := 3) (v := .ref (a 23)) cx iwX5_copy_X1 22 2 rfl rfl (by decide) lkX5_copy_212 rfl dX5_copy_112 ?_
                    refine g_iload_n cx dX5_copy_115 4 rfl ?_
                    refine g_aload cx dX5_copy_116 0 rfl ?_
                    refine g_get (C := RX1) (T := TX1) (N := 3) (v := .ref (a 23)) cx iwX5_copy_X1 22 2 rfl rfl (by decide) lkX5_copy_212 rfl dX5_copy_118 ?_
                    refine g_iload cx dX5_copy_121 6 rfl ?_
                    refine g_iload cx dX5_copy_123 7 rfl ?_
                    have ok1 := hsp_ok c_31 hzs0 hZs0
                    have ok2 := hsp_ok c_32 hzt0 hZt0
                    refine g_copyL (ws' := (xW E a (c.1, c.2.1, c.2.2.1, c.2.2.2.1, c.2.2.2.2.1, c.2.2.2.2.2.1, c.2.2.2.2.2.2.1, upN c.2.2.2.2.2.2.2.1 1 (va_cpy (c.2.2.2.2.2.2.2.1 1) (c.2.2.2.2.2.2.2.1 1) f0.toNatClampNeg o0.toNatClampNeg n0.toNatClampNeg), c.2.2.2.2.2.2.2.2) g)) cx mwX5_copy_ac 23 23 rfl rfl ok1.1 ok2.1 ok1.2.1 ok1.2.2 ok2.2.2 (by decide) (Nat.le_of_ble_eq_true rfl) dX5_copy_125 rfl ?_
                    refine g_iload cx dX5_copy_128 7 rfl ?_
                    exact g_iret cx gr (Nat.zero_le _) (Nat.zero_le _) dX5_copy_130 (xleaf (by rw [sp_copy, if_neg c_1, if_neg c_2, show (nI 1).toNatClampNeg = 1 from rfl, if_neg (ms_0 c_28), if_neg (ms_0 c_29), if_pos c_30, if_neg c_31, if_neg c_32]; rfl))
                  · refine g_aload_n cx dX5_copy_103 2 rfl ?_
                    refine g_ldc cx m1X5_copy_c61 dX5_copy_104 ?_
                    refine g_VSi (rest := []) (As := [.int (-1000000001)]) cx hYX5_finding gX5_copy_X5_finding (c_X5_finding l E a c g (-1000000001) (by unfold vp_in; decide +kernel)) rfl rfl rfl ⟨Nat.le_of_ble_eq_true rfl, Nat.le_of_ble_eq_true rfl⟩ rfl rfl (Nat.le_of_ble_eq_true rfl) ⟨Nat.le_of_ble_eq_true rfl, Nat.le_of_ble_eq_true rfl⟩ dX5_copy_106 (fun r w1 hp => ?_)
                    obtain ⟨rfl, rfl⟩ := hp
                    exact g_iret cx gr (Nat.zero_le _) (Nat.zero_le _) dX5_copy_109 (xleaf (by rw [sp_copy, if_neg c_1, if_neg c_2, show (nI 1).toNatClampNeg = 1 from rfl, if_neg (ms_0 c_28), if_neg (ms_0 c_29), if_pos c_30, if_neg c_31, if_pos c_32]; rfl))
              · refine g_aload_n cx dX5_copy_73 2 rfl ?_
                refine g_ldc cx m1X5_copy_c145 dX5_copy_74 ?_
                refine g_VSi (rest := []) (As := [.int (-1000000003)]) cx hYX5_finding gX5_copy_X5_finding (c_X5_finding l E a c g (-1000000003) (by unfold vp_in; decide +kernel)) rfl rfl rfl ⟨Nat.le_of_ble_eq_true rfl, Nat.le_of_ble_eq_true rfl⟩ rfl rfl (Nat.le_of_ble_eq_true rfl) ⟨Nat.le_of_ble_eq_true rfl, Nat.le_of_ble_eq_true rfl⟩ dX5_copy_76 (fun r w1 hp => ?_)
                obtain ⟨rfl, rfl⟩ := hp
                exact g_iret cx gr (Nat.zero_le _) (Nat.zero_le _) dX5_copy_79 (xleaf (by rw [sp_copy, if_neg c_1, if_neg c_2, show (nI 1).toNatClampNeg = 1 from rfl, if_neg (ms_0 c_28), if_neg (ms_0 c_29), if_neg c_30]; rfl))
            · refine g_aload_n cx dX5_copy_53 2 rfl ?_
              refine g_ldc cx m1X5_copy_c211 dX5_copy_54 ?_
              refine g_VSi (rest := []) (As := [.int (-1000000006)]) cx hYX5_finding gX5_copy_X5_finding (c_X5_finding l E a c g (-1000000006) (by unfold vp_in; decide +kernel)) rfl rfl rfl ⟨Nat.le_of_ble_eq_true rfl, Nat.le_of_ble_eq_true rfl⟩ rfl rfl (Nat.le_of_ble_eq_true rfl) ⟨Nat.le_of_ble_eq_true rfl, Nat.le_of_ble_eq_true rfl⟩ dX5_copy_56 (fun r w1 hp => ?_)
              obtain ⟨rfl, rfl⟩ := hp
              exact g_iret cx gr (Nat.zero_le _) (Nat.zero_le _) dX5_copy_59 (xleaf (by rw [sp_copy, if_neg c_1, if_neg c_2, show (nI 1).toNatClampNeg = 1 from rfl, if_neg (ms_0 c_28), if_pos (ms_1 c_29)]; rfl))
        · refine g_aload_n cx dX5_copy_29 1 rfl ?_
          refine g_get (C := RX5) (T := TX5) (N := 8) (v := .ref (a 19)) cx iwX5_copy_X5 0 6 rfl rfl (by decide) lkX5_copy_44 rfl dX5_copy_30 ?_
          refine g_iload_n cx dX5_copy_33 4 rfl ?_
          refine g_aald (v := a 24) cx 19 rfl rfl (vp_in_nI (by decide) (by decide)) rfl dX5_copy_34 ?_
          refine g_astore (lv' := [(7, .ref (a 24)), (6, .ref (a 22)), (0, .ref (a 0)), (1, .int (nI 1)), (2, .int f0), (3, .int (nI 2)), (4, .int o0), (5, .int n0)]) cx dX5_copy_35 (by decide) rfl ?_
          refine g_aload cx dX5_copy_37 1 rfl ?_
          refine g_Vi (rest := []) (As := []) (wr := ([0, 1, 2, 3, 4, 5, 6, 7, 8, 9, 10, 11, 12, 13, 14, 15, 16, 17, 18, 19, 20, 21, 24, 25, 26, 27, 28].filterMap (fun i => (xW E a c g)[i]?))) cx hYX1_isMissing gX5_copy_X1_isMissing (c_X1_isMissing l E (fun i => a (22 + i)) (c.2.2.2.2.2.1 1, c.2.2.2.2.2.2.1 1, c.2.2.2.2.2.2.2.1 1)  ) rfl rfl rfl [22, 23] [0, 1, 2, 3, 4, 5, 6, 7, 8, 9, 10, 11, 12, 13, 14, 15, 16, 17, 18, 19, 20, 21, 24, 25, 26, 27, 28] rfl rfl rfl rfl (by decide) ⟨Nat.le_of_ble_eq_true rfl, Nat.le_of_ble_eq_true rfl⟩ rfl rfl (Nat.le_of_ble_eq_true rfl) ⟨Nat.le_of_ble_eq_true rfl, Nat.le_of_ble_eq_true rfl⟩ dX5_copy_39 (fun r w1 hp => ?_)
          obtain ⟨rfl, rfl⟩ := hp
          refine g_ws (ws' := (xW E a c g)) [0, 1, 2, 3, 4, 5, 6, 7, 8, 9, 10, 11, 12, 13, 14, 15, 16, 17, 18, 19, 20, 21, 27, 28, 22, 23, 24, 25, 26] rfl rfl ?_
          refine g_if_ne (tgt := 53) cx dX5_copy_42 (by decide) (fun c_33 => ?_) (fun c_33 => ?_)
          · refine g_aload_n cx dX5_copy_53 2 rfl ?_
            refine g_ldc cx m1X5_copy_c211 dX5_copy_54 ?_
            refine g_VSi (rest := []) (As := [.int (-1000000006)]) cx hYX5_finding gX5_copy_X5_finding (c_X5_finding l E a c g (-1000000006) (by unfold vp_in; decide +kernel)) rfl rfl rfl ⟨Nat.le_of_ble_eq_true rfl, Nat.le_of_ble_eq_true rfl⟩ rfl rfl (Nat.le_of_ble_eq_true rfl) ⟨Nat.le_of_ble_eq_true rfl, Nat.le_of_ble_eq_true rfl⟩ dX5_copy_56 (fun r w1 hp => ?_)
            obtain ⟨rfl, rfl⟩ := hp
            exact g_iret cx gr (Nat.zero_le _) (Nat.zero_le _) dX5_copy_59 (xleaf (by rw [sp_copy, if_neg c_1, if_neg c_2, show (nI 1).toNatClampNeg = 1 from rfl, show (nI 2).toNatClampNeg = 2 from rfl, if_pos (ms_1 c_33)]; rfl))
          · refine g_aload cx dX5_copy_45 0 rfl ?_
            refine g_Vi (rest := []) (As := []) (wr := ([0, 1, 2, 3, 4, 5, 6, 7, 8, 9, 10, 11, 12, 13, 14, 15, 16, 17, 18, 19, 20, 21, 22, 23, 26, 27, 28].filterMap (fun i => (xW E a c g)[i]?))) cx hYX1_isMissing gX5_copy_X1_isMissing (c_X1_isMissing l E (fun i => a (24 + i)) (c.2.2.2.2.2.1 2, c.2.2.2.2.2.2.1 2, c.2.2.2.2.2.2.2.1 2)  ) rfl rfl rfl [24, 25] [0, 1, 2, 3, 4, 5, 6, 7, 8, 9, 10, 11, 12, 13, 14, 15, 16, 17, 18, 19, 20, 21, 22, 23, 26, 27, 28] rfl rfl rfl rfl (by decide) ⟨Nat.le_of_ble_eq_true rfl, Nat.le_of_ble_eq_true rfl⟩ rfl rfl (Nat.le_of_ble_eq_true rfl) ⟨Nat.le_of_ble_eq_true rfl, Nat.le_of_ble_eq_true rfl⟩ dX5_copy_47 (fun r w1 hp => ?_)
            obtain ⟨rfl, rfl⟩ := hp
            refine g_ws (ws' := (xW E a c g)) [0, 1, 2, 3, 4, 5, 6, 7, 8, 9, 10, 11, 12, 13, 14, 15, 16, 17, 18, 19, 20, 21, 22, 23, 27, 28, 24, 25, 26] rfl rfl ?_
            refine g_if_eq (tgt := 60) cx dX5_copy_50 (by decide) (fun c_34 => ?_) (fun c_34 => ?_)
            · refine g_aload cx dX5_copy_60 1 rfl ?_
              refine g_get (C := RX1) (T := TX1) (N := 3) (v := .int (c.2.2.2.2.2.1 1)) cx iwX5_copy_X1 22 0 rfl rfl (by decide) lkX5_copy_220 rfl dX5_copy_62 ?_
              refine g_aload cx dX5_copy_65 0 rfl ?_
              refine g_get (C := RX1) (T := TX1) (N := 3) (v := .int (c.2.2.2.2.2.1 2)) cx iwX5_copy_X1 24 0 rfl rfl (by decide) lkX5_copy_220 rfl dX5_copy_67 ?_
              refine g_icmp_eq (tgt := 80) cx dX5_copy_70 (by decide) (fun c_35 => ?_) (fun c_35 => ?_)
              · obtain ⟨Zs0, hZs0, hzs0⟩ := sz_nI (j := 1) hok (by decide)
                obtain ⟨Zt0, hZt0, hzt0⟩ := sz_nI (j := 2) hok (by decide)
                refine g_aload cx dX5_copy_80 1 rfl ?_
                refine g_iload_n cx dX5_copy_82 4 rfl ?_
                refine g_iload cx dX5_copy_83 7 rfl ?_
                refine g_Vi (rest := []) (As := [.int f0, .int n0]) (wr := ([0, 1, 2, 3, 4, 5, 6, 7, 8, 9, 10, 11, 12, 13, 14, 15, 16, 17, 18, 19, 20, 21, 24, 25, 26, 27, 28].filterMap (fun i => (xW E a c g)[i]?))) cx hYX1_hasSpan gX5_copy_X1_hasSpan (c_X1_hasSpan l E (fun i => a (22 + i)) (c.2.2.2.2.2.1 1, c.2.2.2.2.2.2.1 1, c.2.2.2.2.2.2.2.1 1) f0 n0 ) rfl rfl rfl [22, 23] [0, 1, 2, 3, 4, 5, 6, 7, 8, 9, 10, 11, 12, 13, 14, 15, 16, 17, 18, 19, 20, 21, 24, 25, 26, 27, 28] rfl rfl rfl rfl (by decide) ⟨Nat.le_of_ble_eq_true rfl, Nat.le_of_ble_eq_true rfl⟩ rfl rfl (Nat.le_of_ble_eq_true rfl) ⟨Nat.le_of_ble_eq_true rfl, Nat.le_of_ble_eq_true rfl⟩ dX5_copy_85 (fun r w1 hp => ?_)
                obtain ⟨rfl, rfl⟩ := hp
                refine g_ws (ws' := (xW E a c g)) [0, 1, 2, 3, 4, 5, 6, 7, 8, 9, 10, 11, 12, 13, 14, 15, 16, 17, 18, 19, 20, 21, 27, 28, 22, 23, 24, 25, 26] rfl rfl ?_
                refine g_if_eq (tgt := 103) cx dX5_copy_88 (by decide) (fun c_36 => ?_) (fun c_36 => ?_)
                · refine g_aload_n cx dX5_copy_103 2 rfl ?_
                  refine g_ldc cx m1X5_copy_c61 dX5_copy_104 ?_
                  refine g_VSi (rest := []) (As := [.int (-1000000001)]) cx hYX5_finding gX5_copy_X5_finding (c_X5_finding l E a c g (-1000000001) (by unfold vp_in; decide +kernel)) rfl rfl rfl ⟨Nat.le_of_ble_eq_true rfl, Nat.le_of_ble_eq_true rfl⟩ rfl rfl (Nat.le_of_ble_eq_true rfl) ⟨Nat.le_of_ble_eq_true rfl, Nat.le_of_ble_eq_true rfl⟩ dX5_copy_106 (fun r w1 hp => ?_)
                  obtain ⟨rfl, rfl⟩ := hp
                  exact g_iret cx gr (Nat.zero_le _) (Nat.zero_le _) dX5_copy_109 (xleaf (by rw [sp_copy, if_neg c_1, if_neg c_2, show (nI 1).toNatClampNeg = 1 from rfl, show (nI 2).toNatClampNeg = 2 from rfl, if_neg (ms_0 c_33), if_neg (ms_0 c_34), if_pos c_35, if_pos c_36]; rfl))
                · refine g_aload cx dX5_copy_91 0 rfl ?_
                  refine g_iload cx dX5_copy_93 6 rfl ?_
                  refine g_iload cx dX5_copy_95 7 rfl ?_
                  refine g_Vi (rest := []) (As := [.int o0, .int n0]) (wr := ([0, 1, 2, 3, 4, 5, 6, 7, 8, 9, 10, 11, 12, 13, 14, 15, 16, 17, 18, 19, 20, 21, 22, 23, 26, 27, 28].filterMap (fun i => (xW E a c g)[i]?))) cx hYX1_hasSpan gX5_copy_X1_hasSpan (c_X1_hasSpan l E (fun i => a (24 + i)) (c.2.2.2.2.2.1 2, c.2.2.2.2.2.2.1 2, c.2.2.2.2.2.2.2.1 2) o0 n0 ) rfl rfl rfl [24, 25] [0, 1, 2, 3, 4, 5, 6, 7, 8, 9, 10, 11, 12, 13, 14, 15, 16, 17, 18, 19, 20, 21, 22, 23, 26, 27, 28] rfl rfl rfl rfl (by decide) ⟨Nat.le_of_ble_eq_true rfl, Nat.le_of_ble_eq_true rfl⟩ rfl rfl (Nat.le_of_ble_eq_true rfl) ⟨Nat.le_of_ble_eq_true rfl, Nat.le_of_ble_eq_true rfl⟩ dX5_copy_97 (fun r w1 hp => ?_)
                  obtain ⟨rfl, rfl⟩ := hp
                  refine g_ws (ws' := (xW E a c g)) [0, 1, 2, 3, 4, 5, 6, 7, 8, 9, 10, 11, 12, 13, 14, 15, 16, 17, 18, 19, 20, 21, 22, 23, 27, 28, 24, 25, 26] rfl rfl ?_
                  refine g_if_ne (tgt := 110) cx dX5_copy_100 (by decide) (fun c_37 => ?_) (fun c_37 => ?_)
                  · refine g_aload cx dX5_copy_110 1 rfl ?_
                    refine g_get (C := RX1) (T := TX1) (N := 3) (v := .ref (a 23)) cx iwX5_copy_X1 22 2 rfl rfl (by decide) lkX5_copy_212 rfl dX5_copy_112 ?_
                    refine g_iload_n cx dX5_copy_115 4 rfl ?_
                    refine g_aload cx dX5_copy_116 0 rfl ?_
                    refine g_get (C := RX1) (T := TX1) (N := 3) (v := .ref (a 25)) cx iwX5_copy_X1 24 2 rfl rfl (by decide) lkX5_copy_212 rfl dX5_copy_118 ?_
                    refine g_iload cx dX5_copy_121 6 rfl ?_
                    refine g_iload cx dX5_copy_123 7 rfl ?_
                    have ok1 := hsp_ok c_36 hzs0 hZs0
                    have ok2 := hsp_ok c_37 hzt0 hZt0
                    refine g_copyL (ws' := (xW E a (c.1, c.2.1, c.2.2.1, c.2.2.2.1, c.2.2.2.2.1, c.2.2.2.2.2.1, c.2.2.2.2.2.2.1, upN c.2.2.2.2.2.2.2.1 2 (va_cpy (c.2.2.2.2.2.2.2.1 1) (c.2.2.2.2.2.2.2.1 2) f0.toNatClampNeg o0.toNatClampNeg n0.toNatClampNeg), c.2.2.2.2.2.2.2.2) g)) cx mwX5_copy_ac 23 25 rfl rfl ok1.1 ok2.1 ok1.2.1 ok1.2.2 ok2.2.2 (by decide) (Nat.le_of_ble_eq_true rfl) dX5_copy_125 rfl ?_
                    refine g_iload cx dX5_copy_128 7 rfl ?_
                    exact g_iret cx gr (Nat.zero_le _) (Nat.zero_le _) dX5_copy_130 (xleaf (by rw [sp_copy, if_neg c_1, if_neg c_2, show (nI 1).toNatClampNeg = 1 from rfl, show (nI 2).toNatClampNeg = 2 from rfl, if_neg (ms_0 c_33), if_neg (ms_0 c_34), if_pos c_35, if_neg c_36, if_neg c_37]; rfl))
                  · refine g_aload_n cx dX5_copy_103 2 rfl ?_
                    refine g_ldc cx m1X5_copy_c61 dX5_copy_104 ?_
                    refine g_VSi (rest := []) (As := [.int (-1000000001)]) cx hYX5_finding gX5_copy_X5_finding (c_X5_finding l E a c g (-1000000001) (by unfold vp_in; decide +kernel)) rfl rfl rfl ⟨Nat.le_of_ble_eq_true rfl, Nat.le_of_ble_eq_true rfl⟩ rfl rfl (Nat.le_of_ble_eq_true rfl) ⟨Nat.le_of_ble_eq_true rfl, Nat.le_of_ble_eq_true rfl⟩ dX5_copy_106 (fun r w1 hp => ?_)
                    obtain ⟨rfl, rfl⟩ := hp
                    exact g_iret cx gr (Nat.zero_le _) (Nat.zero_le _) dX5_copy_109 (xleaf (by rw [sp_copy, if_neg c_1, if_neg c_2, show (nI 1).toNatClampNeg = 1 from rfl, show (nI 2).toNatClampNeg = 2 from rfl, if_neg (ms_0 c_33), if_neg (ms_0 c_34), if_pos c_35, if_neg c_36, if_pos c_37]; rfl))
              · refine g_aload_n cx dX5_copy_73 2 rfl ?_
                refine g_ldc cx m1X5_copy_c145 dX5_copy_74 ?_
                refine g_VSi (rest := []) (As := [.int (-1000000003)]) cx hYX5_finding gX5_copy_X5_finding (c_X5_finding l E a c g (-1000000003) (by unfold vp_in; decide +kernel)) rfl rfl rfl ⟨Nat.le_of_ble_eq_true rfl, Nat.le_of_ble_eq_true rfl⟩ rfl rfl (Nat.le_of_ble_eq_true rfl) ⟨Nat.le_of_ble_eq_true rfl, Nat.le_of_ble_eq_true rfl⟩ dX5_copy_76 (fun r w1 hp => ?_)
                obtain ⟨rfl, rfl⟩ := hp
                exact g_iret cx gr (Nat.zero_le _) (Nat.zero_le _) dX5_copy_79 (xleaf (by rw [sp_copy, if_neg c_1, if_neg c_2, show (nI 1).toNatClampNeg = 1 from rfl, show (nI 2).toNatClampNeg = 2 from rfl, if_neg (ms_0 c_33), if_neg (ms_0 c_34), if_neg c_35]; rfl))
            · refine g_aload_n cx dX5_copy_53 2 rfl ?_
              refine g_ldc cx m1X5_copy_c211 dX5_copy_54 ?_
              refine g_VSi (rest := []) (As := [.int (-1000000006)]) cx hYX5_finding gX5_copy_X5_finding (c_X5_finding l E a c g (-1000000006) (by unfold vp_in; decide +kernel)) rfl rfl rfl ⟨Nat.le_of_ble_eq_true rfl, Nat.le_of_ble_eq_true rfl⟩ rfl rfl (Nat.le_of_ble_eq_true rfl) ⟨Nat.le_of_ble_eq_true rfl, Nat.le_of_ble_eq_true rfl⟩ dX5_copy_56 (fun r w1 hp => ?_)
              obtain ⟨rfl, rfl⟩ := hp
              exact g_iret cx gr (Nat.zero_le _) (Nat.zero_le _) dX5_copy_59 (xleaf (by rw [sp_copy, if_neg c_1, if_neg c_2, show (nI 1).toNatClampNeg = 1 from rfl, show (nI 2).toNatClampNeg = 2 from rfl, if_neg (ms_0 c_33), if_pos (ms_1 c_34)]; rfl))
        · refine g_aload_n cx dX5_copy_29 1 rfl ?_
          refine g_get (C := RX5) (T := TX5) (N := 8) (v := .ref (a 19)) cx iwX5_copy_X5 0 6 rfl rfl (by decide) lkX5_copy_44 rfl dX5_copy_30 ?_
          refine g_iload_n cx dX5_copy_33 4 rfl ?_
          refine g_aald (v := a 26) cx 19 rfl rfl (vp_in_nI (by decide) (by decide)) rfl dX5_copy_34 ?_
          refine g_astore (lv' := [(7, .ref (a 26)), (6, .ref (a 22)), (0, .ref (a 0)), (1, .int (nI 1)), (2, .int f0), (3, .int (nI 3)), (4, .int o0), (5, .int n0)]) cx dX5_copy_35 (by decide) rfl ?_
          refine g_aload cx dX5_copy_37 1 rfl ?_
          refine g_Vi (rest := []) (As := []) (wr := ([0, 1, 2, 3, 4, 5, 6, 7, 8, 9, 10, 11, 12, 13, 14, 15, 16, 17, 18, 19, 20, 21, 24, 25, 26, 27, 28].filterMap (fun i => (xW E a c g)[i]?))) cx hYX1_isMissing gX5_copy_X1_isMissing (c_X1_isMissing l E (fun i => a (22 + i)) (c.2.2.2.2.2.1 1, c.2.2.2.2.2.2.1 1, c.2.2.2.2.2.2.2.1 1)  ) rfl rfl rfl [22, 23] [0, 1, 2, 3, 4, 5, 6, 7, 8, 9, 10, 11, 12, 13, 14, 15, 16, 17, 18, 19, 20, 21, 24, 25, 26, 27, 28] rfl rfl rfl rfl (by decide) ⟨Nat.le_of_ble_eq_true rfl, Nat.le_of_ble_eq_true rfl⟩ rfl rfl (Nat.le_of_ble_eq_true rfl) ⟨Nat.le_of_ble_eq_true rfl, Nat.le_of_ble_eq_true rfl⟩ dX5_copy_39 (fun r w1 hp => ?_)
          obtain ⟨rfl, rfl⟩ := hp
          refine g_ws (ws' := (xW E a c g)) [0, 1, 2, 3, 4, 5, 6, 7, 8, 9, 10, 11, 12, 13, 14, 15, 16, 17, 18, 19, 20, 21, 27, 28, 22, 23, 24, 25, 26] rfl rfl ?_
          refine g_if_ne (tgt := 53) cx dX5_copy_42 (by decide) (fun c_38 => ?_) (fun c_38 => ?_)
          · refine g_aload_n cx dX5_copy_53 2 rfl ?_
            refine g_ldc cx m1X5_copy_c211 dX5_copy_54 ?_
            refine g_VSi (rest := []) (As := [.int (-1000000006)]) cx hYX5_finding gX5_copy_X5_finding (c_X5_finding l E a c g (-1000000006) (by unfold vp_in; decide +kernel)) rfl rfl rfl ⟨Nat.le_of_ble_eq_true rfl, Nat.le_of_ble_eq_true rfl⟩ rfl rfl (Nat.le_of_ble_eq_true rfl) ⟨Nat.le_of_ble_eq_true rfl, Nat.le_of_ble_eq_true rfl⟩ dX5_copy_56 (fun r w1 hp => ?_)
            obtain ⟨rfl, rfl⟩ := hp
            exact g_iret cx gr (Nat.zero_le _) (Nat.zero_le _) dX5_copy_59 (xleaf (by rw [sp_copy, if_neg c_1, if_neg c_2, show (nI 1).toNatClampNeg = 1 from rfl, show (nI 3).toNatClampNeg = 3 from rfl, if_pos (ms_1 c_38)]; rfl))
          · refine g_aload cx dX5_copy_45 0 rfl ?_
            refine g_Vi (rest := []) (As := []) (wr := ([0, 1, 2, 3, 4, 5, 6, 7, 8, 9, 10, 11, 12, 13, 14, 15, 16, 17, 18, 19, 20, 21, 22, 23, 24, 25, 28].filterMap (fun i => (xW E a c g)[i]?))) cx hYX1_isMissing gX5_copy_X1_isMissing (c_X1_isMissing l E (fun i => a (26 + i)) (c.2.2.2.2.2.1 3, c.2.2.2.2.2.2.1 3, c.2.2.2.2.2.2.2.1 3)  ) rfl rfl rfl [26, 27] [0, 1, 2, 3, 4, 5, 6, 7, 8, 9, 10, 11, 12, 13, 14, 15, 16, 17, 18, 19, 20, 21, 22, 23, 24, 25, 28] rfl rfl rfl rfl (by decide) ⟨Nat.le_of_ble_eq_true rfl, Nat.le_of_ble_eq_true rfl⟩ rfl rfl (Nat.le_of_ble_eq_true rfl) ⟨Nat.le_of_ble_eq_true rfl, Nat.le_of_ble_eq_true rfl⟩ dX5_copy_47 (fun r w1 hp => ?_)
            obtain ⟨rfl, rfl⟩ := hp
            refine g_ws (ws' := (xW E a c g)) [0, 1, 2, 3, 4, 5, 6, 7, 8, 9, 10, 11, 12, 13, 14, 15, 16, 17, 18, 19, 20, 21, 22, 23, 24, 25, 27, 28, 26] rfl rfl ?_
            refine g_if_eq (tgt := 60) cx dX5_copy_50 (by decide) (fun c_39 => ?_) (fun c_39 => ?_)
            · refine g_aload cx dX5_copy_60 1 rfl ?_
              refine g_get (C := RX1) (T := TX1) (N := 3) (v := .int (c.2.2.2.2.2.1 1)) cx iwX5_copy_X1 22 0 rfl rfl (by decide) lkX5_copy_220 rfl dX5_copy_62 ?_
              refine g_aload cx dX5_copy_65 0 rfl ?_
              refine g_get (C := RX1) (T := TX1) (N := 3) (v := .int (c.2.2.2.2.2.1 3)) cx iwX5_copy_X1 26 0 rfl rfl (by decide) lkX5_copy_220 rfl dX5_copy_67 ?_
              refine g_icmp_eq (tgt := 80) cx dX5_copy_70 (by decide) (fun c_40 => ?_) (fun c_40 => ?_)
              · obtain ⟨Zs0, hZs0, hzs0⟩ := sz_nI (j := 1) hok (by decide)
                obtain ⟨Zt0, hZt0, hzt0⟩ := sz_nI (j := 3) hok (by decide)
                refine g_aload cx dX5_copy_80 1 rfl ?_
                refine g_iload_n cx dX5_copy_82 4 rfl ?_
                refine g_iload cx dX5_copy_83 7 rfl ?_
                refine g_Vi (rest := []) (As := [.int f0, .int n0]) (wr := ([0, 1, 2, 3, 4, 5, 6, 7, 8, 9, 10, 11, 12, 13, 14, 15, 16, 17, 18, 19, 20, 21, 24, 25, 26, 27, 28].filterMap (fun i => (xW E a c g)[i]?))) cx hYX1_hasSpan gX5_copy_X1_hasSpan (c_X1_hasSpan l E (fun i => a (22 + i)) (c.2.2.2.2.2.1 1, c.2.2.2.2.2.2.1 1, c.2.2.2.2.2.2.2.1 1) f0 n0 ) rfl rfl rfl [22, 23] [0, 1, 2, 3, 4, 5, 6, 7, 8, 9, 10, 11, 12, 13, 14, 15, 16, 17, 18, 19, 20, 21, 24, 25, 26, 27, 28] rfl rfl rfl rfl (by decide) ⟨Nat.le_of_ble_eq_true rfl, Nat.le_of_ble_eq_true rfl⟩ rfl rfl (Nat.le_of_ble_eq_true rfl) ⟨Nat.le_of_ble_eq_true rfl, Nat.le_of_ble_eq_true rfl⟩ dX5_copy_85 (fun r w1 hp => ?_)
                obtain ⟨rfl, rfl⟩ := hp
                refine g_ws (ws' := (xW E a c g)) [0, 1, 2, 3, 4, 5, 6, 7, 8, 9, 10, 11, 12, 13, 14, 15, 16, 17, 18, 19, 20, 21, 27, 28, 22, 23, 24, 25, 26] rfl rfl ?_
                refine g_if_eq (tgt := 103) cx dX5_copy_88 (by decide) (fun c_41 => ?_) (fun c_41 => ?_)
                · refine g_aload_n cx dX5_copy_103 2 rfl ?_
                  refine g_ldc cx m1X5_copy_c61 dX5_copy_104 ?_
                  refine g_VSi (rest := []) (As := [.int (-1000000001)]) cx hYX5_finding gX5_copy_X5_finding (c_X5_finding l E a c g (-1000000001) (by unfold vp_in; decide +kernel)) rfl rfl rfl ⟨Nat.le_of_ble_eq_true rfl, Nat.le_of_ble_eq_true rfl⟩ rfl rfl (Nat.le_of_ble_eq_true rfl) ⟨Nat.le_of_ble_eq_true rfl, Nat.le_of_ble_eq_true rfl⟩ dX5_copy_106 (fun r w1 hp => ?_)
                  obtain ⟨rfl, rfl⟩ := hp
                  exact g_iret cx gr (Nat.zero_le _) (Nat.zero_le _) dX5_copy_109 (xleaf (by rw [sp_copy, if_neg c_1, if_neg c_2, show (nI 1).toNatClampNeg = 1 from rfl, show (nI 3).toNatClampNeg = 3 from rfl, if_neg (ms_0 c_38), if_neg (ms_0 c_39), if_pos c_40, if_pos c_41]; rfl))
                · refine g_aload cx dX5_copy_91 0 rfl ?_
                  refine g_iload cx dX5_copy_93 6 rfl ?_
                  refine g_iload cx dX5_copy_95 7 rfl ?_
                  refine g_Vi (rest := []) (As := [.int o0, .int n0]) (wr := ([0, 1, 2, 3, 4, 5, 6, 7, 8, 9, 10, 11, 12, 13, 14, 15, 16, 17, 18, 19, 20, 21, 22, 23, 24, 25, 28].filterMap (fun i => (xW E a c g)[i]?))) cx hYX1_hasSpan gX5_copy_X1_hasSpan (c_X1_hasSpan l E (fun i => a (26 + i)) (c.2.2.2.2.2.1 3, c.2.2.2.2.2.2.1 3, c.2.2.2.2.2.2.2.1 3) o0 n0 ) rfl rfl rfl [26, 27] [0, 1, 2, 3, 4, 5, 6, 7, 8, 9, 10, 11, 12, 13, 14, 15, 16, 17, 18, 19, 20, 21, 22, 23, 24, 25, 28] rfl rfl rfl rfl (by decide) ⟨Nat.le_of_ble_eq_true rfl, Nat.le_of_ble_eq_true rfl⟩ rfl rfl (Nat.le_of_ble_eq_true rfl) ⟨Nat.le_of_ble_eq_true rfl, Nat.le_of_ble_eq_true rfl⟩ dX5_copy_97 (fun r w1 hp => ?_)
                  obtain ⟨rfl, rfl⟩ := hp
                  refine g_ws (ws' := (xW E a c g)) [0, 1, 2, 3, 4, 5, 6, 7, 8, 9, 10, 11, 12, 13, 14, 15, 16, 17, 18, 19, 20, 21, 22, 23, 24, 25, 27, 28, 26] rfl rfl ?_
                  refine g_if_ne (tgt := 110) cx dX5_copy_100 (by decide) (fun c_42 => ?_) (fun c_42 => ?_)
                  · refine g_aload cx dX5_copy_110 1 rfl ?_
                    refine g_get (C := RX1) (T := TX1) (N := 3) (v := .ref (a 23)) cx iwX5_copy_X1 22 2 rfl rfl (by decide) lkX5_copy_212 rfl dX5_copy_112 ?_
                    refine g_iload_n cx dX5_copy_115 4 rfl ?_
                    refine g_aload cx dX5_copy_116 0 rfl ?_
                    refine g_get (C := RX1) (T := TX1) (N := 3) (v := .ref (a 27)) cx iwX5_copy_X1 26 2 rfl rfl (by decide) lkX5_copy_212 rfl dX5_copy_118 ?_
                    refine g_iload cx dX5_copy_121 6 rfl ?_
                    refine g_iload cx dX5_copy_123 7 rfl ?_
                    have ok1 := hsp_ok c_41 hzs0 hZs0
                    have ok2 := hsp_ok c_42 hzt0 hZt0
                    refine g_copyL (ws' := (xW E a (c.1, c.2.1, c.2.2.1, c.2.2.2.1, c.2.2.2.2.1, c.2.2.2.2.2.1, c.2.2.2.2.2.2.1, upN c.2.2.2.2.2.2.2.1 3 (va_cpy (c.2.2.2.2.2.2.2.1 1) (c.2.2.2.2.2.2.2.1 3) f0.toNatClampNeg o0.toNatClampNeg n0.toNatClampNeg), c.2.2.2.2.2.2.2.2) g)) cx mwX5_copy_ac 23 27 rfl rfl ok1.1 ok2.1 ok1.2.1 ok1.2.2 ok2.2.2 (by decide) (Nat.le_of_ble_eq_true rfl) dX5_copy_125 rfl ?_
                    refine g_iload cx dX5_copy_128 7 rfl ?_
                    exact g_iret cx gr (Nat.zero_le _) (Nat.zero_le _) dX5_copy_130 (xleaf (by rw [sp_copy, if_neg c_1, if_neg c_2, show (nI 1).toNatClampNeg = 1 from rfl, show (nI 3).toNatClampNeg = 3 from rfl, if_neg (ms_0 c_38), if_neg (ms_0 c_39), if_pos c_40, if_neg c_41, if_neg c_42]; rfl))
                  · refine g_aload_n cx dX5_copy_103 2 rfl ?_
                    refine g_ldc cx m1X5_copy_c61 dX5_copy_104 ?_
                    refine g_VSi (rest := []) (As := [.int (-1000000001)]) cx hYX5_finding gX5_copy_X5_finding (c_X5_finding l E a c g (-1000000001) (by unfold vp_in; decide +kernel)) rfl rfl rfl ⟨Nat.le_of_ble_eq_true rfl, Nat.le_of_ble_eq_true rfl⟩ rfl rfl (Nat.le_of_ble_eq_true rfl) ⟨Nat.le_of_ble_eq_true rfl, Nat.le_of_ble_eq_true rfl⟩ dX5_copy_106 (fun r w1 hp => ?_)
                    obtain ⟨rfl, rfl⟩ := hp
                    exact g_iret cx gr (Nat.zero_le _) (Nat.zero_le _) dX5_copy_109 (xleaf (by rw [sp_copy, if_neg c_1, if_neg c_2, show (nI 1).toNatClampNeg = 1 from rfl, show (nI 3).toNatClampNeg = 3 from rfl, if_neg (ms_0 c_38), if_neg (ms_0 c_39), if_pos c_40, if_neg c_41, if_pos c_42]; rfl))
              · refine g_aload_n cx dX5_copy_73 2 rfl ?_
                refine g_ldc cx m1X5_copy_c145 dX5_copy_74 ?_
                refine g_VSi (rest := []) (As := [.int (-1000000003)]) cx hYX5_finding gX5_copy_X5_finding (c_X5_finding l E a c g (-1000000003) (by unfold vp_in; decide +kernel)) rfl rfl rfl ⟨Nat.le_of_ble_eq_true rfl, Nat.le_of_ble_eq_true rfl⟩ rfl rfl (Nat.le_of_ble_eq_true rfl) ⟨Nat.le_of_ble_eq_true rfl, Nat.le_of_ble_eq_true rfl⟩ dX5_copy_76 (fun r w1 hp => ?_)
                obtain ⟨rfl, rfl⟩ := hp
                exact g_iret cx gr (Nat.zero_le _) (Nat.zero_le _) dX5_copy_79 (xleaf (by rw [sp_copy, if_neg c_1, if_neg c_2, show (nI 1).toNatClampNeg = 1 from rfl, show (nI 3).toNatClampNeg = 3 from rfl, if_neg (ms_0 c_38), if_neg (ms_0 c_39), if_neg c_40]; rfl))
            · refine g_aload_n cx dX5_copy_53 2 rfl ?_
              refine g_ldc cx m1X5_copy_c211 dX5_copy_54 ?_
              refine g_VSi (rest := []) (As := [.int (-1000000006)]) cx hYX5_finding gX5_copy_X5_finding (c_X5_finding l E a c g (-1000000006) (by unfold vp_in; decide +kernel)) rfl rfl rfl ⟨Nat.le_of_ble_eq_true rfl, Nat.le_of_ble_eq_true rfl⟩ rfl rfl (Nat.le_of_ble_eq_true rfl) ⟨Nat.le_of_ble_eq_true rfl, Nat.le_of_ble_eq_true rfl⟩ dX5_copy_56 (fun r w1 hp => ?_)
              obtain ⟨rfl, rfl⟩ := hp
              exact g_iret cx gr (Nat.zero_le _) (Nat.zero_le _) dX5_copy_59 (xleaf (by rw [sp_copy, if_neg c_1, if_neg c_2, show (nI 1).toNatClampNeg = 1 from rfl, show (nI 3).toNatClampNeg = 3 from rfl, if_neg (ms_0 c_38), if_pos (ms_1 c_39)]; rfl))
      · refine g_aload_n cx dX5_copy_21 0 rfl ?_
        refine g_get (C := RX5) (T := TX5) (N := 8) (v := .ref (a 19)) cx iwX5_copy_X5 0 6 rfl rfl (by decide) lkX5_copy_44 rfl dX5_copy_22 ?_
        refine g_iload_n cx dX5_copy_25 1 rfl ?_
        refine g_aald (v := a 24) cx 19 rfl rfl (vp_in_nI (by decide) (by decide)) rfl dX5_copy_26 ?_
        refine g_astore (lv' := [(6, .ref (a 24)), (0, .ref (a 0)), (1, .int (nI 2)), (2, .int f0), (3, .int t0), (4, .int o0), (5, .int n0)]) cx dX5_copy_27 (by decide) rfl ?_
        obtain ⟨jt0, hjt0, rfl⟩ := isW_nI 3 c_2 (by decide)
        rcases (show jt0 = 0 ∨ jt0 = 1 ∨ jt0 = 2 ∨ jt0 = 3 by omega) with rfl | rfl | rfl | rfl
        · refine g_aload_n cx dX5_copy_29 1 rfl ?_
          refine g_get (C := RX5) (T := TX5) (N := 8) (v := .ref (a 19)) cx iwX5_copy_X5 0 6 rfl rfl (by decide) lkX5_copy_44 rfl dX5_copy_30 ?_
          refine g_iload_n cx dX5_copy_33 4 rfl ?_
          refine g_aald (v := a 20) cx 19 rfl rfl (vp_in_nI (by decide) (by decide)) rfl dX5_copy_34 ?_
          refine g_astore (lv' := [(7, .ref (a 20)), (6, .ref (a 24)), (0, .ref (a 0)), (1, .int (nI 2)), (2, .int f0), (3, .int (nI 0)), (4, .int o0), (5, .int n0)]) cx dX5_copy_35 (by decide) rfl ?_
          refine g_aload cx dX5_copy_37 1 rfl ?_
          refine g_Vi (rest := []) (As := []) (wr := ([0, 1, 2, 3, 4, 5, 6, 7, 8, 9, 10, 11, 12, 13, 14, 15, 16, 17, 18, 19, 20, 21, 22, 23, 26, 27, 28].filterMap (fun i => (xW E a c g)[i]?))) cx hYX1_isMissing gX5_copy_X1_isMissing (c_X1_isMissing l E (fun i => a (24 + i)) (c.2.2.2.2.2.1 2, c.2.2.2.2.2.2.1 2, c.2.2.2.2.2.2.2.1 2)  ) rfl rfl rfl [24, 25] [0, 1, 2, 3, 4, 5, 6, 7, 8, 9, 10, 11, 12, 13, 14, 15, 16, 17, 18, 19, 20, 21, 22, 23, 26, 27, 28] rfl rfl rfl rfl (by decide) ⟨Nat.le_of_ble_eq_true rfl, Nat.le_of_ble_eq_true rfl⟩ rfl rfl (Nat.le_of_ble_eq_true rfl) ⟨Nat.le_of_ble_eq_true rfl, Nat.le_of_ble_eq_true rfl⟩ dX5_copy_39 (fun r w1 hp => ?_)
          obtain ⟨rfl, rfl⟩ := hp
          refine g_ws (ws' := (xW E a c g)) [0, 1, 2, 3, 4, 5, 6, 7, 8, 9, 10, 11, 12, 13, 14, 15, 16, 17, 18, 19, 20, 21, 22, 23, 27, 28, 24, 25, 26] rfl rfl ?_
          refine g_if_ne (tgt := 53) cx dX5_copy_42 (by decide) (fun c_43 => ?_) (fun c_43 => ?_)
          · refine g_aload_n cx dX5_copy_53 2 rfl ?_
            refine g_ldc cx m1X5_copy_c211 dX5_copy_54 ?_
            refine g_VSi (rest := []) (As := [.int (-1000000006)]) cx hYX5_finding gX5_copy_X5_finding (c_X5_finding l E a c g (-1000000006) (by unfold vp_in; decide +kernel)) rfl rfl rfl ⟨Nat.le_of_ble_eq_true rfl, Nat.le_of_ble_eq_true rfl⟩ rfl rfl (Nat.le_of_ble_eq_true rfl) ⟨Nat.le_of_ble_eq_true rfl, Nat.le_of_ble_eq_true rfl⟩ dX5_copy_56 (fun r w1 hp => ?_)
            obtain ⟨rfl, rfl⟩ := hp
            exact g_iret cx gr (Nat.zero_le _) (Nat.zero_le _) dX5_copy_59 (xleaf (by rw [sp_copy, if_neg c_1, if_neg c_2, show (nI 2).toNatClampNeg = 2 from rfl, show (nI 0).toNatClampNeg = 0 from rfl, if_pos (ms_1 c_43)]; rfl))
          · refine g_aload cx dX5_copy_45 0 rfl ?_
            refine g_Vi (rest := []) (As := []) (wr := ([0, 1, 2, 3, 4, 5, 6, 7, 8, 9, 10, 11, 12, 13, 14, 15, 16, 17, 18, 19, 22, 23, 24, 25, 26, 27, 28].filterMap (fun i => (xW E a c g)[i]?))) cx hYX1_isMissing gX5_copy_X1_isMissing (c_X1_isMissing l E (fun i => a (20 + i)) (c.2.2.2.2.2.1 0, c.2.2.2.2.2.2.1 0, c.2.2.2.2.2.2.2.1 0)  ) rfl rfl rfl [20, 21] [0, 1, 2, 3, 4, 5, 6, 7, 8, 9, 10, 11, 12, 13, 14, 15, 16, 17, 18, 19, 22, 23, 24, 25, 26, 27, 28] rfl rfl rfl rfl (by decide) ⟨Nat.le_of_ble_eq_true rfl, Nat.le_of_ble_eq_true rfl⟩ rfl rfl (Nat.le_of_ble_eq_true rfl) ⟨Nat.le_of_ble_eq_true rfl, Nat.le_of_ble_eq_true rfl⟩ dX5_copy_47 (fun r w1 hp => ?_)
            obtain ⟨rfl, rfl⟩ := hp
            refine g_ws (ws' := (xW E a c g)) [0, 1, 2, 3, 4, 5, 6, 7, 8, 9, 10, 11, 12, 13, 14, 15, 16, 17, 18, 19, 27, 28, 20, 21, 22, 23, 24, 25, 26] rfl rfl ?_
            refine g_if_eq (tgt := 60) cx dX5_copy_50 (by decide) (fun c_44 => ?_) (fun c_44 => ?_)
            · refine g_aload cx dX5_copy_60 1 rfl ?_
              refine g_get (C := RX1) (T := TX1) (N := 3) (v := .int (c.2.2.2.2.2.1 2)) cx iwX5_copy_X1 24 0 rfl rfl (by decide) lkX5_copy_220 rfl dX5_copy_62 ?_
              refine g_aload cx dX5_copy_65 0 rfl ?_
              refine g_get (C := RX1) (T := TX1) (N := 3) (v := .int (c.2.2.2.2.2.1 0)) cx iwX5_copy_X1 20 0 rfl rfl (by decide) lkX5_copy_220 rfl dX5_copy_67 ?_
              refine g_icmp_eq (tgt := 80) cx dX5_copy_70 (by decide) (fun c_45 => ?_) (fun c_45 => ?_)
              · obtain ⟨Zs0, hZs0, hzs0⟩ := sz_nI (j := 2) hok (by decide)
                obtain ⟨Zt0, hZt0, hzt0⟩ := sz_nI (j := 0) hok (by decide)
                refine g_aload cx dX5_copy_80 1 rfl ?_
                refine g_iload_n cx dX5_copy_82 4 rfl ?_
                refine g_iload cx dX5_copy_83 7 rfl ?_
                refine g_Vi (rest := []) (As := [.int f0, .int n0]) (wr := ([0, 1, 2, 3, 4, 5, 6, 7, 8, 9, 10, 11, 12, 13, 14, 15, 16, 17, 18, 19, 20, 21, 22, 23, 26, 27, 28].filterMap (fun i => (xW E a c g)[i]?))) cx hYX1_hasSpan gX5_copy_X1_hasSpan (c_X1_hasSpan l E (fun i => a (24 + i)) (c.2.2.2.2.2.1 2, c.2.2.2.2.2.2.1 2, c.2.2.2.2.2.2.2.1 2) f0 n0 ) rfl rfl rfl [24, 25] [0, 1, 2, 3, 4, 5, 6, 7, 8, 9, 10, 11, 12, 13, 14, 15, 16, 17, 18, 19, 20, 21, 22, 23, 26, 27, 28] rfl rfl rfl rfl (by decide) ⟨Nat.le_of_ble_eq_true rfl, Nat.le_of_ble_eq_true rfl⟩ rfl rfl (Nat.le_of_ble_eq_true rfl) ⟨Nat.le_of_ble_eq_true rfl, Nat.le_of_ble_eq_true rfl⟩ dX5_copy_85 (fun r w1 hp => ?_)
                obtain ⟨rfl, rfl⟩ := hp
                refine g_ws (ws' := (xW E a c g)) [0, 1, 2, 3, 4, 5, 6, 7, 8, 9, 10, 11, 12, 13, 14, 15, 16, 17, 18, 19, 20, 21, 22, 23, 27, 28, 24, 25, 26] rfl rfl ?_
                refine g_if_eq (tgt := 103) cx dX5_copy_88 (by decide) (fun c_46 => ?_) (fun c_46 => ?_)
                · refine g_aload_n cx dX5_copy_103 2 rfl ?_
                  refine g_ldc cx m1X5_copy_c61 dX5_copy_104 ?_
                  refine g_VSi (rest := []) (As := [.int (-1000000001)]) cx hYX5_finding gX5_copy_X5_finding (c_X5_finding l E a c g (-1000000001) (by unfold vp_in; decide +kernel)) rfl rfl rfl ⟨Nat.le_of_ble_eq_true rfl, Nat.le_of_ble_eq_true rfl⟩ rfl rfl (Nat.le_of_ble_eq_true rfl) ⟨Nat.le_of_ble_eq_true rfl, Nat.le_of_ble_eq_true rfl⟩ dX5_copy_106 (fun r w1 hp => ?_)
                  obtain ⟨rfl, rfl⟩ := hp
                  exact g_iret cx gr (Nat.zero_le _) (Nat.zero_le _) dX5_copy_109 (xleaf (by rw [sp_copy, if_neg c_1, if_neg c_2, show (nI 2).toNatClampNeg = 2 from rfl, show (nI 0).toNatClampNeg = 0 from rfl, if_neg (ms_0 c_43), if_neg (ms_0 c_44), if_pos c_45, if_pos c_46]; rfl))
                · refine g_aload cx dX5_copy_91 0 rfl ?_
                  refine g_iload cx dX5_copy_93 6 rfl ?_
                  refine g_iload cx dX5_copy_95 7 rfl ?_
                  refine g_Vi (rest := []) (As := [.int o0, .int n0]) (wr := ([0, 1, 2, 3, 4, 5, 6, 7, 8, 9, 10, 11, 12, 13, 14, 15, 16, 17, 18, 19, 22, 23, 24, 25, 26, 27, 28].filterMap (fun i => (xW E a c g)[i]?))) cx hYX1_hasSpan gX5_copy_X1_hasSpan (c_X1_hasSpan l E (fun i => a (20 + i)) (c.2.2.2.2.2.1 0, c.2.2.2.2.2.2.1 0, c.2.2.2.2.2.2.2.1 0) o0 n0 ) rfl rfl rfl [20, 21] [0, 1, 2, 3, 4, 5, 6, 7, 8, 9, 10, 11, 12, 13, 14, 15, 16, 17, 18, 19, 22, 23, 24, 25, 26, 27, 28] rfl rfl rfl rfl (by decide) ⟨Nat.le_of_ble_eq_true rfl, Nat.le_of_ble_eq_true rfl⟩ rfl rfl (Nat.le_of_ble_eq_true rfl) ⟨Nat.le_of_ble_eq_true rfl, Nat.le_of_ble_eq_true rfl⟩ dX5_copy_97 (fun r w1 hp => ?_)
                  obtain ⟨rfl, rfl⟩ := hp
                  refine g_ws (ws' := (xW E a c g)) [0, 1, 2, 3, 4, 5, 6, 7, 8, 9, 10, 11, 12, 13, 14, 15, 16, 17, 18, 19, 27, 28, 20, 21, 22, 23, 24, 25, 26] rfl rfl ?_
                  refine g_if_ne (tgt := 110) cx dX5_copy_100 (by decide) (fun c_47 => ?_) (fun c_47 => ?_)
                  · refine g_aload cx dX5_copy_110 1 rfl ?_
                    refine g_get (C := RX1) (T := TX1) (N := 3) (v := .ref (a 25)) cx iwX5_copy_X1 24 2 rfl rfl (by decide) lkX5_copy_212 rfl dX5_copy_112 ?_
                    refine g_iload_n cx dX5_copy_115 4 rfl ?_
                    refine g_aload cx dX5_copy_116 0 rfl ?_
                    refine g_get (C := RX1) (T := TX1) (N := 3) (v := .ref (a 21)) cx iwX5_copy_X1 20 2 rfl rfl (by decide) lkX5_copy_212 rfl dX5_copy_118 ?_
                    refine g_iload cx dX5_copy_121 6 rfl ?_
                    refine g_iload cx dX5_copy_123 7 rfl ?_
                    have ok1 := hsp_ok c_46 hzs0 hZs0
                    have ok2 := hsp_ok c_47 hzt0 hZt0
                    refine g_copyL (ws' := (xW E a (c.1, c.2.1, c.2.2.1, c.2.2.2.1, c.2.2.2.2.1, c.2.2.2.2.2.1, c.2.2.2.2.2.2.1, upN c.2.2.2.2.2.2.2.1 0 (va_cpy (c.2.2.2.2.2.2.2.1 2) (c.2.2.2.2.2.2.2.1 0) f0.toNatClampNeg o0.toNatClampNeg n0.toNatClampNeg), c.2.2.2.2.2.2.2.2) g)) cx mwX5_copy_ac 25 21 rfl rfl ok1.1 ok2.1 ok1.2.1 ok1.2.2 ok2.2.2 (by decide) (Nat.le_of_ble_eq_true rfl) dX5_copy_125 rfl ?_
                    refine g_iload cx dX5_copy_128 7 rfl ?_
                    exact g_iret cx gr (Nat.zero_le _) (Nat.zero_le _) dX5_copy_130 (xleaf (by rw [sp_copy, if_neg c_1, if_neg c_2, show (nI 2).toNatClampNeg = 2 from rfl, show (nI 0).toNatClampNeg = 0 from rfl, if_neg (ms_0 c_43), if_neg (ms_0 c_44), if_pos c_45, if_neg c_46, if_neg c_47]; rfl))
                  · refine g_aload_n cx dX5_copy_103 2 rfl ?_
                    refine g_ldc cx m1X5_copy_c61 dX5_copy_104 ?_
                    refine g_VSi (rest := []) (As := [.int (-1000000001)]) cx hYX5_finding gX5_copy_X5_finding (c_X5_finding l E a c g (-1000000001) (by unfold vp_in; decide +kernel)) rfl rfl rfl ⟨Nat.le_of_ble_eq_true rfl, Nat.le_of_ble_eq_true rfl⟩ rfl rfl (Nat.le_of_ble_eq_true rfl) ⟨Nat.le_of_ble_eq_true rfl, Nat.le_of_ble_eq_true rfl⟩ dX5_copy_106 (fun r w1 hp => ?_)
                    obtain ⟨rfl, rfl⟩ := hp
                    exact g_iret cx gr (Nat.zero_le _) (Nat.zero_le _) dX5_copy_109 (xleaf (by rw [sp_copy, if_neg c_1, if_neg c_2, show (nI 2).toNatClampNeg = 2 from rfl, show (nI 0).toNatClampNeg = 0 from rfl, if_neg (ms_0 c_43), if_neg (ms_0 c_44), if_pos c_45, if_neg c_46, if_pos c_47]; rfl))
              · refine g_aload_n cx dX5_copy_73 2 rfl ?_
                refine g_ldc cx m1X5_copy_c145 dX5_copy_74 ?_
                refine g_VSi (rest := []) (As := [.int (-1000000003)]) cx hYX5_finding gX5_copy_X5_finding (c_X5_finding l E a c g (-1000000003) (by unfold vp_in; decide +kernel)) rfl rfl rfl ⟨Nat.le_of_ble_eq_true rfl, Nat.le_of_ble_eq_true rfl⟩ rfl rfl (Nat.le_of_ble_eq_true rfl) ⟨Nat.le_of_ble_eq_true rfl, Nat.le_of_ble_eq_true rfl⟩ dX5_copy_76 (fun r w1 hp => ?_)
                obtain ⟨rfl, rfl⟩ := hp
                exact g_iret cx gr (Nat.zero_le _) (Nat.zero_le _) dX5_copy_79 (xleaf (by rw [sp_copy, if_neg c_1, if_neg c_2, show (nI 2).toNatClampNeg = 2 from rfl, show (nI 0).toNatClampNeg = 0 from rfl, if_neg (ms_0 c_43), if_neg (ms_0 c_44), if_neg c_45]; rfl))
            · refine g_aload_n cx dX5_copy_53 2 rfl ?_
              refine g_ldc cx m1X5_copy_c211 dX5_copy_54 ?_
              refine g_VSi (rest := []) (As := [.int (-1000000006)]) cx hYX5_finding gX5_copy_X5_finding (c_X5_finding l E a c g (-1000000006) (by unfold vp_in; decide +kernel)) rfl rfl rfl ⟨Nat.le_of_ble_eq_true rfl, Nat.le_of_ble_eq_true rfl⟩ rfl rfl (Nat.le_of_ble_eq_true rfl) ⟨Nat.le_of_ble_eq_true rfl, Nat.le_of_ble_eq_true rfl⟩ dX5_copy_56 (fun r w1 hp => ?_)
              obtain ⟨rfl, rfl⟩ := hp
              exact g_iret cx gr (Nat.zero_le _) (Nat.zero_le _) dX5_copy_59 (xleaf (by rw [sp_copy, if_neg c_1, if_neg c_2, show (nI 2).toNatClampNeg = 2 from rfl, show (nI 0).toNatClampNeg = 0 from rfl, if_neg (ms_0 c_43), if_pos (ms_1 c_44)]; rfl))
        · refine g_aload_n cx dX5_copy_29 1 rfl ?_
          refine g_get (C := RX5) (T := TX5) (N := 8) (v := .ref (a 19)) cx iwX5_copy_X5 0 6 rfl rfl (by decide) lkX5_copy_44 rfl dX5_copy_30 ?_
          refine g_iload_n cx dX5_copy_33 4 rfl ?_
          refine g_aald (v := a 22) cx 19 rfl rfl (vp_in_nI (by decide) (by decide)) rfl dX5_copy_34 ?_
          refine g_astore (lv' := [(7, .ref (a 22)), (6, .ref (a 24)), (0, .ref (a 0)), (1, .int (nI 2)), (2, .int f0), (3, .int (nI 1)), (4, .int o0), (5, .int n0)]) cx dX5_copy_35 (by decide) rfl ?_
          refine g_aload cx dX5_copy_37 1 rfl ?_
          refine g_Vi (rest := []) (As := []) (wr := ([0, 1, 2, 3, 4, 5, 6, 7, 8, 9, 10, 11, 12, 13, 14, 15, 16, 17, 18, 19, 20, 21, 22, 23, 26, 27, 28].filterMap (fun i => (xW E a c g)[i]?))) cx hYX1_isMissing gX5_copy_X1_isMissing (c_X1_isMissing l E (fun i => a (24 + i)) (c.2.2.2.2.2.1 2, c.2.2.2.2.2.2.1 2, c.2.2.2.2.2.2.2.1 2)  ) rfl rfl rfl [24, 25] [0, 1, 2, 3, 4, 5, 6, 7, 8, 9, 10, 11, 12, 13, 14, 15, 16, 17, 18, 19, 20, 21, 22, 23, 26, 27, 28] rfl rfl rfl rfl (by decide) ⟨Nat.le_of_ble_eq_true rfl, Nat.le_of_ble_eq_true rfl⟩ rfl rfl (Nat.le_of_ble_eq_true rfl) ⟨Nat.le_of_ble_eq_true rfl, Nat.le_of_ble_eq_true rfl⟩ dX5_copy_39 (fun r w1 hp => ?_)
          obtain ⟨rfl, rfl⟩ := hp
          refine g_ws (ws' := (xW E a c g)) [0, 1, 2, 3, 4, 5, 6, 7, 8, 9, 10, 11, 12, 13, 14, 15, 16, 17, 18, 19, 20, 21, 22, 23, 27, 28, 24, 25, 26] rfl rfl ?_
          refine g_if_ne (tgt := 53) cx dX5_copy_42 (by decide) (fun c_48 => ?_) (fun c_48 => ?_)
          · refine g_aload_n cx dX5_copy_53 2 rfl ?_
            refine g_ldc cx m1X5_copy_c211 dX5_copy_54 ?_
            refine g_VSi (rest := []) (As := [.int (-1000000006)]) cx hYX5_finding gX5_copy_X5_finding (c_X5_finding l E a c g (-1000000006) (by unfold vp_in; decide +kernel)) rfl rfl rfl ⟨Nat.le_of_ble_eq_true rfl, Nat.le_of_ble_eq_true rfl⟩ rfl rfl (Nat.le_of_ble_eq_true rfl) ⟨Nat.le_of_ble_eq_true rfl, Nat.le_of_ble_eq_true rfl⟩ dX5_copy_56 (fun r w1 hp => ?_)
            obtain ⟨rfl, rfl⟩ := hp
            exact g_iret cx gr (Nat.zero_le _) (Nat.zero_le _) dX5_copy_59 (xleaf (by rw [sp_copy, if_neg c_1, if_neg c_2, show (nI 2).toNatClampNeg = 2 from rfl, show (nI 1).toNatClampNeg = 1 from rfl, if_pos (ms_1 c_48)]; rfl))
          · refine g_aload cx dX5_copy_45 0 rfl ?_
            refine g_Vi (rest := []) (As := []) (wr := ([0, 1, 2, 3, 4, 5, 6, 7, 8, 9, 10, 11, 12, 13, 14, 15, 16, 17, 18, 19, 20, 21, 24, 25, 26, 27, 28].filterMap (fun i => (xW E a c g)[i]?))) cx hYX1_isMissing gX5_copy_X1_isMissing (c_X1_isMissing l E (fun i => a (22 + i)) (c.2.2.2.2.2.1 1, c.2.2.2.2.2.2.1 1, c.2.2.2.2.2.2.2.1 1)  ) rfl rfl rfl [22, 23] [0, 1, 2, 3, 4, 5, 6, 7, 8, 9, 10, 11, 12, 13, 14, 15, 16, 17, 18, 19, 20, 21, 24, 25, 26, 27, 28] rfl rfl rfl rfl (by decide) ⟨Nat.le_of_ble_eq_true rfl, Nat.le_of_ble_eq_true rfl⟩ rfl rfl (Nat.le_of_ble_eq_true rfl) ⟨Nat.le_of_ble_eq_true rfl, Nat.le_of_ble_eq_true rfl⟩ dX5_copy_47 (fun r w1 hp => ?_)
            obtain ⟨rfl, rfl⟩ := hp
            refine g_ws (ws' := (xW E a c g)) [0, 1, 2, 3, 4, 5, 6, 7, 8, 9, 10, 11, 12, 13, 14, 15, 16, 17, 18, 19, 20, 21, 27, 28, 22, 23, 24, 25, 26] rfl rfl ?_
            refine g_if_eq (tgt := 60) cx dX5_copy_50 (by decide) (fun c_49 => ?_) (fun c_49 => ?_)
            · refine g_aload cx dX5_copy_60 1 rfl ?_
              refine g_get (C := RX1) (T := TX1) (N := 3) (v := .int (c.2.2.2.2.2.1 2)) cx iwX5_copy_X1 24 0 rfl rfl (by decide) lkX5_copy_220 rfl dX5_copy_62 ?_
              refine g_aload cx dX5_copy_65 0 rfl ?_
              refine g_get (C := RX1) (T := TX1) (N := 3) (v := .int (c.2.2.2.2.2.1 1)) cx iwX5_copy_X1 22 0 rfl rfl (by decide) lkX5_copy_220 rfl dX5_copy_67 ?_
              refine g_icmp_eq (tgt := 80) cx dX5_copy_70 (by decide) (fun c_50 => ?_) (fun c_50 => ?_)
              · obtain ⟨Zs0, hZs0, hzs0⟩ := sz_nI (j := 2) hok (by decide)
                obtain ⟨Zt0, hZt0, hzt0⟩ := sz_nI (j := 1) hok (by decide)
                refine g_aload cx dX5_copy_80 1 rfl ?_
                refine g_iload_n cx dX5_copy_82 4 rfl ?_
                refine g_iload cx dX5_copy_83 7 rfl ?_
                refine g_Vi (rest := []) (As := [.int f0, .int n0]) (wr := ([0, 1, 2, 3, 4, 5, 6, 7, 8, 9, 10, 11, 12, 13, 14, 15, 16, 17, 18, 19, 20, 21, 22, 23, 26, 27, 28].filterMap (fun i => (xW E a c g)[i]?))) cx hYX1_hasSpan gX5_copy_X1_hasSpan (c_X1_hasSpan l E (fun i => a (24 + i)) (c.2.2.2.2.2.1 2, c.2.2.2.2.2.2.1 2, c.2.2.2.2.2.2.2.1 2) f0 n0 ) rfl rfl rfl [24, 25] [0, 1, 2, 3, 4, 5, 6, 7, 8, 9, 10, 11, 12, 13, 14, 15, 16, 17, 18, 19, 20, 21, 22, 23, 26, 27, 28] rfl rfl rfl rfl (by decide) ⟨Nat.le_of_ble_eq_true rfl, Nat.le_of_ble_eq_true rfl⟩ rfl rfl (Nat.le_of_ble_eq_true rfl) ⟨Nat.le_of_ble_eq_true rfl, Nat.le_of_ble_eq_true rfl⟩ dX5_copy_85 (fun r w1 hp => ?_)
                obtain ⟨rfl, rfl⟩ := hp
                refine g_ws (ws' := (xW E a c g)) [0, 1, 2, 3, 4, 5, 6, 7, 8, 9, 10, 11, 12, 13, 14, 15, 16, 17, 18, 19, 20, 21, 22, 23, 27, 28, 24, 25, 26] rfl rfl ?_
                refine g_if_eq (tgt := 103) cx dX5_copy_88 (by decide) (fun c_51 => ?_) (fun c_51 => ?_)
                · refine g_aload_n cx dX5_copy_103 2 rfl ?_
                  refine g_ldc cx m1X5_copy_c61 dX5_copy_104 ?_
                  refine g_VSi (rest := []) (As := [.int (-1000000001)]) cx hYX5_finding gX5_copy_X5_finding (c_X5_finding l E a c g (-1000000001) (by unfold vp_in; decide +kernel)) rfl rfl rfl ⟨Nat.le_of_ble_eq_true rfl, Nat.le_of_ble_eq_true rfl⟩ rfl rfl (Nat.le_of_ble_eq_true rfl) ⟨Nat.le_of_ble_eq_true rfl, Nat.le_of_ble_eq_true rfl⟩ dX5_copy_106 (fun r w1 hp => ?_)
                  obtain ⟨rfl, rfl⟩ := hp
                  exact g_iret cx gr (Nat.zero_le _) (Nat.zero_le _) dX5_copy_109 (xleaf (by rw [sp_copy, if_neg c_1, if_neg c_2, show (nI 2).toNatClampNeg = 2 from rfl, show (nI 1).toNatClampNeg = 1 from rfl, if_neg (ms_0 c_48), if_neg (ms_0 c_49), if_pos c_50, if_pos c_51]; rfl))
                · refine g_aload cx dX5_copy_91 0 rfl ?_
                  refine g_iload cx dX5_copy_93 6 rfl ?_
                  refine g_iload cx dX5_copy_95 7 rfl ?_
                  refine g_Vi (rest := []) (As := [.int o0, .int n0]) (wr := ([0, 1, 2, 3, 4, 5, 6, 7, 8, 9, 10, 11, 12, 13, 14, 15, 16, 17, 18, 19, 20, 21, 24, 25, 26, 27, 28].filterMap (fun i => (xW E a c g)[i]?))) cx hYX1_hasSpan gX5_copy_X1_hasSpan (c_X1_hasSpan l E (fun i => a (22 + i)) (c.2.2.2.2.2.1 1, c.2.2.2.2.2.2.1 1, c.2.2.2.2.2.2.2.1 1) o0 n0 ) rfl rfl rfl [22, 23] [0, 1, 2, 3, 4, 5, 6, 7, 8, 9, 10, 11, 12, 13, 14, 15, 16, 17, 18, 19, 20, 21, 24, 25, 26, 27, 28] rfl rfl rfl rfl (by decide) ⟨Nat.le_of_ble_eq_true rfl, Nat.le_of_ble_eq_true rfl⟩ rfl rfl (Nat.le_of_ble_eq_true rfl) ⟨Nat.le_of_ble_eq_true rfl, Nat.le_of_ble_eq_true rfl⟩ dX5_copy_97 (fun r w1 hp => ?_)
                  obtain ⟨rfl, rfl⟩ := hp
                  refine g_ws (ws' := (xW E a c g)) [0, 1, 2, 3, 4, 5, 6, 7, 8, 9, 10, 11, 12, 13, 14, 15, 16, 17, 18, 19, 20, 21, 27, 28, 22, 23, 24, 25, 26] rfl rfl ?_
                  refine g_if_ne (tgt := 110) cx dX5_copy_100 (by decide) (fun c_52 => ?_) (fun c_52 => ?_)
                  · refine g_aload cx dX5_copy_110 1 rfl ?_
                    refine g_get (C := RX1) (T := TX1) (N := 3) (v := .ref (a 25)) cx iwX5_copy_X1 24 2 rfl rfl (by decide) lkX5_copy_212 rfl dX5_copy_112 ?_
                    refine g_iload_n cx dX5_copy_115 4 rfl ?_
                    refine g_aload cx dX5_copy_116 0 rfl ?_
                    refine g_get (C := RX1) (T := TX1) (N := 3) (v := .ref (a 23)) cx iwX5_copy_X1 22 2 rfl rfl (by decide) lkX5_copy_212 rfl dX5_copy_118 ?_
                    refine g_iload cx dX5_copy_121 6 rfl ?_
                    refine g_iload cx dX5_copy_123 7 rfl ?_
                    have ok1 := hsp_ok c_51 hzs0 hZs0
                    have ok2 := hsp_ok c_52 hzt0 hZt0
                    refine g_copyL (ws' := (xW E a (c.1, c.2.1, c.2.2.1, c.2.2.2.1, c.2.2.2.2.1, c.2.2.2.2.2.1, c.2.2.2.2.2.2.1, upN c.2.2.2.2.2.2.2.1 1 (va_cpy (c.2.2.2.2.2.2.2.1 2) (c.2.2.2.2.2.2.2.1 1) f0.toNatClampNeg o0.toNatClampNeg n0.toNatClampNeg), c.2.2.2.2.2.2.2.2) g)) cx mwX5_copy_ac 25 23 rfl rfl ok1.1 ok2.1 ok1.2.1 ok1.2.2 ok2.2.2 (by decide) (Nat.le_of_ble_eq_true rfl) dX5_copy_125 rfl ?_
                    refine g_iload cx dX5_copy_128 7 rfl ?_
                    exact g_iret cx gr (Nat.zero_le _) (Nat.zero_le _) dX5_copy_130 (xleaf (by rw [sp_copy, if_neg c_1, if_neg c_2, show (nI 2).toNatClampNeg = 2 from rfl, show (nI 1).toNatClampNeg = 1 from rfl, if_neg (ms_0 c_48), if_neg (ms_0 c_49), if_pos c_50, if_neg c_51, if_neg c_52]; rfl))
                  · refine g_aload_n cx dX5_copy_103 2 rfl ?_
                    refine g_ldc cx m1X5_copy_c61 dX5_copy_104 ?_
                    refine g_VSi (rest := []) (As := [.int (-1000000001)]) cx hYX5_finding gX5_copy_X5_finding (c_X5_finding l E a c g (-1000000001) (by unfold vp_in; decide +kernel)) rfl rfl rfl ⟨Nat.le_of_ble_eq_true rfl, Nat.le_of_ble_eq_true rfl⟩ rfl rfl (Nat.le_of_ble_eq_true rfl) ⟨Nat.le_of_ble_eq_true rfl, Nat.le_of_ble_eq_true rfl⟩ dX5_copy_106 (fun r w1 hp => ?_)
                    obtain ⟨rfl, rfl⟩ := hp
                    exact g_iret cx gr (Nat.zero_le _) (Nat.zero_le _) dX5_copy_109 (xleaf (by rw [sp_copy, if_neg c_1, if_neg c_2, show (nI 2).toNatClampNeg = 2 from rfl, show (nI 1).toNatClampNeg = 1 from rfl, if_neg (ms_0 c_48), if_neg (ms_0 c_49), if_pos c_50, if_neg c_51, if_pos c_52]; rfl))
              · refine g_aload_n cx dX5_copy_73 2 rfl ?_
                refine g_ldc cx m1X5_copy_c145 dX5_copy_74 ?_
                refine g_VSi (rest := []) (As := [.int (-1000000003)]) cx hYX5_finding gX5_copy_X5_finding (c_X5_finding l E a c g (-1000000003) (by unfold vp_in; decide +kernel)) rfl rfl rfl ⟨Nat.le_of_ble_eq_true rfl, Nat.le_of_ble_eq_true rfl⟩ rfl rfl (Nat.le_of_ble_eq_true rfl) ⟨Nat.le_of_ble_eq_true rfl, Nat.le_of_ble_eq_true rfl⟩ dX5_copy_76 (fun r w1 hp => ?_)
                obtain ⟨rfl, rfl⟩ := hp
                exact g_iret cx gr (Nat.zero_le _) (Nat.zero_le _) dX5_copy_79 (xleaf (by rw [sp_copy, if_neg c_1, if_neg c_2, show (nI 2).toNatClampNeg = 2 from rfl, show (nI 1).toNatClampNeg = 1 from rfl, if_neg (ms_0 c_48), if_neg (ms_0 c_49), if_neg c_50]; rfl))
            · refine g_aload_n cx dX5_copy_53 2 rfl ?_
              refine g_ldc cx m1X5_copy_c211 dX5_copy_54 ?_
              refine g_VSi (rest := []) (As := [.int (-1000000006)]) cx hYX5_finding gX5_copy_X5_finding (c_X5_finding l E a c g (-1000000006) (by unfold vp_in; decide +kernel)) rfl rfl rfl ⟨Nat.le_of_ble_eq_true rfl, Nat.le_of_ble_eq_true rfl⟩ rfl rfl (Nat.le_of_ble_eq_true rfl) ⟨Nat.le_of_ble_eq_true rfl, Nat.le_of_ble_eq_true rfl⟩ dX5_copy_56 (fun r w1 hp => ?_)
              obtain ⟨rfl, rfl⟩ := hp
              exact g_iret cx gr (Nat.zero_le _) (Nat.zero_le _) dX5_copy_59 (xleaf (by rw [sp_copy, if_neg c_1, if_neg c_2, show (nI 2).toNatClampNeg = 2 from rfl, show (nI 1).toNatClampNeg = 1 from rfl, if_neg (ms_0 c_48), if_pos (ms_1 c_49)]; rfl))
        · refine g_aload_n cx dX5_copy_29 1 rfl ?_
          refine g_get (C := RX5) (T := TX5) (N := 8) (v := .ref (a 19)) cx iwX5_copy_X5 0 6 rfl rfl (by decide) lkX5_copy_44 rfl dX5_copy_30 ?_
          refine g_iload_n cx dX5_copy_33 4 rfl ?_
          refine g_aald (v := a 24) cx 19 rfl rfl (vp_in_nI (by decide) (by decide)) rfl dX5_copy_34 ?_
          refine g_astore (lv' := [(7, .ref (a 24)), (6, .ref (a 24)), (0, .ref (a 0)), (1, .int (nI 2)), (2, .int f0), (3, .int (nI 2)), (4, .int o0), (5, .int n0)]) cx dX5_copy_35 (by decide) rfl ?_
          refine g_aload cx dX5_copy_37 1 rfl ?_
          refine g_Vi (rest := []) (As := []) (wr := ([0, 1, 2, 3, 4, 5, 6, 7, 8, 9, 10, 11, 12, 13, 14, 15, 16, 17, 18, 19, 20, 21, 22, 23, 26, 27, 28].filterMap (fun i => (xW E a c g)[i]?))) cx hYX1_isMissing gX5_copy_X1_isMissing (c_X1_isMissing l E (fun i => a (24 + i)) (c.2.2.2.2.2.1 2, c.2.2.2.2.2.2.1 2, c.2.2.2.2.2.2.2.1 2)  ) rfl rfl rfl [24, 25] [0, 1, 2, 3, 4, 5, 6, 7, 8, 9, 10, 11, 12, 13, 14, 15, 16, 17, 18, 19, 20, 21, 22, 23, 26, 27, 28] rfl rfl rfl rfl (by decide) ⟨Nat.le_of_ble_eq_true rfl, Nat.le_of_ble_eq_true rfl⟩ rfl rfl (Nat.le_of_ble_eq_true rfl) ⟨Nat.le_of_ble_eq_true rfl, Nat.le_of_ble_eq_true rfl⟩ dX5_copy_39 (fun r w1 hp => ?_)
          obtain ⟨rfl, rfl⟩ := hp
          refine g_ws (ws' := (xW E a c g)) [0, 1, 2, 3, 4, 5, 6, 7, 8, 9, 10, 11, 12, 13, 14, 15, 16, 17, 18, 19, 20, 21, 22, 23, 27, 28, 24, 25, 26] rfl rfl ?_
          refine g_if_ne (tgt := 53) cx dX5_copy_42 (by decide) (fun c_53 => ?_) (fun c_53 => ?_)
          · refine g_aload_n cx dX5_copy_53 2 rfl ?_
            refine g_ldc cx m1X5_copy_c211 dX5_copy_54 ?_
            refine g_VSi (rest := []) (As := [.int (-1000000006)]) cx hYX5_finding gX5_copy_X5_finding (c_X5_finding l E a c g (-1000000006) (by unfold vp_in; decide +kernel)) rfl rfl rfl ⟨Nat.le_of_ble_eq_true rfl, Nat.le_of_ble_eq_true rfl⟩ rfl rfl (Nat.le_of_ble_eq_true rfl) ⟨Nat.le_of_ble_eq_true rfl, Nat.le_of_ble_eq_true rfl⟩ dX5_copy_56 (fun r w1 hp => ?_)
            obtain ⟨rfl, rfl⟩ := hp
            exact g_iret cx gr (Nat.zero_le _) (Nat.zero_le _) dX5_copy_59 (xleaf (by rw [sp_copy, if_neg c_1, if_neg c_2, show (nI 2).toNatClampNeg = 2 from rfl, if_pos (ms_1 c_53)]; rfl))
          · refine g_aload cx dX5_copy_45 0 rfl ?_
            refine g_Vi (rest := []) (As := []) (wr := ([0, 1, 2, 3, 4, 5, 6, 7, 8, 9, 10, 11, 12, 13, 14, 15, 16, 17, 18, 19, 20, 21, 22, 23, 26, 27, 28].filterMap (fun i => (xW E a c g)[i]?))) cx hYX1_isMissing gX5_copy_X1_isMissing (c_X1_isMissing l E (fun i => a (24 + i)) (c.2.2.2.2.2.1 2, c.2.2.2.2.2.2.1 2, c.2.2.2.2.2.2.2.1 2)  ) rfl rfl rfl [24, 25] [0, 1, 2, 3, 4, 5, 6, 7, 8, 9, 10, 11, 12, 13, 14, 15, 16, 17, 18, 19, 20, 21, 22, 23, 26, 27, 28] rfl rfl rfl rfl (by decide) ⟨Nat.le_of_ble_eq_true rfl, Nat.le_of_ble_eq_true rfl⟩ rfl rfl (Nat.le_of_ble_eq_true rfl) ⟨Nat.le_of_ble_eq_true rfl, Nat.le_of_ble_eq_true rfl⟩ dX5_copy_47 (fun r w1 hp => ?_)
            obtain ⟨rfl, rfl⟩ := hp
            refine g_ws (ws' := (xW E a c g)) [0, 1, 2, 3, 4, 5, 6, 7, 8, 9, 10, 11, 12, 13, 14, 15, 16, 17, 18, 19, 20, 21, 22, 23, 27, 28, 24, 25, 26] rfl rfl ?_
            refine g_if_eq (tgt := 60) cx dX5_copy_50 (by decide) (fun c_54 => ?_) (fun c_54 => ?_)
            · refine g_aload cx dX5_copy_60 1 rfl ?_
              refine g_get (C := RX1) (T := TX1) (N := 3) (v := .int (c.2.2.2.2.2.1 2)) cx iwX5_copy_X1 24 0 rfl rfl (by decide) lkX5_copy_220 rfl dX5_copy_62 ?_
              refine g_aload cx dX5_copy_65 0 rfl ?_
              refine g_get (C := RX1) (T := TX1) (N := 3) (v := .int (c.2.2.2.2.2.1 2)) cx iwX5_copy_X1 24 0 rfl rfl (by decide) lkX5_copy_220 rfl dX5_copy_67 ?_
              refine g_icmp_eq (tgt := 80) cx dX5_copy_70 (by decide) (fun c_55 => ?_) (fun c_55 => ?_)
              · obtain ⟨Zs0, hZs0, hzs0⟩ := sz_nI (j := 2) hok (by decide)
                obtain ⟨Zt0, hZt0, hzt0⟩ := sz_nI (j := 2) hok (by decide)
                refine g_aload cx dX5_copy_80 1 rfl ?_
                refine g_iload_n cx dX5_copy_82 4 rfl ?_
                refine g_iload cx dX5_copy_83 7 rfl ?_
                refine g_Vi (rest := []) (As := [.int f0, .int n0]) (wr := ([0, 1, 2, 3, 4, 5, 6, 7, 8, 9, 10, 11, 12, 13, 14, 15, 16, 17, 18, 19, 20, 21, 22, 23, 26, 27, 28].filterMap (fun i => (xW E a c g)[i]?))) cx hYX1_hasSpan gX5_copy_X1_hasSpan (c_X1_hasSpan l E (fun i => a (24 + i)) (c.2.2.2.2.2.1 2, c.2.2.2.2.2.2.1 2, c.2.2.2.2.2.2.2.1 2) f0 n0 ) rfl rfl rfl [24, 25] [0, 1, 2, 3, 4, 5, 6, 7, 8, 9, 10, 11, 12, 13, 14, 15, 16, 17, 18, 19, 20, 21, 22, 23, 26, 27, 28] rfl rfl rfl rfl (by decide) ⟨Nat.le_of_ble_eq_true rfl, Nat.le_of_ble_eq_true rfl⟩ rfl rfl (Nat.le_of_ble_eq_true rfl) ⟨Nat.le_of_ble_eq_true rfl, Nat.le_of_ble_eq_true rfl⟩ dX5_copy_85 (fun r w1 hp => ?_)
                obtain ⟨rfl, rfl⟩ := hp
                refine g_ws (ws' := (xW E a c g)) [0, 1, 2, 3, 4, 5, 6, 7, 8, 9, 10, 11, 12, 13, 14, 15, 16, 17, 18, 19, 20, 21, 22, 23, 27, 28, 24, 25, 26] rfl rfl ?_
                refine g_if_eq (tgt := 103) cx dX5_copy_88 (by decide) (fun c_56 => ?_) (fun c_56 => ?_)
                · refine g_aload_n cx dX5_copy_103 2 rfl ?_
                  refine g_ldc cx m1X5_copy_c61 dX5_copy_104 ?_
                  refine g_VSi (rest := []) (As := [.int (-1000000001)]) cx hYX5_finding gX5_copy_X5_finding (c_X5_finding l E a c g (-1000000001) (by unfold vp_in; decide +kernel)) rfl rfl rfl ⟨Nat.le_of_ble_eq_true rfl, Nat.le_of_ble_eq_true rfl⟩ rfl rfl (Nat.le_of_ble_eq_true rfl) ⟨Nat.le_of_ble_eq_true rfl, Nat.le_of_ble_eq_true rfl⟩ dX5_copy_106 (fun r w1 hp => ?_)
                  obtain ⟨rfl, rfl⟩ := hp
                  exact g_iret cx gr (Nat.zero_le _) (Nat.zero_le _) dX5_copy_109 (xleaf (by rw [sp_copy, if_neg c_1, if_neg c_2, show (nI 2).toNatClampNeg = 2 from rfl, if_neg (ms_0 c_53), if_neg (ms_0 c_54), if_pos c_55, if_pos c_56]; rfl))
                · refine g_aload cx dX5_copy_91 0 rfl ?_
                  refine g_iload cx dX5_copy_93 6 rfl ?_
                  refine g_iload cx dX5_copy_95 7 rfl ?_
                  refine g_Vi (rest := []) (As := [.int o0, .int n0]) (wr := ([0, 1, 2, 3, 4, 5, 6, 7, 8, 9, 10, 11, 12, 13, 14, 15, 16, 17, 18, 19, 20, 21, 22, 23, 26, 27, 28].filterMap (fun i => (xW E a c g)[i]?))) cx hYX1_hasSpan gX5_copy_X1_hasSpan (c_X1_hasSpan l E (fun i => a (24 + i)) (c.2.2.2.2.2.1 2, c.2.2.2.2.2.2.1 2, c.2.2.2.2.2.2.2.1 2) o0 n0 ) rfl rfl rfl [24, 25] [0, 1, 2, 3, 4, 5, 6, 7, 8, 9, 10, 11, 12, 13, 14, 15, 16, 17, 18, 19, 20, 21, 22, 23, 26, 27, 28] rfl rfl rfl rfl (by decide) ⟨Nat.le_of_ble_eq_true rfl, Nat.le_of_ble_eq_true rfl⟩ rfl rfl (Nat.le_of_ble_eq_true rfl) ⟨Nat.le_of_ble_eq_true rfl, Nat.le_of_ble_eq_true rfl⟩ dX5_copy_97 (fun r w1 hp => ?_)
                  obtain ⟨rfl, rfl⟩ := hp
                  refine g_ws (ws' := (xW E a c g)) [0, 1, 2, 3, 4, 5, 6, 7, 8, 9, 10, 11, 12, 13, 14, 15, 16, 17, 18, 19, 20, 21, 22, 23, 27, 28, 24, 25, 26] rfl rfl ?_
                  refine g_if_ne (tgt := 110) cx dX5_copy_100 (by decide) (fun c_57 => ?_) (fun c_57 => ?_)
                  · refine g_aload cx dX5_copy_110 1 rfl ?_
                    refine g_get (C := RX1) (T := TX1) (N := 3) (v := .ref (a 25)) cx iwX5_copy_X1 24 2 rfl rfl (by decide) lkX5_copy_212 rfl dX5_copy_112 ?_
                    refine g_iload_n cx dX5_copy_115 4 rfl ?_
                    refine g_aload cx dX5_copy_116 0 rfl ?_
                    refine g_get (C := RX1) (T := TX1) (N := 3) (v := .ref (a 25)) cx iwX5_copy_X1 24 2 rfl rfl (by decide) lkX5_copy_212 rfl dX5_copy_118 ?_
                    refine g_iload cx dX5_copy_121 6 rfl ?_
                    refine g_iload cx dX5_copy_123 7 rfl ?_
                    have ok1 := hsp_ok c_56 hzs0 hZs0
                    have ok2 := hsp_ok c_57 hzt0 hZt0
                    refine g_copyL (ws' := (xW E a (c.1, c.2.1, c.2.2.1, c.2.2.2.1, c.2.2.2.2.1, c.2.2.2.2.2.1, c.2.2.2.2.2.2.1, upN c.2.2.2.2.2.2.2.1 2 (va_cpy (c.2.2.2.2.2.2.2.1 2) (c.2.2.2.2.2.2.2.1 2) f0.toNatClampNeg o0.toNatClampNeg n0.toNatClampNeg), c.2.2.2.2.2.2.2.2) g)) cx mwX5_copy_ac 25 25 rfl rfl ok1.1 ok2.1 ok1.2.1 ok1.2.2 ok2.2.2 (by decide) (Nat.le_of_ble_eq_true rfl) dX5_copy_125 rfl ?_
                    refine g_iload cx dX5_copy_128 7 rfl ?_
                    exact g_iret cx gr (Nat.zero_le _) (Nat.zero_le _) dX5_copy_130 (xleaf (by rw [sp_copy, if_neg c_1, if_neg c_2, show (nI 2).toNatClampNeg = 2 from rfl, if_neg (ms_0 c_53), if_neg (ms_0 c_54), if_pos c_55, if_neg c_56, if_neg c_57]; rfl))
                  · refine g_aload_n cx dX5_copy_103 2 rfl ?_
                    refine g_ldc cx m1X5_copy_c61 dX5_copy_104 ?_
                    refine g_VSi (rest := []) (As := [.int (-1000000001)]) cx hYX5_finding gX5_copy_X5_finding (c_X5_finding l E a c g (-1000000001) (by unfold vp_in; decide +kernel)) rfl rfl rfl ⟨Nat.le_of_ble_eq_true rfl, Nat.le_of_ble_eq_true rfl⟩ rfl rfl (Nat.le_of_ble_eq_true rfl) ⟨Nat.le_of_ble_eq_true rfl, Nat.le_of_ble_eq_true rfl⟩ dX5_copy_106 (fun r w1 hp => ?_)
                    obtain ⟨rfl, rfl⟩ := hp
                    exact g_iret cx gr (Nat.zero_le _) (Nat.zero_le _) dX5_copy_109 (xleaf (by rw [sp_copy, if_neg c_1, if_neg c_2, show (nI 2).toNatClampNeg = 2 from rfl, if_neg (ms_0 c_53), if_neg (ms_0 c_54), if_pos c_55, if_neg c_56, if_pos c_57]; rfl))
              · refine g_aload_n cx dX5_copy_73 2 rfl ?_
                refine g_ldc cx m1X5_copy_c145 dX5_copy_74 ?_
                refine g_VSi (rest := []) (As := [.int (-1000000003)]) cx hYX5_finding gX5_copy_X5_finding (c_X5_finding l E a c g (-1000000003) (by unfold vp_in; decide +kernel)) rfl rfl rfl ⟨Nat.le_of_ble_eq_true rfl, Nat.le_of_ble_eq_true rfl⟩ rfl rfl (Nat.le_of_ble_eq_true rfl) ⟨Nat.le_of_ble_eq_true rfl, Nat.le_of_ble_eq_true rfl⟩ dX5_copy_76 (fun r w1 hp => ?_)
                obtain ⟨rfl, rfl⟩ := hp
                exact g_iret cx gr (Nat.zero_le _) (Nat.zero_le _) dX5_copy_79 (xleaf (by rw [sp_copy, if_neg c_1, if_neg c_2, show (nI 2).toNatClampNeg = 2 from rfl, if_neg (ms_0 c_53), if_neg (ms_0 c_54), if_neg c_55]; rfl))
            · refine g_aload_n cx dX5_copy_53 2 rfl ?_
              refine g_ldc cx m1X5_copy_c211 dX5_copy_54 ?_
              refine g_VSi (rest := []) (As := [.int (-1000000006)]) cx hYX5_finding gX5_copy_X5_finding (c_X5_finding l E a c g (-1000000006) (by unfold vp_in; decide +kernel)) rfl rfl rfl ⟨Nat.le_of_ble_eq_true rfl, Nat.le_of_ble_eq_true rfl⟩ rfl rfl (Nat.le_of_ble_eq_true rfl) ⟨Nat.le_of_ble_eq_true rfl, Nat.le_of_ble_eq_true rfl⟩ dX5_copy_56 (fun r w1 hp => ?_)
              obtain ⟨rfl, rfl⟩ := hp
              exact g_iret cx gr (Nat.zero_le _) (Nat.zero_le _) dX5_copy_59 (xleaf (by rw [sp_copy, if_neg c_1, if_neg c_2, show (nI 2).toNatClampNeg = 2 from rfl, if_neg (ms_0 c_53), if_pos (ms_1 c_54)]; rfl))
        · refine g_aload_n cx dX5_copy_29 1 rfl ?_
          refine g_get (C := RX5) (T := TX5) (N := 8) (v := .ref (a 19)) cx iwX5_copy_X5 0 6 rfl rfl (by decide) lkX5_copy_44 rfl dX5_copy_30 ?_
          refine g_iload_n cx dX5_copy_33 4 rfl ?_
          refine g_aald (v := a 26) cx 19 rfl rfl (vp_in_nI (by decide) (by decide)) rfl dX5_copy_34 ?_
          refine g_astore (lv' := [(7, .ref (a 26)), (6, .ref (a 24)), (0, .ref (a 0)), (1, .int (nI 2)), (2, .int f0), (3, .int (nI 3)), (4, .int o0), (5, .int n0)]) cx dX5_copy_35 (by decide) rfl ?_
          refine g_aload cx dX5_copy_37 1 rfl ?_
          refine g_Vi (rest := []) (As := []) (wr := ([0, 1, 2, 3, 4, 5, 6, 7, 8, 9, 10, 11, 12, 13, 14, 15, 16, 17, 18, 19, 20, 21, 22, 23, 26, 27, 28].filterMap (fun i => (xW E a c g)[i]?))) cx hYX1_isMissing gX5_copy_X1_isMissing (c_X1_isMissing l E (fun i => a (24 + i)) (c.2.2.2.2.2.1 2, c.2.2.2.2.2.2.1 2, c.2.2.2.2.2.2.2.1 2)  ) rfl rfl rfl [24, 25] [0, 1, 2, 3, 4, 5, 6, 7, 8, 9, 10, 11, 12, 13, 14, 15, 16, 17, 18, 19, 20, 21, 22, 23, 26, 27, 28] rfl rfl rfl rfl (by decide) ⟨Nat.le_of_ble_eq_true rfl, Nat.le_of_ble_eq_true rfl⟩ rfl rfl (Nat.le_of_ble_eq_true rfl) ⟨Nat.le_of_ble_eq_true rfl, Nat.le_of_ble_eq_true rfl⟩ dX5_copy_39 (fun r w1 hp => ?_)
          obtain ⟨rfl, rfl⟩ := hp
          refine g_ws (ws' := (xW E a c g)) [0, 1, 2, 3, 4, 5, 6, 7, 8, 9, 10, 11, 12, 13, 14, 15, 16, 17, 18, 19, 20, 21, 22, 23, 27, 28, 24, 25, 26] rfl rfl ?_
          refine g_if_ne (tgt := 53) cx dX5_copy_42 (by decide) (fun c_58 => ?_) (fun c_58 => ?_)
          · refine g_aload_n cx dX5_copy_53 2 rfl ?_
            refine g_ldc cx m1X5_copy_c211 dX5_copy_54 ?_
            refine g_VSi (rest := []) (As := [.int (-1000000006)]) cx hYX5_finding gX5_copy_X5_finding (c_X5_finding l E a c g (-1000000006) (by unfold vp_in; decide +kernel)) rfl rfl rfl ⟨Nat.le_of_ble_eq_true rfl, Nat.le_of_ble_eq_true rfl⟩ rfl rfl (Nat.le_of_ble_eq_true rfl) ⟨Nat.le_of_ble_eq_true rfl, Nat.le_of_ble_eq_true rfl⟩ dX5_copy_56 (fun r w1 hp => ?_)
            obtain ⟨rfl, rfl⟩ := hp
            exact g_iret cx gr (Nat.zero_le _) (Nat.zero_le _) dX5_copy_59 (xleaf (by rw [sp_copy, if_neg c_1, if_neg c_2, show (nI 2).toNatClampNeg = 2 from rfl, show (nI 3).toNatClampNeg = 3 from rfl, if_pos (ms_1 c_58)]; rfl))
          · refine g_aload cx dX5_copy_45 0 rfl ?_
            refine g_Vi (rest := []) (As := []) (wr := ([0, 1, 2, 3, 4, 5, 6, 7, 8, 9, 10, 11, 12, 13, 14, 15, 16, 17, 18, 19, 20, 21, 22, 23, 24, 25, 28].filterMap (fun i => (xW E a c g)[i]?))) cx hYX1_isMissing gX5_copy_X1_isMissing (c_X1_isMissing l E (fun i => a (26 + i)) (c.2.2.2.2.2.1 3, c.2.2.2.2.2.2.1 3, c.2.2.2.2.2.2.2.1 3)  ) rfl rfl rfl [26, 27] [0, 1, 2, 3, 4, 5, 6, 7, 8, 9, 10, 11, 12, 13, 14, 15, 16, 17, 18, 19, 20, 21, 22, 23, 24, 25, 28] rfl rfl rfl rfl (by decide) ⟨Nat.le_of_ble_eq_true rfl, Nat.le_of_ble_eq_true rfl⟩ rfl rfl (Nat.le_of_ble_eq_true rfl) ⟨Nat.le_of_ble_eq_true rfl, Nat.le_of_ble_eq_true rfl⟩ dX5_copy_47 (fun r w1 hp => ?_)
            obtain ⟨rfl, rfl⟩ := hp
            refine g_ws (ws' := (xW E a c g)) [0, 1, 2, 3, 4, 5, 6, 7, 8, 9, 10, 11, 12, 13, 14, 15, 16, 17, 18, 19, 20, 21, 22, 23, 24, 25, 27, 28, 26] rfl rfl ?_
            refine g_if_eq (tgt := 60) cx dX5_copy_50 (by decide) (fun c_59 => ?_) (fun c_59 => ?_)
            · refine g_aload cx dX5_copy_60 1 rfl ?_
              refine g_get (C := RX1) (T := TX1) (N := 3) (v := .int (c.2.2.2.2.2.1 2)) cx iwX5_copy_X1 24 0 rfl rfl (by decide) lkX5_copy_220 rfl dX5_copy_62 ?_
              refine g_aload cx dX5_copy_65 0 rfl ?_
              refine g_get (C := RX1) (T := TX1) (N := 3) (v := .int (c.2.2.2.2.2.1 3)) cx iwX5_copy_X1 26 0 rfl rfl (by decide) lkX5_copy_220 rfl dX5_copy_67 ?_
              refine g_icmp_eq (tgt := 80) cx dX5_copy_70 (by decide) (fun c_60 => ?_) (fun c_60 => ?_)
              · obtain ⟨Zs0, hZs0, hzs0⟩ := sz_nI (j := 2) hok (by decide)
                obtain ⟨Zt0, hZt0, hzt0⟩ := sz_nI (j := 3) hok (by decide)
                refine g_aload cx dX5_copy_80 1 rfl ?_
                refine g_iload_n cx dX5_copy_82 4 rfl ?_
                refine g_iload cx dX5_copy_83 7 rfl ?_
                refine g_Vi (rest := []) (As := [.int f0, .int n0]) (wr := ([0, 1, 2, 3, 4, 5, 6, 7, 8, 9, 10, 11, 12, 13, 14, 15, 16, 17, 18, 19, 20, 21, 22, 23, 26, 27, 28].filterMap (fun i => (xW E a c g)[i]?))) cx hYX1_hasSpan gX5_copy_X1_hasSpan (c_X1_hasSpan l E (fun i => a (24 + i)) (c.2.2.2.2.2.1 2, c.2.2.2.2.2.2.1 2, c.2.2.2.2.2.2.2.1 2) f0 n0 ) rfl rfl rfl [24, 25] [0, 1, 2, 3, 4, 5, 6, 7, 8, 9, 10, 11, 12, 13, 14, 15, 16, 17, 18, 19, 20, 21, 22, 23, 26, 27, 28] rfl rfl rfl rfl (by decide) ⟨Nat.le_of_ble_eq_true rfl, Nat.le_of_ble_eq_true rfl⟩ rfl rfl (Nat.le_of_ble_eq_true rfl) ⟨Nat.le_of_ble_eq_true rfl, Nat.le_of_ble_eq_true rfl⟩ dX5_copy_85 (fun r w1 hp => ?_)
                obtain ⟨rfl, rfl⟩ := hp
                refine g_ws (ws' := (xW E a c g)) [0, 1, 2, 3, 4, 5, 6, 7, 8, 9, 10, 11, 12, 13, 14, 15, 16, 17, 18, 19, 20, 21, 22, 23, 27, 28, 24, 25, 26] rfl rfl ?_
                refine g_if_eq (tgt := 103) cx dX5_copy_88 (by decide) (fun c_61 => ?_) (fun c_61 => ?_)
                · refine g_aload_n cx dX5_copy_103 2 rfl ?_
                  refine g_ldc cx m1X5_copy_c61 dX5_copy_104 ?_
                  refine g_VSi (rest := []) (As := [.int (-1000000001)]) cx hYX5_finding gX5_copy_X5_finding (c_X5_finding l E a c g (-1000000001) (by unfold vp_in; decide +kernel)) rfl rfl rfl ⟨Nat.le_of_ble_eq_true rfl, Nat.le_of_ble_eq_true rfl⟩ rfl rfl (Nat.le_of_ble_eq_true rfl) ⟨Nat.le_of_ble_eq_true rfl, Nat.le_of_ble_eq_true rfl⟩ dX5_copy_106 (fun r w1 hp => ?_)
                  obtain ⟨rfl, rfl⟩ := hp
                  exact g_iret cx gr (Nat.zero_le _) (Nat.zero_le _) dX5_copy_109 (xleaf (by rw [sp_copy, if_neg c_1, if_neg c_2, show (nI 2).toNatClampNeg = 2 from rfl, show (nI 3).toNatClampNeg = 3 from rfl, if_neg (ms_0 c_58), if_neg (ms_0 c_59), if_pos c_60, if_pos c_61]; rfl))
                · refine g_aload cx dX5_copy_91 0 rfl ?_
                  refine g_iload cx dX5_copy_93 6 rfl ?_
                  refine g_iload cx dX5_copy_95 7 rfl ?_
                  refine g_Vi (rest := []) (As := [.int o0, .int n0]) (wr := ([0, 1, 2, 3, 4, 5, 6, 7, 8, 9, 10, 11, 12, 13, 14, 15, 16, 17, 18, 19, 20, 21, 22, 23, 24, 25, 28].filterMap (fun i => (xW E a c g)[i]?))) cx hYX1_hasSpan gX5_copy_X1_hasSpan (c_X1_hasSpan l E (fun i => a (26 + i)) (c.2.2.2.2.2.1 3, c.2.2.2.2.2.2.1 3, c.2.2.2.2.2.2.2.1 3) o0 n0 ) rfl rfl rfl [26, 27] [0, 1, 2, 3, 4, 5, 6, 7, 8, 9, 10, 11, 12, 13, 14, 15, 16, 17, 18, 19, 20, 21, 22, 23, 24, 25, 28] rfl rfl rfl rfl (by decide) ⟨Nat.le_of_ble_eq_true rfl, Nat.le_of_ble_eq_true rfl⟩ rfl rfl (Nat.le_of_ble_eq_true rfl) ⟨Nat.le_of_ble_eq_true rfl, Nat.le_of_ble_eq_true rfl⟩ dX5_copy_97 (fun r w1 hp => ?_)
                  obtain ⟨rfl, rfl⟩ := hp
                  refine g_ws (ws' := (xW E a c g)) [0, 1, 2, 3, 4, 5, 6, 7, 8, 9, 10, 11, 12, 13, 14, 15, 16, 17, 18, 19, 20, 21, 22, 23, 24, 25, 27, 28, 26] rfl rfl ?_
                  refine g_if_ne (tgt := 110) cx dX5_copy_100 (by decide) (fun c_62 => ?_) (fun c_62 => ?_)
                  · refine g_aload cx dX5_copy_110 1 rfl ?_
                    refine g_get (C := RX1) (T := TX1) (N := 3) (v := .ref (a 25)) cx iwX5_copy_X1 24 2 rfl rfl (by decide) lkX5_copy_212 rfl dX5_copy_112 ?_
                    refine g_iload_n cx dX5_copy_115 4 rfl ?_
                    refine g_aload cx dX5_copy_116 0 rfl ?_
                    refine g_get (C := RX1) (T := TX1) (N := 3) (v := .ref (a 27)) cx iwX5_copy_X1 26 2 rfl rfl (by decide) lkX5_copy_212 rfl dX5_copy_118 ?_
                    refine g_iload cx dX5_copy_121 6 rfl ?_
                    refine g_iload cx dX5_copy_123 7 rfl ?_
                    have ok1 := hsp_ok c_61 hzs0 hZs0
                    have ok2 := hsp_ok c_62 hzt0 hZt0
                    refine g_copyL (ws' := (xW E a (c.1, c.2.1, c.2.2.1, c.2.2.2.1, c.2.2.2.2.1, c.2.2.2.2.2.1, c.2.2.2.2.2.2.1, upN c.2.2.2.2.2.2.2.1 3 (va_cpy (c.2.2.2.2.2.2.2.1 2) (c.2.2.2.2.2.2.2.1 3) f0.toNatClampNeg o0.toNatClampNeg n0.toNatClampNeg), c.2.2.2.2.2.2.2.2) g)) cx mwX5_copy_ac 25 27 rfl rfl ok1.1 ok2.1 ok1.2.1 ok1.2.2 ok2.2.2 (by decide) (Nat.le_of_ble_eq_true rfl) dX5_copy_125 rfl ?_
                    refine g_iload cx dX5_copy_128 7 rfl ?_
                    exact g_iret cx gr (Nat.zero_le _) (Nat.zero_le _) dX5_copy_130 (xleaf (by rw [sp_copy, if_neg c_1, if_neg c_2, show (nI 2).toNatClampNeg = 2 from rfl, show (nI 3).toNatClampNeg = 3 from rfl, if_neg (ms_0 c_58), if_neg (ms_0 c_59), if_pos c_60, if_neg c_61, if_neg c_62]; rfl))
                  · refine g_aload_n cx dX5_copy_103 2 rfl ?_
                    refine g_ldc cx m1X5_copy_c61 dX5_copy_104 ?_
                    refine g_VSi (rest := []) (As := [.int (-1000000001)]) cx hYX5_finding gX5_copy_X5_finding (c_X5_finding l E a c g (-1000000001) (by unfold vp_in; decide +kernel)) rfl rfl rfl ⟨Nat.le_of_ble_eq_true rfl, Nat.le_of_ble_eq_true rfl⟩ rfl rfl (Nat.le_of_ble_eq_true rfl) ⟨Nat.le_of_ble_eq_true rfl, Nat.le_of_ble_eq_true rfl⟩ dX5_copy_106 (fun r w1 hp => ?_)
                    obtain ⟨rfl, rfl⟩ := hp
                    exact g_iret cx gr (Nat.zero_le _) (Nat.zero_le _) dX5_copy_109 (xleaf (by rw [sp_copy, if_neg c_1, if_neg c_2, show (nI 2).toNatClampNeg = 2 from rfl, show (nI 3).toNatClampNeg = 3 from rfl, if_neg (ms_0 c_58), if_neg (ms_0 c_59), if_pos c_60, if_neg c_61, if_pos c_62]; rfl))
              · refine g_aload_n cx dX5_copy_73 2 rfl ?_
                refine g_ldc cx m1X5_copy_c145 dX5_copy_74 ?_
                refine g_VSi (rest := []) (As := [.int (-1000000003)]) cx hYX5_finding gX5_copy_X5_finding (c_X5_finding l E a c g (-1000000003) (by unfold vp_in; decide +kernel)) rfl rfl rfl ⟨Nat.le_of_ble_eq_true rfl, Nat.le_of_ble_eq_true rfl⟩ rfl rfl (Nat.le_of_ble_eq_true rfl) ⟨Nat.le_of_ble_eq_true rfl, Nat.le_of_ble_eq_true rfl⟩ dX5_copy_76 (fun r w1 hp => ?_)
                obtain ⟨rfl, rfl⟩ := hp
                exact g_iret cx gr (Nat.zero_le _) (Nat.zero_le _) dX5_copy_79 (xleaf (by rw [sp_copy, if_neg c_1, if_neg c_2, show (nI 2).toNatClampNeg = 2 from rfl, show (nI 3).toNatClampNeg = 3 from rfl, if_neg (ms_0 c_58), if_neg (ms_0 c_59), if_neg c_60]; rfl))
            · refine g_aload_n cx dX5_copy_53 2 rfl ?_
              refine g_ldc cx m1X5_copy_c211 dX5_copy_54 ?_
              refine g_VSi (rest := []) (As := [.int (-1000000006)]) cx hYX5_finding gX5_copy_X5_finding (c_X5_finding l E a c g (-1000000006) (by unfold vp_in; decide +kernel)) rfl rfl rfl ⟨Nat.le_of_ble_eq_true rfl, Nat.le_of_ble_eq_true rfl⟩ rfl rfl (Nat.le_of_ble_eq_true rfl) ⟨Nat.le_of_ble_eq_true rfl, Nat.le_of_ble_eq_true rfl⟩ dX5_copy_56 (fun r w1 hp => ?_)
              obtain ⟨rfl, rfl⟩ := hp
              exact g_iret cx gr (Nat.zero_le _) (Nat.zero_le _) dX5_copy_59 (xleaf (by rw [sp_copy, if_neg c_1, if_neg c_2, show (nI 2).toNatClampNeg = 2 from rfl, show (nI 3).toNatClampNeg = 3 from rfl, if_neg (ms_0 c_58), if_pos (ms_1 c_59)]; rfl))
      · refine g_aload_n cx dX5_copy_21 0 rfl ?_
        refine g_get (C := RX5) (T := TX5) (N := 8) (v := .ref (a 19)) cx iwX5_copy_X5 0 6 rfl rfl (by decide) lkX5_copy_44 rfl dX5_copy_22 ?_
        refine g_iload_n cx dX5_copy_25 1 rfl ?_
        refine g_aald (v := a 26) cx 19 rfl rfl (vp_in_nI (by decide) (by decide)) rfl dX5_copy_26 ?_
        refine g_astore (lv' := [(6, .ref (a 26)), (0, .ref (a 0)), (1, .int (nI 3)), (2, .int f0), (3, .int t0), (4, .int o0), (5, .int n0)]) cx dX5_copy_27 (by decide) rfl ?_
        obtain ⟨jt0, hjt0, rfl⟩ := isW_nI 3 c_2 (by decide)
        rcases (show jt0 = 0 ∨ jt0 = 1 ∨ jt0 = 2 ∨ jt0 = 3 by omega) with rfl | rfl | rfl | rfl
        · refine g_aload_n cx dX5_copy_29 1 rfl ?_
          refine g_get (C := RX5) (T := TX5) (N := 8) (v := .ref (a 19)) cx iwX5_copy_X5 0 6 rfl rfl (by decide) lkX5_copy_44 rfl dX5_copy_30 ?_
          refine g_iload_n cx dX5_copy_33 4 rfl ?_
          refine g_aald (v := a 20) cx 19 rfl rfl (vp_in_nI (by decide) (by decide)) rfl dX5_copy_34 ?_
          refine g_astore (lv' := [(7, .ref (a 20)), (6, .ref (a 26)), (0, .ref (a 0)), (1, .int (nI 3)), (2, .int f0), (3, .int (nI 0)), (4, .int o0), (5, .int n0)]) cx dX5_copy_35 (by decide) rfl ?_
          refine g_aload cx dX5_copy_37 1 rfl ?_
          refine g_Vi (rest := []) (As := []) (wr := ([0, 1, 2, 3, 4, 5, 6, 7, 8, 9, 10, 11, 12, 13, 14, 15, 16, 17, 18, 19, 20, 21, 22, 23, 24, 25, 28].filterMap (fun i => (xW E a c g)[i]?))) cx hYX1_isMissing gX5_copy_X1_isMissing (c_X1_isMissing l E (fun i => a (26 + i)) (c.2.2.2.2.2.1 3, c.2.2.2.2.2.2.1 3, c.2.2.2.2.2.2.2.1 3)  ) rfl rfl rfl [26, 27] [0, 1, 2, 3, 4, 5, 6, 7, 8, 9, 10, 11, 12, 13, 14, 15, 16, 17, 18, 19, 20, 21, 22, 23, 24, 25, 28] rfl rfl rfl rfl (by decide) ⟨Nat.le_of_ble_eq_true rfl, Nat.le_of_ble_eq_true rfl⟩ rfl rfl (Nat.le_of_ble_eq_true rfl) ⟨Nat.le_of_ble_eq_true rfl, Nat.le_of_ble_eq_true rfl⟩ dX5_copy_39 (fun r w1 hp => ?_)
          obtain ⟨rfl, rfl⟩ := hp
          refine g_ws (ws' := (xW E a c g)) [0, 1, 2, 3, 4, 5, 6, 7, 8, 9, 10, 11, 12, 13, 14, 15, 16, 17, 18, 19, 20, 21, 22, 23, 24, 25, 27, 28, 26] rfl rfl ?_
          refine g_if_ne (tgt := 53) cx dX5_copy_42 (by decide) (fun c_63 => ?_) (fun c_63 => ?_)
          · refine g_aload_n cx dX5_copy_53 2 rfl ?_
            refine g_ldc cx m1X5_copy_c211 dX5_copy_54 ?_
            refine g_VSi (rest := []) (As := [.int (-1000000006)]) cx hYX5_finding gX5_copy_X5_finding (c_X5_finding l E a c g (-1000000006) (by unfold vp_in; decide +kernel)) rfl rfl rfl ⟨Nat.le_of_ble_eq_true rfl, Nat.le_of_ble_eq_true rfl⟩ rfl rfl (Nat.le_of_ble_eq_true rfl) ⟨Nat.le_of_ble_eq_true rfl, Nat.le_of_ble_eq_true rfl⟩ dX5_copy_56 (fun r w1 hp => ?_)
            obtain ⟨rfl, rfl⟩ := hp
            exact g_iret cx gr (Nat.zero_le _) (Nat.zero_le _) dX5_copy_59 (xleaf (by rw [sp_copy, if_neg c_1, if_neg c_2, show (nI 3).toNatClampNeg = 3 from rfl, show (nI 0).toNatClampNeg = 0 from rfl, if_pos (ms_1 c_63)]; rfl))
          · refine g_aload cx dX5_copy_45 0 rfl ?_
            refine g_Vi (rest := []) (As := []) (wr := ([0, 1, 2, 3, 4, 5, 6, 7, 8, 9, 10, 11, 12, 13, 14, 15, 16, 17, 18, 19, 22, 23, 24, 25, 26, 27, 28].filterMap (fun i => (xW E a c g)[i]?))) cx hYX1_isMissing gX5_copy_X1_isMissing (c_X1_isMissing l E (fun i => a (20 + i)) (c.2.2.2.2.2.1 0, c.2.2.2.2.2.2.1 0, c.2.2.2.2.2.2.2.1 0)  ) rfl rfl rfl [20, 21] [0, 1, 2, 3, 4, 5, 6, 7, 8, 9, 10, 11, 12, 13, 14, 15, 16, 17, 18, 19, 22, 23, 24, 25, 26, 27, 28] rfl rfl rfl rfl (by decide) ⟨Nat.le_of_ble_eq_true rfl, Nat.le_of_ble_eq_true rfl⟩ rfl rfl (Nat.le_of_ble_eq_true rfl) ⟨Nat.le_of_ble_eq_true rfl, Nat.le_of_ble_eq_true rfl⟩ dX5_copy_47 (fun r w1 hp => ?_)
            obtain ⟨rfl, rfl⟩ := hp
            refine g_ws (ws' := (xW E a c g)) [0, 1, 2, 3, 4, 5, 6, 7, 8, 9, 10, 11, 12, 13, 14, 15, 16, 17, 18, 19, 27, 28, 20, 21, 22, 23, 24, 25, 26] rfl rfl ?_
            refine g_if_eq (tgt := 60) cx dX5_copy_50 (by decide) (fun c_64 => ?_) (fun c_64 => ?_)
            · refine g_aload cx dX5_copy_60 1 rfl ?_
              refine g_get (C := RX1) (T := TX1) (N := 3) (v := .int (c.2.2.2.2.2.1 3)) cx iwX5_copy_X1 26 0 rfl rfl (by decide) lkX5_copy_220 rfl dX5_copy_62 ?_
              refine g_aload cx dX5_copy_65 0 rfl ?_
              refine g_get (C := RX1) (T := TX1) (N := 3) (v := .int (c.2.2.2.2.2.1 0)) cx iwX5_copy_X1 20 0 rfl rfl (by decide) lkX5_copy_220 rfl dX5_copy_67 ?_
              refine g_icmp_eq (tgt := 80) cx dX5_copy_70 (by decide) (fun c_65 => ?_) (fun c_65 => ?_)
              · obtain ⟨Zs0, hZs0, hzs0⟩ := sz_nI (j := 3) hok (by decide)
                obtain ⟨Zt0, hZt0, hzt0⟩ := sz_nI (j := 0) hok (by decide)
                refine g_aload cx dX5_copy_80 1 rfl ?_
                refine g_iload_n cx dX5_copy_82 4 rfl ?_
                refine g_iload cx dX5_copy_83 7 rfl ?_
                refine g_Vi (rest := []) (As := [.int f0, .int n0]) (wr := ([0, 1, 2, 3, 4, 5, 6, 7, 8, 9, 10, 11, 12, 13, 14, 15, 16, 17, 18, 19, 20, 21, 22, 23, 24, 25, 28].filterMap (fun i => (xW E a c g)[i]?))) cx hYX1_hasSpan gX5_copy_X1_hasSpan (c_X1_hasSpan l E (fun i => a (26 + i)) (c.2.2.2.2.2.1 3, c.2.2.2.2.2.2.1 3, c.2.2.2.2.2.2.2.1 3) f0 n0 ) rfl rfl rfl [26, 27] [0, 1, 2, 3, 4, 5, 6, 7, 8, 9, 10, 11, 12, 13, 14, 15, 16, 17, 18, 19, 20, 21, 22, 23, 24, 25, 28] rfl rfl rfl rfl (by decide) ⟨Nat.le_of_ble_eq_true rfl, Nat.le_of_ble_eq_true rfl⟩ rfl rfl (Nat.le_of_ble_eq_true rfl) ⟨Nat.le_of_ble_eq_true rfl, Nat.le_of_ble_eq_true rfl⟩ dX5_copy_85 (fun r w1 hp => ?_)
                obtain ⟨rfl, rfl⟩ := hp
                refine g_ws (ws' := (xW E a c g)) [0, 1, 2, 3, 4, 5, 6, 7, 8, 9, 10, 11, 12, 13, 14, 15, 16, 17, 18, 19, 20, 21, 22, 23, 24, 25, 27, 28, 26] rfl rfl ?_
                refine g_if_eq (tgt := 103) cx dX5_copy_88 (by decide) (fun c_66 => ?_) (fun c_66 => ?_)
                · refine g_aload_n cx dX5_copy_103 2 rfl ?_
                  refine g_ldc cx m1X5_copy_c61 dX5_copy_104 ?_
                  refine g_VSi (rest := []) (As := [.int (-1000000001)]) cx hYX5_finding gX5_copy_X5_finding (c_X5_finding l E a c g (-1000000001) (by unfold vp_in; decide +kernel)) rfl rfl rfl ⟨Nat.le_of_ble_eq_true rfl, Nat.le_of_ble_eq_true rfl⟩ rfl rfl (Nat.le_of_ble_eq_true rfl) ⟨Nat.le_of_ble_eq_true rfl, Nat.le_of_ble_eq_true rfl⟩ dX5_copy_106 (fun r w1 hp => ?_)
                  obtain ⟨rfl, rfl⟩ := hp
                  exact g_iret cx gr (Nat.zero_le _) (Nat.zero_le _) dX5_copy_109 (xleaf (by rw [sp_copy, if_neg c_1, if_neg c_2, show (nI 3).toNatClampNeg = 3 from rfl, show (nI 0).toNatClampNeg = 0 from rfl, if_neg (ms_0 c_63), if_neg (ms_0 c_64), if_pos c_65, if_pos c_66]; rfl))
                · refine g_aload cx dX5_copy_91 0 rfl ?_
                  refine g_iload cx dX5_copy_93 6 rfl ?_
                  refine g_iload cx dX5_copy_95 7 rfl ?_
                  refine g_Vi (rest := []) (As := [.int o0, .int n0]) (wr := ([0, 1, 2, 3, 4, 5, 6, 7, 8, 9, 10, 11, 12, 13, 14, 15, 16, 17, 18, 19, 22, 23, 24, 25, 26, 27, 28].filterMap (fun i => (xW E a c g)[i]?))) cx hYX1_hasSpan gX5_copy_X1_hasSpan (c_X1_hasSpan l E (fun i => a (20 + i)) (c.2.2.2.2.2.1 0, c.2.2.2.2.2.2.1 0, c.2.2.2.2.2.2.2.1 0) o0 n0 ) rfl rfl rfl [20, 21] [0, 1, 2, 3, 4, 5, 6, 7, 8, 9, 10, 11, 12, 13, 14, 15, 16, 17, 18, 19, 22, 23, 24, 25, 26, 27, 28] rfl rfl rfl rfl (by decide) ⟨Nat.le_of_ble_eq_true rfl, Nat.le_of_ble_eq_true rfl⟩ rfl rfl (Nat.le_of_ble_eq_true rfl) ⟨Nat.le_of_ble_eq_true rfl, Nat.le_of_ble_eq_true rfl⟩ dX5_copy_97 (fun r w1 hp => ?_)
                  obtain ⟨rfl, rfl⟩ := hp
                  refine g_ws (ws' := (xW E a c g)) [0, 1, 2, 3, 4, 5, 6, 7, 8, 9, 10, 11, 12, 13, 14, 15, 16, 17, 18, 19, 27, 28, 20, 21, 22, 23, 24, 25, 26] rfl rfl ?_
                  refine g_if_ne (tgt := 110) cx dX5_copy_100 (by decide) (fun c_67 => ?_) (fun c_67 => ?_)
                  · refine g_aload cx dX5_copy_110 1 rfl ?_
                    refine g_get (C := RX1) (T := TX1) (N := 3) (v := .ref (a 27)) cx iwX5_copy_X1 26 2 rfl rfl (by decide) lkX5_copy_212 rfl dX5_copy_112 ?_
                    refine g_iload_n cx dX5_copy_115 4 rfl ?_
                    refine g_aload cx dX5_copy_116 0 rfl ?_
                    refine g_get (C := RX1) (T := TX1) (N := 3) (v := .ref (a 21)) cx iwX5_copy_X1 20 2 rfl rfl (by decide) lkX5_copy_212 rfl dX5_copy_118 ?_
                    refine g_iload cx dX5_copy_121 6 rfl ?_
                    refine g_iload cx dX5_copy_123 7 rfl ?_
                    have ok1 := hsp_ok c_66 hzs0 hZs0
                    have ok2 := hsp_ok c_67 hzt0 hZt0
                    refine g_copyL (ws' := (xW E a (c.1, c.2.1, c.2.2.1, c.2.2.2.1, c.2.2.2.2.1, c.2.2.2.2.2.1, c.2.2.2.2.2.2.1, upN c.2.2.2.2.2.2.2.1 0 (va_cpy (c.2.2.2.2.2.2.2.1 3) (c.2.2.2.2.2.2.2.1 0) f0.toNatClampNeg o0.toNatClampNeg n0.toNatClampNeg), c.2.2.2.2.2.2.2.2) g)) cx mwX5_copy_ac 27 21 rfl rfl ok1.1 ok2.1 ok1.2.1 ok1.2.2 ok2.2.2 (by decide) (Nat.le_of_ble_eq_true rfl) dX5_copy_125 rfl ?_
                    refine g_iload cx dX5_copy_128 7 rfl ?_
                    exact g_iret cx gr (Nat.zero_le _) (Nat.zero_le _) dX5_copy_130 (xleaf (by rw [sp_copy, if_neg c_1, if_neg c_2, show (nI 3).toNatClampNeg = 3 from rfl, show (nI 0).toNatClampNeg = 0 from rfl, if_neg (ms_0 c_63), if_neg (ms_0 c_64), if_pos c_65, if_neg c_66, if_neg c_67]; rfl))
                  · refine g_aload_n cx dX5_copy_103 2 rfl ?_
                    refine g_ldc cx m1X5_copy_c61 dX5_copy_104 ?_
                    refine g_VSi (rest := []) (As := [.int (-1000000001)]) cx hYX5_finding gX5_copy_X5_finding (c_X5_finding l E a c g (-1000000001) (by unfold vp_in; decide +kernel)) rfl rfl rfl ⟨Nat.le_of_ble_eq_true rfl, Nat.le_of_ble_eq_true rfl⟩ rfl rfl (Nat.le_of_ble_eq_true rfl) ⟨Nat.le_of_ble_eq_true rfl, Nat.le_of_ble_eq_true rfl⟩ dX5_copy_106 (fun r w1 hp => ?_)
                    obtain ⟨rfl, rfl⟩ := hp
                    exact g_iret cx gr (Nat.zero_le _) (Nat.zero_le _) dX5_copy_109 (xleaf (by rw [sp_copy, if_neg c_1, if_neg c_2, show (nI 3).toNatClampNeg = 3 from rfl, show (nI 0).toNatClampNeg = 0 from rfl, if_neg (ms_0 c_63), if_neg (ms_0 c_64), if_pos c_65, if_neg c_66, if_pos c_67]; rfl))
              · refine g_aload_n cx dX5_copy_73 2 rfl ?_
                refine g_ldc cx m1X5_copy_c145 dX5_copy_74 ?_
                refine g_VSi (rest := []) (As := [.int (-1000000003)]) cx hYX5_finding gX5_copy_X5_finding (c_X5_finding l E a c g (-1000000003) (by unfold vp_in; decide +kernel)) rfl rfl rfl ⟨Nat.le_of_ble_eq_true rfl, Nat.le_of_ble_eq_true rfl⟩ rfl rfl (Nat.le_of_ble_eq_true rfl) ⟨Nat.le_of_ble_eq_true rfl, Nat.le_of_ble_eq_true rfl⟩ dX5_copy_76 (fun r w1 hp => ?_)
                obtain ⟨rfl, rfl⟩ := hp
                exact g_iret cx gr (Nat.zero_le _) (Nat.zero_le _) dX5_copy_79 (xleaf (by rw [sp_copy, if_neg c_1, if_neg c_2, show (nI 3).toNatClampNeg = 3 from rfl, show (nI 0).toNatClampNeg = 0 from rfl, if_neg (ms_0 c_63), if_neg (ms_0 c_64), if_neg c_65]; rfl))
            · refine g_aload_n cx dX5_copy_53 2 rfl ?_
              refine g_ldc cx m1X5_copy_c211 dX5_copy_54 ?_
              refine g_VSi (rest := []) (As := [.int (-1000000006)]) cx hYX5_finding gX5_copy_X5_finding (c_X5_finding l E a c g (-1000000006) (by unfold vp_in; decide +kernel)) rfl rfl rfl ⟨Nat.le_of_ble_eq_true rfl, Nat.le_of_ble_eq_true rfl⟩ rfl rfl (Nat.le_of_ble_eq_true rfl) ⟨Nat.le_of_ble_eq_true rfl, Nat.le_of_ble_eq_true rfl⟩ dX5_copy_56 (fun r w1 hp => ?_)
              obtain ⟨rfl, rfl⟩ := hp
              exact g_iret cx gr (Nat.zero_le _) (Nat.zero_le _) dX5_copy_59 (xleaf (by rw [sp_copy, if_neg c_1, if_neg c_2, show (nI 3).toNatClampNeg = 3 from rfl, show (nI 0).toNatClampNeg = 0 from rfl, if_neg (ms_0 c_63), if_pos (ms_1 c_64)]; rfl))
        · refine g_aload_n cx dX5_copy_29 1 rfl ?_
          refine g_get (C := RX5) (T := TX5) (N := 8) (v := .ref (a 19)) cx iwX5_copy_X5 0 6 rfl rfl (by decide) lkX5_copy_44 rfl dX5_copy_30 ?_
          refine g_iload_n cx dX5_copy_33 4 rfl ?_
          refine g_aald (v := a 22) cx 19 rfl rfl (vp_in_nI (by decide) (by decide)) rfl dX5_copy_34 ?_
          refine g_astore (lv' := [(7, .ref (a 22)), (6, .ref (a 26)), (0, .ref (a 0)), (1, .int (nI 3)), (2, .int f0), (3, .int (nI 1)), (4, .int o0), (5, .int n0)]) cx dX5_copy_35 (by decide) rfl ?_
          refine g_aload cx dX5_copy_37 1 rfl ?_
          refine g_Vi (rest := []) (As := []) (wr := ([0, 1, 2, 3, 4, 5, 6, 7, 8, 9, 10, 11, 12, 13, 14, 15, 16, 17, 18, 19, 20, 21, 22, 23, 24, 25, 28].filterMap (fun i => (xW E a c g)[i]?))) cx hYX1_isMissing gX5_copy_X1_isMissing (c_X1_isMissing l E (fun i => a (26 + i)) (c.2.2.2.2.2.1 3, c.2.2.2.2.2.2.1 3, c.2.2.2.2.2.2.2.1 3)  ) rfl rfl rfl [26, 27] [0, 1, 2, 3, 4, 5, 6, 7, 8, 9, 10, 11, 12, 13, 14, 15, 16, 17, 18, 19, 20, 21, 22, 23, 24, 25, 28] rfl rfl rfl rfl (by decide) ⟨Nat.le_of_ble_eq_true rfl, Nat.le_of_ble_eq_true rfl⟩ rfl rfl (Nat.le_of_ble_eq_true rfl) ⟨Nat.le_of_ble_eq_true rfl, Nat.le_of_ble_eq_true rfl⟩ dX5_copy_39 (fun r w1 hp => ?_)
          obtain ⟨rfl, rfl⟩ := hp
          refine g_ws (ws' := (xW E a c g)) [0, 1, 2, 3, 4, 5, 6, 7, 8, 9, 10, 11, 12, 13, 14, 15, 16, 17, 18, 19, 20, 21, 22, 23, 24, 25, 27, 28, 26] rfl rfl ?_
          refine g_if_ne (tgt := 53) cx dX5_copy_42 (by decide) (fun c_68 => ?_) (fun c_68 => ?_)
          · refine g_aload_n cx dX5_copy_53 2 rfl ?_
            refine g_ldc cx m1X5_copy_c211 dX5_copy_54 ?_
            refine g_VSi (rest := []) (As := [.int (-1000000006)]) cx hYX5_finding gX5_copy_X5_finding (c_X5_finding l E a c g (-1000000006) (by unfold vp_in; decide +kernel)) rfl rfl rfl ⟨Nat.le_of_ble_eq_true rfl, Nat.le_of_ble_eq_true rfl⟩ rfl rfl (Nat.le_of_ble_eq_true rfl) ⟨Nat.le_of_ble_eq_true rfl, Nat.le_of_ble_eq_true rfl⟩ dX5_copy_56 (fun r w1 hp => ?_)
            obtain ⟨rfl, rfl⟩ := hp
            exact g_iret cx gr (Nat.zero_le _) (Nat.zero_le _) dX5_copy_59 (xleaf (by rw [sp_copy, if_neg c_1, if_neg c_2, show (nI 3).toNatClampNeg = 3 from rfl, show (nI 1).toNatClampNeg = 1 from rfl, if_pos (ms_1 c_68)]; rfl))
          · refine g_aload cx dX5_copy_45 0 rfl ?_
            refine g_Vi (rest := []) (As := []) (wr := ([0, 1, 2, 3, 4, 5, 6, 7, 8, 9, 10, 11, 12, 13, 14, 15, 16, 17, 18, 19, 20, 21, 24, 25, 26, 27, 28].filterMap (fun i => (xW E a c g)[i]?))) cx hYX1_isMissing gX5_copy_X1_isMissing (c_X1_isMissing l E (fun i => a (22 + i)) (c.2.2.2.2.2.1 1, c.2.2.2.2.2.2.1 1, c.2.2.2.2.2.2.2.1 1)  ) rfl rfl rfl [22, 23] [0, 1, 2, 3, 4, 5, 6, 7, 8, 9, 10, 11, 12, 13, 14, 15, 16, 17, 18, 19, 20, 21, 24, 25, 26, 27, 28] rfl rfl rfl rfl (by decide) ⟨Nat.le_of_ble_eq_true rfl, Nat.le_of_ble_eq_true rfl⟩ rfl rfl (Nat.le_of_ble_eq_true rfl) ⟨Nat.le_of_ble_eq_true rfl, Nat.le_of_ble_eq_true rfl⟩ dX5_copy_47 (fun r w1 hp => ?_)
            obtain ⟨rfl, rfl⟩ := hp
            refine g_ws (ws' := (xW E a c g)) [0, 1, 2, 3, 4, 5, 6, 7, 8, 9, 10, 11, 12, 13, 14, 15, 16, 17, 18, 19, 20, 21, 27, 28, 22, 23, 24, 25, 26] rfl rfl ?_
            refine g_if_eq (tgt := 60) cx dX5_copy_50 (by decide) (fun c_69 => ?_) (fun c_69 => ?_)
            · refine g_aload cx dX5_copy_60 1 rfl ?_
              refine g_get (C := RX1) (T := TX1) (N := 3) (v := .int (c.2.2.2.2.2.1 3)) cx iwX5_copy_X1 26 0 rfl rfl (by decide) lkX5_copy_220 rfl dX5_copy_62 ?_
              refine g_aload cx dX5_copy_65 0 rfl ?_
              refine g_get (C := RX1) (T := TX1) (N := 3) (v := .int (c.2.2.2.2.2.1 1)) cx iwX5_copy_X1 22 0 rfl rfl (by decide) lkX5_copy_220 rfl dX5_copy_67 ?_
              refine g_icmp_eq (tgt := 80) cx dX5_copy_70 (by decide) (fun c_70 => ?_) (fun c_70 => ?_)
              · obtain ⟨Zs0, hZs0, hzs0⟩ := sz_nI (j := 3) hok (by decide)
                obtain ⟨Zt0, hZt0, hzt0⟩ := sz_nI (j := 1) hok (by decide)
                refine g_aload cx dX5_copy_80 1 rfl ?_
                refine g_iload_n cx dX5_copy_82 4 rfl ?_
                refine g_iload cx dX5_copy_83 7 rfl ?_
                refine g_Vi (rest := []) (As := [.int f0, .int n0]) (wr := ([0, 1, 2, 3, 4, 5, 6, 7, 8, 9, 10, 11, 12, 13, 14, 15, 16, 17, 18, 19, 20, 21, 22, 23, 24, 25, 28].filterMap (fun i => (xW E a c g)[i]?))) cx hYX1_hasSpan gX5_copy_X1_hasSpan (c_X1_hasSpan l E (fun i => a (26 + i)) (c.2.2.2.2.2.1 3, c.2.2.2.2.2.2.1 3, c.2.2.2.2.2.2.2.1 3) f0 n0 ) rfl rfl rfl [26, 27] [0, 1, 2, 3, 4, 5, 6, 7, 8, 9, 10, 11, 12, 13, 14, 15, 16, 17, 18, 19, 20, 21, 22, 23, 24, 25, 28] rfl rfl rfl rfl (by decide) ⟨Nat.le_of_ble_eq_true rfl, Nat.le_of_ble_eq_true rfl⟩ rfl rfl (Nat.le_of_ble_eq_true rfl) ⟨Nat.le_of_ble_eq_true rfl, Nat.le_of_ble_eq_true rfl⟩ dX5_copy_85 (fun r w1 hp => ?_)
                obtain ⟨rfl, rfl⟩ := hp
                refine g_ws (ws' := (xW E a c g)) [0, 1, 2, 3, 4, 5, 6, 7, 8, 9, 10, 11, 12, 13, 14, 15, 16, 17, 18, 19, 20, 21, 22, 23, 24, 25, 27, 28, 26] rfl rfl ?_
                refine g_if_eq (tgt := 103) cx dX5_copy_88 (by decide) (fun c_71 => ?_) (fun c_71 => ?_)
                · refine g_aload_n cx dX5_copy_103 2 rfl ?_
                  refine g_ldc cx m1X5_copy_c61 dX5_copy_104 ?_
                  refine g_VSi (rest := []) (As := [.int (-1000000001)]) cx hYX5_finding gX5_copy_X5_finding (c_X5_finding l E a c g (-1000000001) (by unfold vp_in; decide +kernel)) rfl rfl rfl ⟨Nat.le_of_ble_eq_true rfl, Nat.le_of_ble_eq_true rfl⟩ rfl rfl (Nat.le_of_ble_eq_true rfl) ⟨Nat.le_of_ble_eq_true rfl, Nat.le_of_ble_eq_true rfl⟩ dX5_copy_106 (fun r w1 hp => ?_)
                  obtain ⟨rfl, rfl⟩ := hp
                  exact g_iret cx gr (Nat.zero_le _) (Nat.zero_le _) dX5_copy_109 (xleaf (by rw [sp_copy, if_neg c_1, if_neg c_2, show (nI 3).toNatClampNeg = 3 from rfl, show (nI 1).toNatClampNeg = 1 from rfl, if_neg (ms_0 c_68), if_neg (ms_0 c_69), if_pos c_70, if_pos c_71]; rfl))
                · refine g_aload cx dX5_copy_91 0 rfl ?_
                  refine g_iload cx dX5_copy_93 6 rfl ?_
                  refine g_iload cx dX5_copy_95 7 rfl ?_
                  refine g_Vi (rest := []) (As := [.int o0, .int n0]) (wr := ([0, 1, 2, 3, 4, 5, 6, 7, 8, 9, 10, 11, 12, 13, 14, 15, 16, 17, 18, 19, 20, 21, 24, 25, 26, 27, 28].filterMap (fun i => (xW E a c g)[i]?))) cx hYX1_hasSpan gX5_copy_X1_hasSpan (c_X1_hasSpan l E (fun i => a (22 + i)) (c.2.2.2.2.2.1 1, c.2.2.2.2.2.2.1 1, c.2.2.2.2.2.2.2.1 1) o0 n0 ) rfl rfl rfl [22, 23] [0, 1, 2, 3, 4, 5, 6, 7, 8, 9, 10, 11, 12, 13, 14, 15, 16, 17, 18, 19, 20, 21, 24, 25, 26, 27, 28] rfl rfl rfl rfl (by decide) ⟨Nat.le_of_ble_eq_true rfl, Nat.le_of_ble_eq_true rfl⟩ rfl rfl (Nat.le_of_ble_eq_true rfl) ⟨Nat.le_of_ble_eq_true rfl, Nat.le_of_ble_eq_true rfl⟩ dX5_copy_97 (fun r w1 hp => ?_)
                  obtain ⟨rfl, rfl⟩ := hp
                  refine g_ws (ws' := (xW E a c g)) [0, 1, 2, 3, 4, 5, 6, 7, 8, 9, 10, 11, 12, 13, 14, 15, 16, 17, 18, 19, 20, 21, 27, 28, 22, 23, 24, 25, 26] rfl rfl ?_
                  refine g_if_ne (tgt := 110) cx dX5_copy_100 (by decide) (fun c_72 => ?_) (fun c_72 => ?_)
                  · refine g_aload cx dX5_copy_110 1 rfl ?_
                    refine g_get (C := RX1) (T := TX1) (N := 3) (v := .ref (a 27)) cx iwX5_copy_X1 26 2 rfl rfl (by decide) lkX5_copy_212 rfl dX5_copy_112 ?_
                    refine g_iload_n cx dX5_copy_115 4 rfl ?_
                    refine g_aload cx dX5_copy_116 0 rfl ?_
                    refine g_get (C := RX1) (T := TX1) (N := 3) (v := .ref (a 23)) cx iwX5_copy_X1 22 2 rfl rfl (by decide) lkX5_copy_212 rfl dX5_copy_118 ?_
                    refine g_iload cx dX5_copy_121 6 rfl ?_
                    refine g_iload cx dX5_copy_123 7 rfl ?_
                    have ok1 := hsp_ok c_71 hzs0 hZs0
                    have ok2 := hsp_ok c_72 hzt0 hZt0
                    refine g_copyL (ws' := (xW E a (c.1, c.2.1, c.2.2.1, c.2.2.2.1, c.2.2.2.2.1, c.2.2.2.2.2.1, c.2.2.2.2.2.2.1, upN c.2.2.2.2.2.2.2.1 1 (va_cpy (c.2.2.2.2.2.2.2.1 3) (c.2.2.2.2.2.2.2.1 1) f0.toNatClampNeg o0.toNatClampNeg n0.toNatClampNeg), c.2.2.2.2.2.2.2.2) g)) cx mwX5_copy_ac 27 23 rfl rfl ok1.1 ok2.1 ok1.2.1 ok1.2.2 ok2.2.2 (by decide) (Nat.le_of_ble_eq_true rfl) dX5_copy_125 rfl ?_
                    refine g_iload cx dX5_copy_128 7 rfl ?_
                    exact g_iret cx gr (Nat.zero_le _) (Nat.zero_le _) dX5_copy_130 (xleaf (by rw [sp_copy, if_neg c_1, if_neg c_2, show (nI 3).toNatClampNeg = 3 from rfl, show (nI 1).toNatClampNeg = 1 from rfl, if_neg (ms_0 c_68), if_neg (ms_0 c_69), if_pos c_70, if_neg c_71, if_neg c_72]; rfl))
                  · refine g_aload_n cx dX5_copy_103 2 rfl ?_
                    refine g_ldc cx m1X5_copy_c61 dX5_copy_104 ?_
                    refine g_VSi (rest := []) (As := [.int (-1000000001)]) cx hYX5_finding gX5_copy_X5_finding (c_X5_finding l E a c g (-1000000001) (by unfold vp_in; decide +kernel)) rfl rfl rfl ⟨Nat.le_of_ble_eq_true rfl, Nat.le_of_ble_eq_true rfl⟩ rfl rfl (Nat.le_of_ble_eq_true rfl) ⟨Nat.le_of_ble_eq_true rfl, Nat.le_of_ble_eq_true rfl⟩ dX5_copy_106 (fun r w1 hp => ?_)
                    obtain ⟨rfl, rfl⟩ := hp
                    exact g_iret cx gr (Nat.zero_le _) (Nat.zero_le _) dX5_copy_109 (xleaf (by rw [sp_copy, if_neg c_1, if_neg c_2, show (nI 3).toNatClampNeg = 3 from rfl, show (nI 1).toNatClampNeg = 1 from rfl, if_neg (ms_0 c_68), if_neg (ms_0 c_69), if_pos c_70, if_neg c_71, if_pos c_72]; rfl))
              · refine g_aload_n cx dX5_copy_73 2 rfl ?_
                refine g_ldc cx m1X5_copy_c145 dX5_copy_74 ?_
                refine g_VSi (rest := []) (As := [.int (-1000000003)]) cx hYX5_finding gX5_copy_X5_finding (c_X5_finding l E a c g (-1000000003) (by unfold vp_in; decide +kernel)) rfl rfl rfl ⟨Nat.le_of_ble_eq_true rfl, Nat.le_of_ble_eq_true rfl⟩ rfl rfl (Nat.le_of_ble_eq_true rfl) ⟨Nat.le_of_ble_eq_true rfl, Nat.le_of_ble_eq_true rfl⟩ dX5_copy_76 (fun r w1 hp => ?_)
                obtain ⟨rfl, rfl⟩ := hp
                exact g_iret cx gr (Nat.zero_le _) (Nat.zero_le _) dX5_copy_79 (xleaf (by rw [sp_copy, if_neg c_1, if_neg c_2, show (nI 3).toNatClampNeg = 3 from rfl, show (nI 1).toNatClampNeg = 1 from rfl, if_neg (ms_0 c_68), if_neg (ms_0 c_69), if_neg c_70]; rfl))
            · refine g_aload_n cx dX5_copy_53 2 rfl ?_
              refine g_ldc cx m1X5_copy_c211 dX5_copy_54 ?_
              refine g_VSi (rest := []) (As := [.int (-1000000006)]) cx hYX5_finding gX5_copy_X5_finding (c_X5_finding l E a c g (-1000000006) (by unfold vp_in; decide +kernel)) rfl rfl rfl ⟨Nat.le_of_ble_eq_true rfl, Nat.le_of_ble_eq_true rfl⟩ rfl rfl (Nat.le_of_ble_eq_true rfl) ⟨Nat.le_of_ble_eq_true rfl, Nat.le_of_ble_eq_true rfl⟩ dX5_copy_56 (fun r w1 hp => ?_)
              obtain ⟨rfl, rfl⟩ := hp
              exact g_iret cx gr (Nat.zero_le _) (Nat.zero_le _) dX5_copy_59 (xleaf (by rw [sp_copy, if_neg c_1, if_neg c_2, show (nI 3).toNatClampNeg = 3 from rfl, show (nI 1).toNatClampNeg = 1 from rfl, if_neg (ms_0 c_68), if_pos (ms_1 c_69)]; rfl))
        · refine g_aload_n cx dX5_copy_29 1 rfl ?_
          refine g_get (C := RX5) (T := TX5) (N := 8) (v := .ref (a 19)) cx iwX5_copy_X5 0 6 rfl rfl (by decide) lkX5_copy_44 rfl dX5_copy_30 ?_
          refine g_iload_n cx dX5_copy_33 4 rfl ?_
          refine g_aald (v := a 24) cx 19 rfl rfl (vp_in_nI (by decide) (by decide)) rfl dX5_copy_34 ?_
          refine g_astore (lv' := [(7, .ref (a 24)), (6, .ref (a 26)), (0, .ref (a 0)), (1, .int (nI 3)), (2, .int f0), (3, .int (nI 2)), (4, .int o0), (5, .int n0)]) cx dX5_copy_35 (by decide) rfl ?_
          refine g_aload cx dX5_copy_37 1 rfl ?_
          refine g_Vi (rest := []) (As := []) (wr := ([0, 1, 2, 3, 4, 5, 6, 7, 8, 9, 10, 11, 12, 13, 14, 15, 16, 17, 18, 19, 20, 21, 22, 23, 24, 25, 28].filterMap (fun i => (xW E a c g)[i]?))) cx hYX1_isMissing gX5_copy_X1_isMissing (c_X1_isMissing l E (fun i => a (26 + i)) (c.2.2.2.2.2.1 3, c.2.2.2.2.2.2.1 3, c.2.2.2.2.2.2.2.1 3)  ) rfl rfl rfl [26, 27] [0, 1, 2, 3, 4, 5, 6, 7, 8, 9, 10, 11, 12, 13, 14, 15, 16, 17, 18, 19, 20, 21, 22, 23, 24, 25, 28] rfl rfl rfl rfl (by decide) ⟨Nat.le_of_ble_eq_true rfl, Nat.le_of_ble_eq_true rfl⟩ rfl rfl (Nat.le_of_ble_eq_true rfl) ⟨Nat.le_of_ble_eq_true rfl, Nat.le_of_ble_eq_true rfl⟩ dX5_copy_39 (fun r w1 hp => ?_)
          obtain ⟨rfl, rfl⟩ := hp
          refine g_ws (ws' := (xW E a c g)) [0, 1, 2, 3, 4, 5, 6, 7, 8, 9, 10, 11, 12, 13, 14, 15, 16, 17, 18, 19, 20, 21, 22, 23, 24, 25, 27, 28, 26] rfl rfl ?_
          refine g_if_ne (tgt := 53) cx dX5_copy_42 (by decide) (fun c_73 => ?_) (fun c_73 => ?_)
          · refine g_aload_n cx dX5_copy_53 2 rfl ?_
            refine g_ldc cx m1X5_copy_c211 dX5_copy_54 ?_
            refine g_VSi (rest := []) (As := [.int (-1000000006)]) cx hYX5_finding gX5_copy_X5_finding (c_X5_finding l E a c g (-1000000006) (by unfold vp_in; decide +kernel)) rfl rfl rfl ⟨Nat.le_of_ble_eq_true rfl, Nat.le_of_ble_eq_true rfl⟩ rfl rfl (Nat.le_of_ble_eq_true rfl) ⟨Nat.le_of_ble_eq_true rfl, Nat.le_of_ble_eq_true rfl⟩ dX5_copy_56 (fun r w1 hp => ?_)
            obtain ⟨rfl, rfl⟩ := hp
            exact g_iret cx gr (Nat.zero_le _) (Nat.zero_le _) dX5_copy_59 (xleaf (by rw [sp_copy, if_neg c_1, if_neg c_2, show (nI 3).toNatClampNeg = 3 from rfl, show (nI 2).toNatClampNeg = 2 from rfl, if_pos (ms_1 c_73)]; rfl))
          · refine g_aload cx dX5_copy_45 0 rfl ?_
            refine g_Vi (rest := []) (As := []) (wr := ([0, 1, 2, 3, 4, 5, 6, 7, 8, 9, 10, 11, 12, 13, 14, 15, 16, 17, 18, 19, 20, 21, 22, 23, 26, 27, 28].filterMap (fun i => (xW E a c g)[i]?))) cx hYX1_isMissing gX5_copy_X1_isMissing (c_X1_isMissing l E (fun i => a (24 + i)) (c.2.2.2.2.2.1 2, c.2.2.2.2.2.2.1 2, c.2.2.2.2.2.2.2.1 2)  ) rfl rfl rfl [24, 25] [0, 1, 2, 3, 4, 5, 6, 7, 8, 9, 10, 11, 12, 13, 14, 15, 16, 17, 18, 19, 20, 21, 22, 23, 26, 27, 28] rfl rfl rfl rfl (by decide) ⟨Nat.le_of_ble_eq_true rfl, Nat.le_of_ble_eq_true rfl⟩ rfl rfl (Nat.le_of_ble_eq_true rfl) ⟨Nat.le_of_ble_eq_true rfl, Nat.le_of_ble_eq_true rfl⟩ dX5_copy_47 (fun r w1 hp => ?_)
            obtain ⟨rfl, rfl⟩ := hp
            refine g_ws (ws' := (xW E a c g)) [0, 1, 2, 3, 4, 5, 6, 7, 8, 9, 10, 11, 12, 13, 14, 15, 16, 17, 18, 19, 20, 21, 22, 23, 27, 28, 24, 25, 26] rfl rfl ?_
            refine g_if_eq (tgt := 60) cx dX5_copy_50 (by decide) (fun c_74 => ?_) (fun c_74 => ?_)
            · refine g_aload cx dX5_copy_60 1 rfl ?_
              refine g_get (C := RX1) (T := TX1) (N := 3) (v := .int (c.2.2.2.2.2.1 3)) cx iwX5_copy_X1 26 0 rfl rfl (by decide) lkX5_copy_220 rfl dX5_copy_62 ?_
              refine g_aload cx dX5_copy_65 0 rfl ?_
              refine g_get (C := RX1) (T := TX1) (N := 3) (v := .int (c.2.2.2.2.2.1 2)) cx iwX5_copy_X1 24 0 rfl rfl (by decide) lkX5_copy_220 rfl dX5_copy_67 ?_
              refine g_icmp_eq (tgt := 80) cx dX5_copy_70 (by decide) (fun c_75 => ?_) (fun c_75 => ?_)
              · obtain ⟨Zs0, hZs0, hzs0⟩ := sz_nI (j := 3) hok (by decide)
                obtain ⟨Zt0, hZt0, hzt0⟩ := sz_nI (j := 2) hok (by decide)
                refine g_aload cx dX5_copy_80 1 rfl ?_
                refine g_iload_n cx dX5_copy_82 4 rfl ?_
                refine g_iload cx dX5_copy_83 7 rfl ?_
                refine g_Vi (rest := []) (As := [.int f0, .int n0]) (wr := ([0, 1, 2, 3, 4, 5, 6, 7, 8, 9, 10, 11, 12, 13, 14, 15, 16, 17, 18, 19, 20, 21, 22, 23, 24, 25, 28].filterMap (fun i => (xW E a c g)[i]?))) cx hYX1_hasSpan gX5_copy_X1_hasSpan (c_X1_hasSpan l E (fun i => a (26 + i)) (c.2.2.2.2.2.1 3, c.2.2.2.2.2.2.1 3, c.2.2.2.2.2.2.2.1 3) f0 n0 ) rfl rfl rfl [26, 27] [0, 1, 2, 3, 4, 5, 6, 7, 8, 9, 10, 11, 12, 13, 14, 15, 16, 17, 18, 19, 20, 21, 22, 23, 24, 25, 28] rfl rfl rfl rfl (by decide) ⟨Nat.le_of_ble_eq_true rfl, Nat.le_of_ble_eq_true rfl⟩ rfl rfl (Nat.le_of_ble_eq_true rfl) ⟨Nat.le_of_ble_eq_true rfl, Nat.le_of_ble_eq_true rfl⟩ dX5_copy_85 (fun r w1 hp => ?_)
                obtain ⟨rfl, rfl⟩ := hp
                refine g_ws (ws' := (xW E a c g)) [0, 1, 2, 3, 4, 5, 6, 7, 8, 9, 10, 11, 12, 13, 14, 15, 16, 17, 18, 19, 20, 21, 22, 23, 24, 25, 27, 28, 26] rfl rfl ?_
                refine g_if_eq (tgt := 103) cx dX5_copy_88 (by decide) (fun c_76 => ?_) (fun c_76 => ?_)
                · refine g_aload_n cx dX5_copy_103 2 rfl ?_
                  refine g_ldc cx m1X5_copy_c61 dX5_copy_104 ?_
                  refine g_VSi (rest := []) (As := [.int (-1000000001)]) cx hYX5_finding gX5_copy_X5_finding (c_X5_finding l E a c g (-1000000001) (by unfold vp_in; decide +kernel)) rfl rfl rfl ⟨Nat.le_of_ble_eq_true rfl, Nat.le_of_ble_eq_true rfl⟩ rfl rfl (Nat.le_of_ble_eq_true rfl) ⟨Nat.le_of_ble_eq_true rfl, Nat.le_of_ble_eq_true rfl⟩ dX5_copy_106 (fun r w1 hp => ?_)
                  obtain ⟨rfl, rfl⟩ := hp
                  exact g_iret cx gr (Nat.zero_le _) (Nat.zero_le _) dX5_copy_109 (xleaf (by rw [sp_copy, if_neg c_1, if_neg c_2, show (nI 3).toNatClampNeg = 3 from rfl, show (nI 2).toNatClampNeg = 2 from rfl, if_neg (ms_0 c_73), if_neg (ms_0 c_74), if_pos c_75, if_pos c_76]; rfl))
                · refine g_aload cx dX5_copy_91 0 rfl ?_
                  refine g_iload cx dX5_copy_93 6 rfl ?_
                  refine g_iload cx dX5_copy_95 7 rfl ?_
                  refine g_Vi (rest := []) (As := [.int o0, .int n0]) (wr := ([0, 1, 2, 3, 4, 5, 6, 7, 8, 9, 10, 11, 12, 13, 14, 15, 16, 17, 18, 19, 20, 21, 22, 23, 26, 27, 28].filterMap (fun i => (xW E a c g)[i]?))) cx hYX1_hasSpan gX5_copy_X1_hasSpan (c_X1_hasSpan l E (fun i => a (24 + i)) (c.2.2.2.2.2.1 2, c.2.2.2.2.2.2.1 2, c.2.2.2.2.2.2.2.1 2) o0 n0 ) rfl rfl rfl [24, 25] [0, 1, 2, 3, 4, 5, 6, 7, 8, 9, 10, 11, 12, 13, 14, 15, 16, 17, 18, 19, 20, 21, 22, 23, 26, 27, 28] rfl rfl rfl rfl (by decide) ⟨Nat.le_of_ble_eq_true rfl, Nat.le_of_ble_eq_true rfl⟩ rfl rfl (Nat.le_of_ble_eq_true rfl) ⟨Nat.le_of_ble_eq_true rfl, Nat.le_of_ble_eq_true rfl⟩ dX5_copy_97 (fun r w1 hp => ?_)
                  obtain ⟨rfl, rfl⟩ := hp
                  refine g_ws (ws' := (xW E a c g)) [0, 1, 2, 3, 4, 5, 6, 7, 8, 9, 10, 11, 12, 13, 14, 15, 16, 17, 18, 19, 20, 21, 22, 23, 27, 28, 24, 25, 26] rfl rfl ?_
                  refine g_if_ne (tgt := 110) cx dX5_copy_100 (by decide) (fun c_77 => ?_) (fun c_77 => ?_)
                  · refine g_aload cx dX5_copy_110 1 rfl ?_
                    refine g_get (C := RX1) (T := TX1) (N := 3) (v := .ref (a 27)) cx iwX5_copy_X1 26 2 rfl rfl (by decide) lkX5_copy_212 rfl dX5_copy_112 ?_
                    refine g_iload_n cx dX5_copy_115 4 rfl ?_
                    refine g_aload cx dX5_copy_116 0 rfl ?_
                    refine g_get (C := RX1) (T := TX1) (N := 3) (v := .ref (a 25)) cx iwX5_copy_X1 24 2 rfl rfl (by decide) lkX5_copy_212 rfl dX5_copy_118 ?_
                    refine g_iload cx dX5_copy_121 6 rfl ?_
                    refine g_iload cx dX5_copy_123 7 rfl ?_
                    have ok1 := hsp_ok c_76 hzs0 hZs0
                    have ok2 := hsp_ok c_77 hzt0 hZt0
                    refine g_copyL (ws' := (xW E a (c.1, c.2.1, c.2.2.1, c.2.2.2.1, c.2.2.2.2.1, c.2.2.2.2.2.1, c.2.2.2.2.2.2.1, upN c.2.2.2.2.2.2.2.1 2 (va_cpy (c.2.2.2.2.2.2.2.1 3) (c.2.2.2.2.2.2.2.1 2) f0.toNatClampNeg o0.toNatClampNeg n0.toNatClampNeg), c.2.2.2.2.2.2.2.2) g)) cx mwX5_copy_ac 27 25 rfl rfl ok1.1 ok2.1 ok1.2.1 ok1.2.2 ok2.2.2 (by decide) (Nat.le_of_ble_eq_true rfl) dX5_copy_125 rfl ?_
                    refine g_iload cx dX5_copy_128 7 rfl ?_
                    exact g_iret cx gr (Nat.zero_le _) (Nat.zero_le _) dX5_copy_130 (xleaf (by rw [sp_copy, if_neg c_1, if_neg c_2, show (nI 3).toNatClampNeg = 3 from rfl, show (nI 2).toNatClampNeg = 2 from rfl, if_neg (ms_0 c_73), if_neg (ms_0 c_74), if_pos c_75, if_neg c_76, if_neg c_77]; rfl))
                  · refine g_aload_n cx dX5_copy_103 2 rfl ?_
                    refine g_ldc cx m1X5_copy_c61 dX5_copy_104 ?_
                    refine g_VSi (rest := []) (As := [.int (-1000000001)]) cx hYX5_finding gX5_copy_X5_finding (c_X5_finding l E a c g (-1000000001) (by unfold vp_in; decide +kernel)) rfl rfl rfl ⟨Nat.le_of_ble_eq_true rfl, Nat.le_of_ble_eq_true rfl⟩ rfl rfl (Nat.le_of_ble_eq_true rfl) ⟨Nat.le_of_ble_eq_true rfl, Nat.le_of_ble_eq_true rfl⟩ dX5_copy_106 (fun r w1 hp => ?_)
                    obtain ⟨rfl, rfl⟩ := hp
                    exact g_iret cx gr (Nat.zero_le _) (Nat.zero_le _) dX5_copy_109 (xleaf (by rw [sp_copy, if_neg c_1, if_neg c_2, show (nI 3).toNatClampNeg = 3 from rfl, show (nI 2).toNatClampNeg = 2 from rfl, if_neg (ms_0 c_73), if_neg (ms_0 c_74), if_pos c_75, if_neg c_76, if_pos c_77]; rfl))
              · refine g_aload_n cx dX5_copy_73 2 rfl ?_
                refine g_ldc cx m1X5_copy_c145 dX5_copy_74 ?_
                refine g_VSi (rest := []) (As := [.int (-1000000003)]) cx hYX5_finding gX5_copy_X5_finding (c_X5_finding l E a c g (-1000000003) (by unfold vp_in; decide +kernel)) rfl rfl rfl ⟨Nat.le_of_ble_eq_true rfl, Nat.le_of_ble_eq_true rfl⟩ rfl rfl (Nat.le_of_ble_eq_true rfl) ⟨Nat.le_of_ble_eq_true rfl, Nat.le_of_ble_eq_true rfl⟩ dX5_copy_76 (fun r w1 hp => ?_)
                obtain ⟨rfl, rfl⟩ := hp
                exact g_iret cx gr (Nat.zero_le _) (Nat.zero_le _) dX5_copy_79 (xleaf (by rw [sp_copy, if_neg c_1, if_neg c_2, show (nI 3).toNatClampNeg = 3 from rfl, show (nI 2).toNatClampNeg = 2 from rfl, if_neg (ms_0 c_73), if_neg (ms_0 c_74), if_neg c_75]; rfl))
            · refine g_aload_n cx dX5_copy_53 2 rfl ?_
              refine g_ldc cx m1X5_copy_c211 dX5_copy_54 ?_
              refine g_VSi (rest := []) (As := [.int (-1000000006)]) cx hYX5_finding gX5_copy_X5_finding (c_X5_finding l E a c g (-1000000006) (by unfold vp_in; decide +kernel)) rfl rfl rfl ⟨Nat.le_of_ble_eq_true rfl, Nat.le_of_ble_eq_true rfl⟩ rfl rfl (Nat.le_of_ble_eq_true rfl) ⟨Nat.le_of_ble_eq_true rfl, Nat.le_of_ble_eq_true rfl⟩ dX5_copy_56 (fun r w1 hp => ?_)
              obtain ⟨rfl, rfl⟩ := hp
              exact g_iret cx gr (Nat.zero_le _) (Nat.zero_le _) dX5_copy_59 (xleaf (by rw [sp_copy, if_neg c_1, if_neg c_2, show (nI 3).toNatClampNeg = 3 from rfl, show (nI 2).toNatClampNeg = 2 from rfl, if_neg (ms_0 c_73), if_pos (ms_1 c_74)]; rfl))
        · refine g_aload_n cx dX5_copy_29 1 rfl ?_
          refine g_get (C := RX5) (T := TX5) (N := 8) (v := .ref (a 19)) cx iwX5_copy_X5 0 6 rfl rfl (by decide) lkX5_copy_44 rfl dX5_copy_30 ?_
          refine g_iload_n cx dX5_copy_33 4 rfl ?_
          refine g_aald (v := a 26) cx 19 rfl rfl (vp_in_nI (by decide) (by decide)) rfl dX5_copy_34 ?_
          refine g_astore (lv' := [(7, .ref (a 26)), (6, .ref (a 26)), (0, .ref (a 0)), (1, .int (nI 3)), (2, .int f0), (3, .int (nI 3)), (4, .int o0), (5, .int n0)]) cx dX5_copy_35 (by decide) rfl ?_
          refine g_aload cx dX5_copy_37 1 rfl ?_
          refine g_Vi (rest := []) (As := []) (wr := ([0, 1, 2, 3, 4, 5, 6, 7, 8, 9, 10, 11, 12, 13, 14, 15, 16, 17, 18, 19, 20, 21, 22, 23, 24, 25, 28].filterMap (fun i => (xW E a c g)[i]?))) cx hYX1_isMissing gX5_copy_X1_isMissing (c_X1_isMissing l E (fun i => a (26 + i)) (c.2.2.2.2.2.1 3, c.2.2.2.2.2.2.1 3, c.2.2.2.2.2.2.2.1 3)  ) rfl rfl rfl [26, 27] [0, 1, 2, 3, 4, 5, 6, 7, 8, 9, 10, 11, 12, 13, 14, 15, 16, 17, 18, 19, 20, 21, 22, 23, 24, 25, 28] rfl rfl rfl rfl (by decide) ⟨Nat.le_of_ble_eq_true rfl, Nat.le_of_ble_eq_true rfl⟩ rfl rfl (Nat.le_of_ble_eq_true rfl) ⟨Nat.le_of_ble_eq_true rfl, Nat.le_of_ble_eq_true rfl⟩ dX5_copy_39 (fun r w1 hp => ?_)
          obtain ⟨rfl, rfl⟩ := hp
          refine g_ws (ws' := (xW E a c g)) [0, 1, 2, 3, 4, 5, 6, 7, 8, 9, 10, 11, 12, 13, 14, 15, 16, 17, 18, 19, 20, 21, 22, 23, 24, 25, 27, 28, 26] rfl rfl ?_
          refine g_if_ne (tgt := 53) cx dX5_copy_42 (by decide) (fun c_78 => ?_) (fun c_78 => ?_)
          · refine g_aload_n cx dX5_copy_53 2 rfl ?_
            refine g_ldc cx m1X5_copy_c211 dX5_copy_54 ?_
            refine g_VSi (rest := []) (As := [.int (-1000000006)]) cx hYX5_finding gX5_copy_X5_finding (c_X5_finding l E a c g (-1000000006) (by unfold vp_in; decide +kernel)) rfl rfl rfl ⟨Nat.le_of_ble_eq_true rfl, Nat.le_of_ble_eq_true rfl⟩ rfl rfl (Nat.le_of_ble_eq_true rfl) ⟨Nat.le_of_ble_eq_true rfl, Nat.le_of_ble_eq_true rfl⟩ dX5_copy_56 (fun r w1 hp => ?_)
            obtain ⟨rfl, rfl⟩ := hp
            exact g_iret cx gr (Nat.zero_le _) (Nat.zero_le _) dX5_copy_59 (xleaf (by rw [sp_copy, if_neg c_1, if_neg c_2, show (nI 3).toNatClampNeg = 3 from rfl, if_pos (ms_1 c_78)]; rfl))
          · refine g_aload cx dX5_copy_45 0 rfl ?_
            refine g_Vi (rest := []) (As := []) (wr := ([0, 1, 2, 3, 4, 5, 6, 7, 8, 9, 10, 11, 12, 13, 14, 15, 16, 17, 18, 19, 20, 21, 22, 23, 24, 25, 28].filterMap (fun i => (xW E a c g)[i]?))) cx hYX1_isMissing gX5_copy_X1_isMissing (c_X1_isMissing l E (fun i => a (26 + i)) (c.2.2.2.2.2.1 3, c.2.2.2.2.2.2.1 3, c.2.2.2.2.2.2.2.1 3)  ) rfl rfl rfl [26, 27] [0, 1, 2, 3, 4, 5, 6, 7, 8, 9, 10, 11, 12, 13, 14, 15, 16, 17, 18, 19, 20, 21, 22, 23, 24, 25, 28] rfl rfl rfl rfl (by decide) ⟨Nat.le_of_ble_eq_true rfl, Nat.le_of_ble_eq_true rfl⟩ rfl rfl (Nat.le_of_ble_eq_true rfl) ⟨Nat.le_of_ble_eq_true rfl, Nat.le_of_ble_eq_true rfl⟩ dX5_copy_47 (fun r w1 hp => ?_)
            obtain ⟨rfl, rfl⟩ := hp
            refine g_ws (ws' := (xW E a c g)) [0, 1, 2, 3, 4, 5, 6, 7, 8, 9, 10, 11, 12, 13, 14, 15, 16, 17, 18, 19, 20, 21, 22, 23, 24, 25, 27, 28, 26] rfl rfl ?_
            refine g_if_eq (tgt := 60) cx dX5_copy_50 (by decide) (fun c_79 => ?_) (fun c_79 => ?_)
            · refine g_aload cx dX5_copy_60 1 rfl ?_
              refine g_get (C := RX1) (T := TX1) (N := 3) (v := .int (c.2.2.2.2.2.1 3)) cx iwX5_copy_X1 26 0 rfl rfl (by decide) lkX5_copy_220 rfl dX5_copy_62 ?_
              refine g_aload cx dX5_copy_65 0 rfl ?_
              refine g_get (C := RX1) (T := TX1) (N := 3) (v := .int (c.2.2.2.2.2.1 3)) cx iwX5_copy_X1 26 0 rfl rfl (by decide) lkX5_copy_220 rfl dX5_copy_67 ?_
              refine g_icmp_eq (tgt := 80) cx dX5_copy_70 (by decide) (fun c_80 => ?_) (fun c_80 => ?_)
              · obtain ⟨Zs0, hZs0, hzs0⟩ := sz_nI (j := 3) hok (by decide)
                obtain ⟨Zt0, hZt0, hzt0⟩ := sz_nI (j := 3) hok (by decide)
                refine g_aload cx dX5_copy_80 1 rfl ?_
                refine g_iload_n cx dX5_copy_82 4 rfl ?_
                refine g_iload cx dX5_copy_83 7 rfl ?_
                refine g_Vi (rest := []) (As := [.int f0, .int n0]) (wr := ([0, 1, 2, 3, 4, 5, 6, 7, 8, 9, 10, 11, 12, 13, 14, 15, 16, 17, 18, 19, 20, 21, 22, 23, 24, 25, 28].filterMap (fun i => (xW E a c g)[i]?))) cx hYX1_hasSpan gX5_copy_X1_hasSpan (c_X1_hasSpan l E (fun i => a (26 + i)) (c.2.2.2.2.2.1 3, c.2.2.2.2.2.2.1 3, c.2.2.2.2.2.2.2.1 3) f0 n0 ) rfl rfl rfl [26, 27] [0, 1, 2, 3, 4, 5, 6, 7, 8, 9, 10, 11, 12, 13, 14, 15, 16, 17, 18, 19, 20, 21, 22, 23, 24, 25, 28] rfl rfl rfl rfl (by decide) ⟨Nat.le_of_ble_eq_true rfl, Nat.le_of_ble_eq_true rfl⟩ rfl rfl (Nat.le_of_ble_eq_true rfl) ⟨Nat.le_of_ble_eq_true rfl, Nat.le_of_ble_eq_true rfl⟩ dX5_copy_85 (fun r w1 hp => ?_)
                obtain ⟨rfl, rfl⟩ := hp
                refine g_ws (ws' := (xW E a c g)) [0, 1, 2, 3, 4, 5, 6, 7, 8, 9, 10, 11, 12, 13, 14, 15, 16, 17, 18, 19, 20, 21, 22, 23, 24, 25, 27, 28, 26] rfl rfl ?_
                refine g_if_eq (tgt := 103) cx dX5_copy_88 (by decide) (fun c_81 => ?_) (fun c_81 => ?_)
                · refine g_aload_n cx dX5_copy_103 2 rfl ?_
                  refine g_ldc cx m1X5_copy_c61 dX5_copy_104 ?_
                  refine g_VSi (rest := []) (As := [.int (-1000000001)]) cx hYX5_finding gX5_copy_X5_finding (c_X5_finding l E a c g (-1000000001) (by unfold vp_in; decide +kernel)) rfl rfl rfl ⟨Nat.le_of_ble_eq_true rfl, Nat.le_of_ble_eq_true rfl⟩ rfl rfl (Nat.le_of_ble_eq_true rfl) ⟨Nat.le_of_ble_eq_true rfl, Nat.le_of_ble_eq_true rfl⟩ dX5_copy_106 (fun r w1 hp => ?_)
                  obtain ⟨rfl, rfl⟩ := hp
                  exact g_iret cx gr (Nat.zero_le _) (Nat.zero_le _) dX5_copy_109 (xleaf (by rw [sp_copy, if_neg c_1, if_neg c_2, show (nI 3).toNatClampNeg = 3 from rfl, if_neg (ms_0 c_78), if_neg (ms_0 c_79), if_pos c_80, if_pos c_81]; rfl))
                · refine g_aload cx dX5_copy_91 0 rfl ?_
                  refine g_iload cx dX5_copy_93 6 rfl ?_
                  refine g_iload cx dX5_copy_95 7 rfl ?_
                  refine g_Vi (rest := []) (As := [.int o0, .int n0]) (wr := ([0, 1, 2, 3, 4, 5, 6, 7, 8, 9, 10, 11, 12, 13, 14, 15, 16, 17, 18, 19, 20, 21, 22, 23, 24, 25, 28].filterMap (fun i => (xW E a c g)[i]?))) cx hYX1_hasSpan gX5_copy_X1_hasSpan (c_X1_hasSpan l E (fun i => a (26 + i)) (c.2.2.2.2.2.1 3, c.2.2.2.2.2.2.1 3, c.2.2.2.2.2.2.2.1 3) o0 n0 ) rfl rfl rfl [26, 27] [0, 1, 2, 3, 4, 5, 6, 7, 8, 9, 10, 11, 12, 13, 14, 15, 16, 17, 18, 19, 20, 21, 22, 23, 24, 25, 28] rfl rfl rfl rfl (by decide) ⟨Nat.le_of_ble_eq_true rfl, Nat.le_of_ble_eq_true rfl⟩ rfl rfl (Nat.le_of_ble_eq_true rfl) ⟨Nat.le_of_ble_eq_true rfl, Nat.le_of_ble_eq_true rfl⟩ dX5_copy_97 (fun r w1 hp => ?_)
                  obtain ⟨rfl, rfl⟩ := hp
                  refine g_ws (ws' := (xW E a c g)) [0, 1, 2, 3, 4, 5, 6, 7, 8, 9, 10, 11, 12, 13, 14, 15, 16, 17, 18, 19, 20, 21, 22, 23, 24, 25, 27, 28, 26] rfl rfl ?_
                  refine g_if_ne (tgt := 110) cx dX5_copy_100 (by decide) (fun c_82 => ?_) (fun c_82 => ?_)
                  · refine g_aload cx dX5_copy_110 1 rfl ?_
                    refine g_get (C := RX1) (T := TX1) (N := 3) (v := .ref (a 27)) cx iwX5_copy_X1 26 2 rfl rfl (by decide) lkX5_copy_212 rfl dX5_copy_112 ?_
                    refine g_iload_n cx dX5_copy_115 4 rfl ?_
                    refine g_aload cx dX5_copy_116 0 rfl ?_
                    refine g_get (C := RX1) (T := TX1) (N := 3) (v := .ref (a 27)) cx iwX5_copy_X1 26 2 rfl rfl (by decide) lkX5_copy_212 rfl dX5_copy_118 ?_
                    refine g_iload cx dX5_copy_121 6 rfl ?_
                    refine g_iload cx dX5_copy_123 7 rfl ?_
                    have ok1 := hsp_ok c_81 hzs0 hZs0
                    have ok2 := hsp_ok c_82 hzt0 hZt0
                    refine g_copyL (ws' := (xW E a (c.1, c.2.1, c.2.2.1, c.2.2.2.1, c.2.2.2.2.1, c.2.2.2.2.2.1, c.2.2.2.2.2.2.1, upN c.2.2.2.2.2.2.2.1 3 (va_cpy (c.2.2.2.2.2.2.2.1 3) (c.2.2.2.2.2.2.2.1 3) f0.toNatClampNeg o0.toNatClampNeg n0.toNatClampNeg), c.2.2.2.2.2.2.2.2) g)) cx mwX5_copy_ac 27 27 rfl rfl ok1.1 ok2.1 ok1.2.1 ok1.2.2 ok2.2.2 (by decide) (Nat.le_of_ble_eq_true rfl) dX5_copy_125 rfl ?_
                    refine g_iload cx dX5_copy_128 7 rfl ?_
                    exact g_iret cx gr (Nat.zero_le _) (Nat.zero_le _) dX5_copy_130 (xleaf (by rw [sp_copy, if_neg c_1, if_neg c_2, show (nI 3).toNatClampNeg = 3 from rfl, if_neg (ms_0 c_78), if_neg (ms_0 c_79), if_pos c_80, if_neg c_81, if_neg c_82]; rfl))
                  · refine g_aload_n cx dX5_copy_103 2 rfl ?_
                    refine g_ldc cx m1X5_copy_c61 dX5_copy_104 ?_
                    refine g_VSi (rest := []) (As := [.int (-1000000001)]) cx hYX5_finding gX5_copy_X5_finding (c_X5_finding l E a c g (-1000000001) (by unfold vp_in; decide +kernel)) rfl rfl rfl ⟨Nat.le_of_ble_eq_true rfl, Nat.le_of_ble_eq_true rfl⟩ rfl rfl (Nat.le_of_ble_eq_true rfl) ⟨Nat.le_of_ble_eq_true rfl, Nat.le_of_ble_eq_true rfl⟩ dX5_copy_106 (fun r w1 hp => ?_)
                    obtain ⟨rfl, rfl⟩ := hp
                    exact g_iret cx gr (Nat.zero_le _) (Nat.zero_le _) dX5_copy_109 (xleaf (by rw [sp_copy, if_neg c_1, if_neg c_2, show (nI 3).toNatClampNeg = 3 from rfl, if_neg (ms_0 c_78), if_neg (ms_0 c_79), if_pos c_80, if_neg c_81, if_pos c_82]; rfl))
              · refine g_aload_n cx dX5_copy_73 2 rfl ?_
                refine g_ldc cx m1X5_copy_c145 dX5_copy_74 ?_
                refine g_VSi (rest := []) (As := [.int (-1000000003)]) cx hYX5_finding gX5_copy_X5_finding (c_X5_finding l E a c g (-1000000003) (by unfold vp_in; decide +kernel)) rfl rfl rfl ⟨Nat.le_of_ble_eq_true rfl, Nat.le_of_ble_eq_true rfl⟩ rfl rfl (Nat.le_of_ble_eq_true rfl) ⟨Nat.le_of_ble_eq_true rfl, Nat.le_of_ble_eq_true rfl⟩ dX5_copy_76 (fun r w1 hp => ?_)
                obtain ⟨rfl, rfl⟩ := hp
                exact g_iret cx gr (Nat.zero_le _) (Nat.zero_le _) dX5_copy_79 (xleaf (by rw [sp_copy, if_neg c_1, if_neg c_2, show (nI 3).toNatClampNeg = 3 from rfl, if_neg (ms_0 c_78), if_neg (ms_0 c_79), if_neg c_80]; rfl))
            · refine g_aload_n cx dX5_copy_53 2 rfl ?_
              refine g_ldc cx m1X5_copy_c211 dX5_copy_54 ?_
              refine g_VSi (rest := []) (As := [.int (-1000000006)]) cx hYX5_finding gX5_copy_X5_finding (c_X5_finding l E a c g (-1000000006) (by unfold vp_in; decide +kernel)) rfl rfl rfl ⟨Nat.le_of_ble_eq_true rfl, Nat.le_of_ble_eq_true rfl⟩ rfl rfl (Nat.le_of_ble_eq_true rfl) ⟨Nat.le_of_ble_eq_true rfl, Nat.le_of_ble_eq_true rfl⟩ dX5_copy_56 (fun r w1 hp => ?_)
              obtain ⟨rfl, rfl⟩ := hp
              exact g_iret cx gr (Nat.zero_le _) (Nat.zero_le _) dX5_copy_59 (xleaf (by rw [sp_copy, if_neg c_1, if_neg c_2, show (nI 3).toNatClampNeg = 3 from rfl, if_neg (ms_0 c_78), if_pos (ms_1 c_79)]; rfl))
    · refine g_aload_n cx dX5_copy_14 0 rfl ?_
      refine g_ldc cx m1X5_copy_c61 dX5_copy_15 ?_
      refine g_VSi (rest := []) (As := [.int (-1000000001)]) cx hYX5_finding gX5_copy_X5_finding (c_X5_finding l E a c g (-1000000001) (by unfold vp_in; decide +kernel)) rfl rfl rfl ⟨Nat.le_of_ble_eq_true rfl, Nat.le_of_ble_eq_true rfl⟩ rfl rfl (Nat.le_of_ble_eq_true rfl) ⟨Nat.le_of_ble_eq_true rfl, Nat.le_of_ble_eq_true rfl⟩ dX5_copy_17 (fun r w1 hp => ?_)
      obtain ⟨rfl, rfl⟩ := hp
      exact g_iret cx gr (Nat.zero_le _) (Nat.zero_le _) dX5_copy_20 (xleaf (by rw [sp_copy, if_neg c_1, if_pos c_2]; rfl))
