theorem ms_0 {b : Int32} (h : (if b = 0 then (1 : Int32) else 0) = 0) : ¬ b = 0 := by
  intro q
  rw [if_pos q] at h
  exact absurd h (by decide)
theorem ms_1 {b : Int32} (h : ¬ (if b = 0 then (1 : Int32) else 0) = 0) : b = 0 := by
  by_cases q : b = 0
  · exact q
  · rw [if_neg q] at h
    exact absurd rfl h
theorem wr_in {i z : Int32} {Z : Nat} (h1 : ¬ i < 0) (h2 : i < z) (hz : z = nI Z) (hZ : Z ≤ 40) : vp_in i 40 := by
  obtain ⟨j, hj, rfl⟩ := nI_of h1
  rw [hz, nI_ltI hj (by omega)] at h2
  exact vp_in_nI (by omega) (by decide)
theorem hsp_ok {z f n : Int32} {Z : Nat} (h : ¬ hsp z f n = 0) (hz : z = nI Z) (hZ : Z ≤ 40) : ¬ f < 0 ∧ ¬ n < 0 ∧ f.toNatClampNeg + n.toNatClampNeg ≤ 40 := by
  unfold hsp at h
  by_cases h1 : n < 0
  · rw [if_pos h1] at h; exact absurd rfl h
  · rw [if_neg h1] at h
    by_cases h2 : z < n
    · rw [if_pos h2] at h; exact absurd rfl h
    · rw [if_neg h2] at h
      by_cases h3 : f < 0
      · rw [if_pos h3] at h; exact absurd rfl h
      · rw [if_neg h3] at h
        by_cases h4 : z - n < f
        · rw [if_pos h4] at h; exact absurd rfl h
        · refine ⟨h3, h1, ?_⟩
          obtain ⟨p, hp, rfl⟩ := nI_of h3
          obtain ⟨q, hq, rfl⟩ := nI_of h1
          have h5 : q ≤ Z := by
            rw [hz] at h2
            exact le_of Z rfl (fun w => h2 w) hq (by omega)
          rw [hz, pk_sub h5] at h4
          have h6 : p ≤ Z - q := le_of (Z - q) rfl h4 hp (by omega)
          rw [nI_clamp hp, nI_clamp hq]
          omega

abbrev rmX5_write : Room := { frames := 2, cells := 0, slots := 0, locals := 44 }
theorem hYX5_write : gY yX5_write wsX5_write cX5_write 8 (some .long) 3 := ⟨⟨_, rfl⟩, by decide +kernel, by decide +kernel, by decide +kernel⟩
theorem iwX5_write_X5 : ∀ w ∈ u_ws RX5 TX5 8, w ∈ wsX5_write := by decide +kernel
theorem lkX5_write_44 : Cond.fieldLink RX5 44 "MuffinBells" "sheets" "[LMuffinBells$Sheet;" ∈ wsX5_write := by decide +kernel
theorem m1X5_write_c61 : Cond.constant RX5 61 (-1000000001) ∈ wsX5_write := by decide +kernel
theorem iwX5_write_X1 : ∀ w ∈ u_ws RX1 TX1 3, w ∈ wsX5_write := by decide +kernel
theorem lkX5_write_205 : Cond.fieldLink RX5 205 "MuffinBells$Sheet" "size" "I" ∈ wsX5_write := by decide +kernel
theorem lkX5_write_212 : Cond.fieldLink RX5 212 "MuffinBells$Sheet" "numbers" "[J" ∈ wsX5_write := by decide +kernel
theorem m1X5_write_c211 : Cond.constant RX5 211 (-1000000006) ∈ wsX5_write := by decide +kernel
set_option maxRecDepth 100000 in
set_option maxHeartbeats 4000000 in
theorem c_X5_write (l : Launch) (E : gE) (a : Nat → Nat) (c : Cor) (g : Gar) (s0 : Int32) (i0 : Int32) (v0 : Int64) (hok : cOk c) : ctl l yX5_write wsX5_write rmX5_write E [.ref (a 0), .int s0, .int i0, .long v0] (xW E a c g) (fun r w => ∃ g', r = (sp_write c s0 i0 v0).1 ∧ w = xW E a (sp_write c s0 i0 v0).2 g') := by
  refine mt_l (cc := cX5_write) (maxL := 8) (ret := some .long) (lv0 := [(0, .ref (a 0)), (1, .int s0), (2, .int i0), (3, .long v0)]) (by decide) rfl rfl (Nat.le_of_ble_eq_true rfl) (fun X cx gr hI => ?_)
  refine g_iload_n cx dX5_write_0 1 rfl ?_
  refine g_SPi (rest := []) (As := [.int s0]) cx hYX5_isSheet gX5_write_X5_isSheet (c_X5_isSheet l E s0 ) ⟨Nat.le_of_ble_eq_true rfl, Nat.le_of_ble_eq_true rfl⟩ rfl rfl (Nat.le_of_ble_eq_true rfl) ⟨Nat.le_of_ble_eq_true rfl, Nat.le_of_ble_eq_true rfl⟩ dX5_write_1 ?_
  refine g_if_ne (tgt := 15) cx dX5_write_4 (by decide) (fun c_1 => ?_) (fun c_1 => ?_)
  · obtain ⟨js0, hjs0, rfl⟩ := isW_nI 3 c_1 (by decide)
    rcases (show js0 = 0 ∨ js0 = 1 ∨ js0 = 2 ∨ js0 = 3 by omega) with rfl | rfl | rfl | rfl
    · refine g_aload_n cx dX5_write_15 0 rfl ?_
      refine g_get (C := RX5) (T := TX5) (N := 8) (v := .ref (a 19)) cx iwX5_write_X5 0 6 rfl rfl (by decide) lkX5_write_44 rfl dX5_write_16 ?_
      refine g_iload_n cx dX5_write_19 1 rfl ?_
      refine g_aald (v := a 20) cx 19 rfl rfl (vp_in_nI (by decide) (by decide)) rfl dX5_write_20 ?_
      refine g_astore (lv' := [(5, .ref (a 20)), (0, .ref (a 0)), (1, .int (nI 0)), (2, .int i0), (3, .long v0)]) cx dX5_write_21 (by decide) rfl ?_
      refine g_aload cx dX5_write_23 0 rfl ?_
      refine g_Vi (rest := []) (As := []) (wr := ([0, 1, 2, 3, 4, 5, 6, 7, 8, 9, 10, 11, 12, 13, 14, 15, 16, 17, 18, 19, 22, 23, 24, 25, 26, 27, 28].filterMap (fun i => (xW E a c g)[i]?))) cx hYX1_isMissing gX5_write_X1_isMissing (c_X1_isMissing l E (fun i => a (20 + i)) (c.2.2.2.2.2.1 0, c.2.2.2.2.2.2.1 0, c.2.2.2.2.2.2.2.1 0)  ) rfl rfl rfl [20, 21] [0, 1, 2, 3, 4, 5, 6, 7, 8, 9, 10, 11, 12, 13, 14, 15, 16, 17, 18, 19, 22, 23, 24, 25, 26, 27, 28] rfl rfl rfl rfl (by decide) ⟨Nat.le_of_ble_eq_true rfl, Nat.le_of_ble_eq_true rfl⟩ rfl rfl (Nat.le_of_ble_eq_true rfl) ⟨Nat.le_of_ble_eq_true rfl, Nat.le_of_ble_eq_true rfl⟩ dX5_write_25 (fun r w1 hp => ?_)
      obtain ⟨rfl, rfl⟩ := hp
      refine g_ws (ws' := (xW E a c g)) [0, 1, 2, 3, 4, 5, 6, 7, 8, 9, 10, 11, 12, 13, 14, 15, 16, 17, 18, 19, 27, 28, 20, 21, 22, 23, 24, 25, 26] rfl rfl ?_
      refine g_if_eq (tgt := 39) cx dX5_write_28 (by decide) (fun c_2 => ?_) (fun c_2 => ?_)
      · obtain ⟨Zs0, hZs0, hzs0⟩ := sz_nI (j := 0) hok (by decide)
        refine g_iload_n cx dX5_write_39 3 rfl ?_
        refine g_if_lt (tgt := 52) cx dX5_write_40 (by decide) (fun c_3 => ?_) (fun c_3 => ?_)
        · refine g_aload_n cx dX5_write_52 1 rfl ?_
          refine g_ldc cx m1X5_write_c61 dX5_write_53 ?_
          refine g_VSi (rest := []) (As := [.int (-1000000001)]) cx hYX5_finding gX5_write_X5_finding (c_X5_finding l E a c g (-1000000001) (by unfold vp_in; decide +kernel)) rfl rfl rfl ⟨Nat.le_of_ble_eq_true rfl, Nat.le_of_ble_eq_true rfl⟩ rfl rfl (Nat.le_of_ble_eq_true rfl) ⟨Nat.le_of_ble_eq_true rfl, Nat.le_of_ble_eq_true rfl⟩ dX5_write_55 (fun r w1 hp => ?_)
          obtain ⟨rfl, rfl⟩ := hp
          refine g_i2l cx dX5_write_58 ?_
          exact g_lret cx gr (Nat.zero_le _) (Nat.zero_le _) dX5_write_59 (xleafl (by rw [sp_write, if_neg c_1, show (nI 0).toNatClampNeg = 0 from rfl, if_neg (ms_0 c_2), if_pos c_3]; rfl))
        · refine g_iload_n cx dX5_write_43 3 rfl ?_
          refine g_aload cx dX5_write_44 0 rfl ?_
          refine g_get (C := RX1) (T := TX1) (N := 3) (v := .int (c.2.2.2.2.2.2.1 0)) cx iwX5_write_X1 20 1 rfl rfl (by decide) lkX5_write_205 rfl dX5_write_46 ?_
          refine g_icmp_lt (tgt := 60) cx dX5_write_49 (by decide) (fun c_4 => ?_) (fun c_4 => ?_)
          · refine g_aload cx dX5_write_60 0 rfl ?_
            refine g_get (C := RX1) (T := TX1) (N := 3) (v := .ref (a 21)) cx iwX5_write_X1 20 2 rfl rfl (by decide) lkX5_write_212 rfl dX5_write_62 ?_
            refine g_iload_n cx dX5_write_65 3 rfl ?_
            refine g_lald cx 21 rfl rfl (wr_in c_3 c_4 hzs0 hZs0) dX5_write_66 ?_
            refine g_lstore (lv' := [(6, .long ((c.2.2.2.2.2.2.2.1 0) (i0.toNatClampNeg))), (5, .ref (a 20)), (0, .ref (a 0)), (1, .int (nI 0)), (2, .int i0), (3, .long v0)]) cx dX5_write_67 (by decide) rfl ?_
            refine g_aload cx dX5_write_69 1 rfl ?_
            refine g_iload_n cx dX5_write_71 4 rfl ?_
            refine g_lload_n cx dX5_write_72 5 rfl ?_
            refine g_Vv (rest := []) (As := [.int i0, .long v0]) (wr := ([0, 1, 2, 3, 4, 5, 6, 7, 8, 9, 10, 11, 12, 13, 14, 15, 16, 17, 18, 19, 22, 23, 24, 25, 26, 27, 28].filterMap (fun i => (xW E a c g)[i]?))) cx hYX1_put gX5_write_X1_put (c_X1_put l E (fun i => a (20 + i)) (c.2.2.2.2.2.1 0, c.2.2.2.2.2.2.1 0, c.2.2.2.2.2.2.2.1 0) i0 v0 (wr_in c_3 c_4 hzs0 hZs0)) rfl rfl rfl [20, 21] [0, 1, 2, 3, 4, 5, 6, 7, 8, 9, 10, 11, 12, 13, 14, 15, 16, 17, 18, 19, 22, 23, 24, 25, 26, 27, 28] rfl rfl rfl rfl (by decide) ⟨Nat.le_of_ble_eq_true rfl, Nat.le_of_ble_eq_true rfl⟩ rfl rfl (Nat.le_of_ble_eq_true rfl) ⟨Nat.le_of_ble_eq_true rfl, Nat.le_of_ble_eq_true rfl⟩ dX5_write_73 (fun w1 hp => ?_)
            obtain rfl := hp
            refine g_ws (ws' := (xW E a (c.1, c.2.1, c.2.2.1, c.2.2.2.1, c.2.2.2.2.1, c.2.2.2.2.2.1, c.2.2.2.2.2.2.1, upN c.2.2.2.2.2.2.2.1 0 (vp_updL (c.2.2.2.2.2.2.2.1 0) i0.toNatClampNeg (narL (c.2.2.2.2.2.1 0) v0)), c.2.2.2.2.2.2.2.2) g)) [0, 1, 2, 3, 4, 5, 6, 7, 8, 9, 10, 11, 12, 13, 14, 15, 16, 17, 18, 19, 27, 28, 20, 21, 22, 23, 24, 25, 26] rfl rfl ?_
            refine g_lload cx dX5_write_76 0 rfl ?_
            exact g_lret cx gr (Nat.zero_le _) (Nat.zero_le _) dX5_write_78 (xleafl (by rw [sp_write, if_neg c_1, show (nI 0).toNatClampNeg = 0 from rfl, if_neg (ms_0 c_2), if_neg c_3, if_pos c_4]; rfl))
          · refine g_aload_n cx dX5_write_52 1 rfl ?_
            refine g_ldc cx m1X5_write_c61 dX5_write_53 ?_
            refine g_VSi (rest := []) (As := [.int (-1000000001)]) cx hYX5_finding gX5_write_X5_finding (c_X5_finding l E a c g (-1000000001) (by unfold vp_in; decide +kernel)) rfl rfl rfl ⟨Nat.le_of_ble_eq_true rfl, Nat.le_of_ble_eq_true rfl⟩ rfl rfl (Nat.le_of_ble_eq_true rfl) ⟨Nat.le_of_ble_eq_true rfl, Nat.le_of_ble_eq_true rfl⟩ dX5_write_55 (fun r w1 hp => ?_)
            obtain ⟨rfl, rfl⟩ := hp
            refine g_i2l cx dX5_write_58 ?_
            exact g_lret cx gr (Nat.zero_le _) (Nat.zero_le _) dX5_write_59 (xleafl (by rw [sp_write, if_neg c_1, show (nI 0).toNatClampNeg = 0 from rfl, if_neg (ms_0 c_2), if_neg c_3, if_neg c_4]; rfl))
      · refine g_aload_n cx dX5_write_31 1 rfl ?_
        refine g_ldc cx m1X5_write_c211 dX5_write_32 ?_
        refine g_VSi (rest := []) (As := [.int (-1000000006)]) cx hYX5_finding gX5_write_X5_finding (c_X5_finding l E a c g (-1000000006) (by unfold vp_in; decide +kernel)) rfl rfl rfl ⟨Nat.le_of_ble_eq_true rfl, Nat.le_of_ble_eq_true rfl⟩ rfl rfl (Nat.le_of_ble_eq_true rfl) ⟨Nat.le_of_ble_eq_true rfl, Nat.le_of_ble_eq_true rfl⟩ dX5_write_34 (fun r w1 hp => ?_)
        obtain ⟨rfl, rfl⟩ := hp
        refine g_i2l cx dX5_write_37 ?_
        exact g_lret cx gr (Nat.zero_le _) (Nat.zero_le _) dX5_write_38 (xleafl (by rw [sp_write, if_neg c_1, show (nI 0).toNatClampNeg = 0 from rfl, if_pos (ms_1 c_2)]; rfl))
    · refine g_aload_n cx dX5_write_15 0 rfl ?_
      refine g_get (C := RX5) (T := TX5) (N := 8) (v := .ref (a 19)) cx iwX5_write_X5 0 6 rfl rfl (by decide) lkX5_write_44 rfl dX5_write_16 ?_
      refine g_iload_n cx dX5_write_19 1 rfl ?_
      refine g_aald (v := a 22) cx 19 rfl rfl (vp_in_nI (by decide) (by decide)) rfl dX5_write_20 ?_
      refine g_astore (lv' := [(5, .ref (a 22)), (0, .ref (a 0)), (1, .int (nI 1)), (2, .int i0), (3, .long v0)]) cx dX5_write_21 (by decide) rfl ?_
      refine g_aload cx dX5_write_23 0 rfl ?_
      refine g_Vi (rest := []) (As := []) (wr := ([0, 1, 2, 3, 4, 5, 6, 7, 8, 9, 10, 11, 12, 13, 14, 15, 16, 17, 18, 19, 20, 21, 24, 25, 26, 27, 28].filterMap (fun i => (xW E a c g)[i]?))) cx hYX1_isMissing gX5_write_X1_isMissing (c_X1_isMissing l E (fun i => a (22 + i)) (c.2.2.2.2.2.1 1, c.2.2.2.2.2.2.1 1, c.2.2.2.2.2.2.2.1 1)  ) rfl rfl rfl [22, 23] [0, 1, 2, 3, 4, 5, 6, 7, 8, 9, 10, 11, 12, 13, 14, 15, 16, 17, 18, 19, 20, 21, 24, 25, 26, 27, 28] rfl rfl rfl rfl (by decide) ⟨Nat.le_of_ble_eq_true rfl, Nat.le_of_ble_eq_true rfl⟩ rfl rfl (Nat.le_of_ble_eq_true rfl) ⟨Nat.le_of_ble_eq_true rfl, Nat.le_of_ble_eq_true rfl⟩ dX5_write_25 (fun r w1 hp => ?_)
      obtain ⟨rfl, rfl⟩ := hp
      refine g_ws (ws' := (xW E a c g)) [0, 1, 2, 3, 4, 5, 6, 7, 8, 9, 10, 11, 12, 13, 14, 15, 16, 17, 18, 19, 20, 21, 27, 28, 22, 23, 24, 25, 26] rfl rfl ?_
      refine g_if_eq (tgt := 39) cx dX5_write_28 (by decide) (fun c_5 => ?_) (fun c_5 => ?_)
      · obtain ⟨Zs0, hZs0, hzs0⟩ := sz_nI (j := 1) hok (by decide)
        refine g_iload_n cx dX5_write_39 3 rfl ?_
        refine g_if_lt (tgt := 52) cx dX5_write_40 (by decide) (fun c_6 => ?_) (fun c_6 => ?_)
        · refine g_aload_n cx dX5_write_52 1 rfl ?_
          refine g_ldc cx m1X5_write_c61 dX5_write_53 ?_
          refine g_VSi (rest := []) (As := [.int (-1000000001)]) cx hYX5_finding gX5_write_X5_finding (c_X5_finding l E a c g (-1000000001) (by unfold vp_in; decide +kernel)) rfl rfl rfl ⟨Nat.le_of_ble_eq_true rfl, Nat.le_of_ble_eq_true rfl⟩ rfl rfl (Nat.le_of_ble_eq_true rfl) ⟨Nat.le_of_ble_eq_true rfl, Nat.le_of_ble_eq_true rfl⟩ dX5_write_55 (fun r w1 hp => ?_)
          obtain ⟨rfl, rfl⟩ := hp
          refine g_i2l cx dX5_write_58 ?_
          exact g_lret cx gr (Nat.zero_le _) (Nat.zero_le _) dX5_write_59 (xleafl (by rw [sp_write, if_neg c_1, show (nI 1).toNatClampNeg = 1 from rfl, if_neg (ms_0 c_5), if_pos c_6]; rfl))
        · refine g_iload_n cx dX5_write_43 3 rfl ?_
          refine g_aload cx dX5_write_44 0 rfl ?_
          refine g_get (C := RX1) (T := TX1) (N := 3) (v := .int (c.2.2.2.2.2.2.1 1)) cx iwX5_write_X1 22 1 rfl rfl (by decide) lkX5_write_205 rfl dX5_write_46 ?_
          refine g_icmp_lt (tgt := 60) cx dX5_write_49 (by decide) (fun c_7 => ?_) (fun c_7 => ?_)
          · refine g_aload cx dX5_write_60 0 rfl ?_
            refine g_get (C := RX1) (T := TX1) (N := 3) (v := .ref (a 23)) cx iwX5_write_X1 22 2 rfl rfl (by decide) lkX5_write_212 rfl dX5_write_62 ?_
            refine g_iload_n cx dX5_write_65 3 rfl ?_
            refine g_lald cx 23 rfl rfl (wr_in c_6 c_7 hzs0 hZs0) dX5_write_66 ?_
            refine g_lstore (lv' := [(6, .long ((c.2.2.2.2.2.2.2.1 1) (i0.toNatClampNeg))), (5, .ref (a 22)), (0, .ref (a 0)), (1, .int (nI 1)), (2, .int i0), (3, .long v0)]) cx dX5_write_67 (by decide) rfl ?_
            refine g_aload cx dX5_write_69 1 rfl ?_
            refine g_iload_n cx dX5_write_71 4 rfl ?_
            refine g_lload_n cx dX5_write_72 5 rfl ?_
            refine g_Vv (rest := []) (As := [.int i0, .long v0]) (wr := ([0, 1, 2, 3, 4, 5, 6, 7, 8, 9, 10, 11, 12, 13, 14, 15, 16, 17, 18, 19, 20, 21, 24, 25, 26, 27, 28].filterMap (fun i => (xW E a c g)[i]?))) cx hYX1_put gX5_write_X1_put (c_X1_put l E (fun i => a (22 + i)) (c.2.2.2.2.2.1 1, c.2.2.2.2.2.2.1 1, c.2.2.2.2.2.2.2.1 1) i0 v0 (wr_in c_6 c_7 hzs0 hZs0)) rfl rfl rfl [22, 23] [0, 1, 2, 3, 4, 5, 6, 7, 8, 9, 10, 11, 12, 13, 14, 15, 16, 17, 18, 19, 20, 21, 24, 25, 26, 27, 28] rfl rfl rfl rfl (by decide) ⟨Nat.le_of_ble_eq_true rfl, Nat.le_of_ble_eq_true rfl⟩ rfl rfl (Nat.le_of_ble_eq_true rfl) ⟨Nat.le_of_ble_eq_true rfl, Nat.le_of_ble_eq_true rfl⟩ dX5_write_73 (fun w1 hp => ?_)
            obtain rfl := hp
            refine g_ws (ws' := (xW E a (c.1, c.2.1, c.2.2.1, c.2.2.2.1, c.2.2.2.2.1, c.2.2.2.2.2.1, c.2.2.2.2.2.2.1, upN c.2.2.2.2.2.2.2.1 1 (vp_updL (c.2.2.2.2.2.2.2.1 1) i0.toNatClampNeg (narL (c.2.2.2.2.2.1 1) v0)), c.2.2.2.2.2.2.2.2) g)) [0, 1, 2, 3, 4, 5, 6, 7, 8, 9, 10, 11, 12, 13, 14, 15, 16, 17, 18, 19, 20, 21, 27, 28, 22, 23, 24, 25, 26] rfl rfl ?_
            refine g_lload cx dX5_write_76 0 rfl ?_
            exact g_lret cx gr (Nat.zero_le _) (Nat.zero_le _) dX5_write_78 (xleafl (by rw [sp_write, if_neg c_1, show (nI 1).toNatClampNeg = 1 from rfl, if_neg (ms_0 c_5), if_neg c_6, if_pos c_7]; rfl))
          · refine g_aload_n cx dX5_write_52 1 rfl ?_
            refine g_ldc cx m1X5_write_c61 dX5_write_53 ?_
            refine g_VSi (rest := []) (As := [.int (-1000000001)]) cx hYX5_finding gX5_write_X5_finding (c_X5_finding l E a c g (-1000000001) (by unfold vp_in; decide +kernel)) rfl rfl rfl ⟨Nat.le_of_ble_eq_true rfl, Nat.le_of_ble_eq_true rfl⟩ rfl rfl (Nat.le_of_ble_eq_true rfl) ⟨Nat.le_of_ble_eq_true rfl, Nat.le_of_ble_eq_true rfl⟩ dX5_write_55 (fun r w1 hp => ?_)
            obtain ⟨rfl, rfl⟩ := hp
            refine g_i2l cx dX5_write_58 ?_
            exact g_lret cx gr (Nat.zero_le _) (Nat.zero_le _) dX5_write_59 (xleafl (by rw [sp_write, if_neg c_1, show (nI 1).toNatClampNeg = 1 from rfl, if_neg (ms_0 c_5), if_neg c_6, if_neg c_7]; rfl))
      · refine g_aload_n cx dX5_write_31 1 rfl ?_
        refine g_ldc cx m1X5_write_c211 dX5_write_32 ?_
        refine g_VSi (rest := []) (As := [.int (-1000000006)]) cx hYX5_finding gX5_write_X5_finding (c_X5_finding l E a c g (-1000000006) (by unfold vp_in; decide +kernel)) rfl rfl rfl ⟨Nat.le_of_ble_eq_true rfl, Nat.le_of_ble_eq_true rfl⟩ rfl rfl (Nat.le_of_ble_eq_true rfl) ⟨Nat.le_of_ble_eq_true rfl, Nat.le_of_ble_eq_true rfl⟩ dX5_write_34 (fun r w1 hp => ?_)
        obtain ⟨rfl, rfl⟩ := hp
        refine g_i2l cx dX5_write_37 ?_
        exact g_lret cx gr (Nat.zero_le _) (Nat.zero_le _) dX5_write_38 (xleafl (by rw [sp_write, if_neg c_1, show (nI 1).toNatClampNeg = 1 from rfl, if_pos (ms_1 c_5)]; rfl))
    · refine g_aload_n cx dX5_write_15 0 rfl ?_
      refine g_get (C := RX5) (T := TX5) (N := 8) (v := .ref (a 19)) cx iwX5_write_X5 0 6 rfl rfl (by decide) lkX5_write_44 rfl dX5_write_16 ?_
      refine g_iload_n cx dX5_write_19 1 rfl ?_
      refine g_aald (v := a 24) cx 19 rfl rfl (vp_in_nI (by decide) (by decide)) rfl dX5_write_20 ?_
      refine g_astore (lv' := [(5, .ref (a 24)), (0, .ref (a 0)), (1, .int (nI 2)), (2, .int i0), (3, .long v0)]) cx dX5_write_21 (by decide) rfl ?_
      refine g_aload cx dX5_write_23 0 rfl ?_
      refine g_Vi (rest := []) (As := []) (wr := ([0, 1, 2, 3, 4, 5, 6, 7, 8, 9, 10, 11, 12, 13, 14, 15, 16, 17, 18, 19, 20, 21, 22, 23, 26, 27, 28].filterMap (fun i => (xW E a c g)[i]?))) cx hYX1_isMissing gX5_write_X1_isMissing (c_X1_isMissing l E (fun i => a (24 + i)) (c.2.2.2.2.2.1 2, c.2.2.2.2.2.2.1 2, c.2.2.2.2.2.2.2.1 2)  ) rfl rfl rfl [24, 25] [0, 1, 2, 3, 4, 5, 6, 7, 8, 9, 10, 11, 12, 13, 14, 15, 16, 17, 18, 19, 20, 21, 22, 23, 26, 27, 28] rfl rfl rfl rfl (by decide) ⟨Nat.le_of_ble_eq_true rfl, Nat.le_of_ble_eq_true rfl⟩ rfl rfl (Nat.le_of_ble_eq_true rfl) ⟨Nat.le_of_ble_eq_true rfl, Nat.le_of_ble_eq_true rfl⟩ dX5_write_25 (fun r w1 hp => ?_)
      obtain ⟨rfl, rfl⟩ := hp
      refine g_ws (ws' := (xW E a c g)) [0, 1, 2, 3, 4, 5, 6, 7, 8, 9, 10, 11, 12, 13, 14, 15, 16, 17, 18, 19, 20, 21, 22, 23, 27, 28, 24, 25, 26] rfl rfl ?_
      refine g_if_eq (tgt := 39) cx dX5_write_28 (by decide) (fun c_8 => ?_) (fun c_8 => ?_)
      · obtain ⟨Zs0, hZs0, hzs0⟩ := sz_nI (j := 2) hok (by decide)
        refine g_iload_n cx dX5_write_39 3 rfl ?_
        refine g_if_lt (tgt := 52) cx dX5_write_40 (by decide) (fun c_9 => ?_) (fun c_9 => ?_)
        · refine g_aload_n cx dX5_write_52 1 rfl ?_
          refine g_ldc cx m1X5_write_c61 dX5_write_53 ?_
          refine g_VSi (rest := []) (As := [.int (-1000000001)]) cx hYX5_finding gX5_write_X5_finding (c_X5_finding l E a c g (-1000000001) (by unfold vp_in; decide +kernel)) rfl rfl rfl ⟨Nat.le_of_ble_eq_true rfl, Nat.le_of_ble_eq_true rfl⟩ rfl rfl (Nat.le_of_ble_eq_true rfl) ⟨Nat.le_of_ble_eq_true rfl, Nat.le_of_ble_eq_true rfl⟩ dX5_write_55 (fun r w1 hp => ?_)
          obtain ⟨rfl, rfl⟩ := hp
          refine g_i2l cx dX5_write_58 ?_
          exact g_lret cx gr (Nat.zero_le _) (Nat.zero_le _) dX5_write_59 (xleafl (by rw [sp_write, if_neg c_1, show (nI 2).toNatClampNeg = 2 from rfl, if_neg (ms_0 c_8), if_pos c_9]; rfl))
        · refine g_iload_n cx dX5_write_43 3 rfl ?_
          refine g_aload cx dX5_write_44 0 rfl ?_
          refine g_get (C := RX1) (T := TX1) (N := 3) (v := .int (c.2.2.2.2.2.2.1 2)) cx iwX5_write_X1 24 1 rfl rfl (by decide) lkX5_write_205 rfl dX5_write_46 ?_
          refine g_icmp_lt (tgt := 60) cx dX5_write_49 (by decide) (fun c_10 => ?_) (fun c_10 => ?_)
          · refine g_aload cx dX5_write_60 0 rfl ?_
            refine g_get (C := RX1) (T := TX1) (N := 3) (v := .ref (a 25)) cx iwX5_write_X1 24 2 rfl rfl (by decide) lkX5_write_212 rfl dX5_write_62 ?_
            refine g_iload_n cx dX5_write_65 3 rfl ?_
            refine g_lald cx 25 rfl rfl (wr_in c_9 c_10 hzs0 hZs0) dX5_write_66 ?_
            refine g_lstore (lv' := [(6, .long ((c.2.2.2.2.2.2.2.1 2) (i0.toNatClampNeg))), (5, .ref (a 24)), (0, .ref (a 0)), (1, .int (nI 2)), (2, .int i0), (3, .long v0)]) cx dX5_write_67 (by decide) rfl ?_
            refine g_aload cx dX5_write_69 1 rfl ?_
            refine g_iload_n cx dX5_write_71 4 rfl ?_
            refine g_lload_n cx dX5_write_72 5 rfl ?_
            refine g_Vv (rest := []) (As := [.int i0, .long v0]) (wr := ([0, 1, 2, 3, 4, 5, 6, 7, 8, 9, 10, 11, 12, 13, 14, 15, 16, 17, 18, 19, 20, 21, 22, 23, 26, 27, 28].filterMap (fun i => (xW E a c g)[i]?))) cx hYX1_put gX5_write_X1_put (c_X1_put l E (fun i => a (24 + i)) (c.2.2.2.2.2.1 2, c.2.2.2.2.2.2.1 2, c.2.2.2.2.2.2.2.1 2) i0 v0 (wr_in c_9 c_10 hzs0 hZs0)) rfl rfl rfl [24, 25] [0, 1, 2, 3, 4, 5, 6, 7, 8, 9, 10, 11, 12, 13, 14, 15, 16, 17, 18, 19, 20, 21, 22, 23, 26, 27, 28] rfl rfl rfl rfl (by decide) ⟨Nat.le_of_ble_eq_true rfl, Nat.le_of_ble_eq_true rfl⟩ rfl rfl (Nat.le_of_ble_eq_true rfl) ⟨Nat.le_of_ble_eq_true rfl, Nat.le_of_ble_eq_true rfl⟩ dX5_write_73 (fun w1 hp => ?_)
            obtain rfl := hp
            refine g_ws (ws' := (xW E a (c.1, c.2.1, c.2.2.1, c.2.2.2.1, c.2.2.2.2.1, c.2.2.2.2.2.1, c.2.2.2.2.2.2.1, upN c.2.2.2.2.2.2.2.1 2 (vp_updL (c.2.2.2.2.2.2.2.1 2) i0.toNatClampNeg (narL (c.2.2.2.2.2.1 2) v0)), c.2.2.2.2.2.2.2.2) g)) [0, 1, 2, 3, 4, 5, 6, 7, 8, 9, 10, 11, 12, 13, 14, 15, 16, 17, 18, 19, 20, 21, 22, 23, 27, 28, 24, 25, 26] rfl rfl ?_
            refine g_lload cx dX5_write_76 0 rfl ?_
            exact g_lret cx gr (Nat.zero_le _) (Nat.zero_le _) dX5_write_78 (xleafl (by rw [sp_write, if_neg c_1, show (nI 2).toNatClampNeg = 2 from rfl, if_neg (ms_0 c_8), if_neg c_9, if_pos c_10]; rfl))
          · refine g_aload_n cx dX5_write_52 1 rfl ?_
            refine g_ldc cx m1X5_write_c61 dX5_write_53 ?_
            refine g_VSi (rest := []) (As := [.int (-1000000001)]) cx hYX5_finding gX5_write_X5_finding (c_X5_finding l E a c g (-1000000001) (by unfold vp_in; decide +kernel)) rfl rfl rfl ⟨Nat.le_of_ble_eq_true rfl, Nat.le_of_ble_eq_true rfl⟩ rfl rfl (Nat.le_of_ble_eq_true rfl) ⟨Nat.le_of_ble_eq_true rfl, Nat.le_of_ble_eq_true rfl⟩ dX5_write_55 (fun r w1 hp => ?_)
            obtain ⟨rfl, rfl⟩ := hp
            refine g_i2l cx dX5_write_58 ?_
            exact g_lret cx gr (Nat.zero_le _) (Nat.zero_le _) dX5_write_59 (xleafl (by rw [sp_write, if_neg c_1, show (nI 2).toNatClampNeg = 2 from rfl, if_neg (ms_0 c_8), if_neg c_9, if_neg c_10]; rfl))
      · refine g_aload_n cx dX5_write_31 1 rfl ?_
        refine g_ldc cx m1X5_write_c211 dX5_write_32 ?_
        refine g_VSi (rest := []) (As := [.int (-1000000006)]) cx hYX5_finding gX5_write_X5_finding (c_X5_finding l E a c g (-1000000006) (by unfold vp_in; decide +kernel)) rfl rfl rfl ⟨Nat.le_of_ble_eq_true rfl, Nat.le_of_ble_eq_true rfl⟩ rfl rfl (Nat.le_of_ble_eq_true rfl) ⟨Nat.le_of_ble_eq_true rfl, Nat.le_of_ble_eq_true rfl⟩ dX5_write_34 (fun r w1 hp => ?_)
        obtain ⟨rfl, rfl⟩ := hp
        refine g_i2l cx dX5_write_37 ?_
        exact g_lret cx gr (Nat.zero_le _) (Nat.zero_le _) dX5_write_38 (xleafl (by rw [sp_write, if_neg c_1, show (nI 2).toNatClampNeg = 2 from rfl, if_pos (ms_1 c_8)]; rfl))
    · refine g_aload_n cx dX5_write_15 0 rfl ?_
      refine g_get (C := RX5) (T := TX5) (N := 8) (v := .ref (a 19)) cx iwX5_write_X5 0 6 rfl rfl (by decide) lkX5_write_44 rfl dX5_write_16 ?_
      refine g_iload_n cx dX5_write_19 1 rfl ?_
      refine g_aald (v := a 26) cx 19 rfl rfl (vp_in_nI (by decide) (by decide)) rfl dX5_write_20 ?_
      refine g_astore (lv' := [(5, .ref (a 26)), (0, .ref (a 0)), (1, .int (nI 3)), (2, .int i0), (3, .long v0)]) cx dX5_write_21 (by decide) rfl ?_
      refine g_aload cx dX5_write_23 0 rfl ?_
      refine g_Vi (rest := []) (As := []) (wr := ([0, 1, 2, 3, 4, 5, 6, 7, 8, 9, 10, 11, 12, 13, 14, 15, 16, 17, 18, 19, 20, 21, 22, 23, 24, 25, 28].filterMap (fun i => (xW E a c g)[i]?))) cx hYX1_isMissing gX5_write_X1_isMissing (c_X1_isMissing l E (fun i => a (26 + i)) (c.2.2.2.2.2.1 3, c.2.2.2.2.2.2.1 3, c.2.2.2.2.2.2.2.1 3)  ) rfl rfl rfl [26, 27] [0, 1, 2, 3, 4, 5, 6, 7, 8, 9, 10, 11, 12, 13, 14, 15, 16, 17, 18, 19, 20, 21, 22, 23, 24, 25, 28] rfl rfl rfl rfl (by decide) ⟨Nat.le_of_ble_eq_true rfl, Nat.le_of_ble_eq_true rfl⟩ rfl rfl (Nat.le_of_ble_eq_true rfl) ⟨Nat.le_of_ble_eq_true rfl, Nat.le_of_ble_eq_true rfl⟩ dX5_write_25 (fun r w1 hp => ?_)
      obtain ⟨rfl, rfl⟩ := hp
      refine g_ws (ws' := (xW E a c g)) [0, 1, 2, 3, 4, 5, 6, 7, 8, 9, 10, 11, 12, 13, 14, 15, 16, 17, 18, 19, 20, 21, 22, 23, 24, 25, 27, 28, 26] rfl rfl ?_
      refine g_if_eq (tgt := 39) cx dX5_write_28 (by decide) (fun c_11 => ?_) (fun c_11 => ?_)
      · obtain ⟨Zs0, hZs0, hzs0⟩ := sz_nI (j := 3) hok (by decide)
        refine g_iload_n cx dX5_write_39 3 rfl ?_
        refine g_if_lt (tgt := 52) cx dX5_write_40 (by decide) (fun c_12 => ?_) (fun c_12 => ?_)
        · refine g_aload_n cx dX5_write_52 1 rfl ?_
          refine g_ldc cx m1X5_write_c61 dX5_write_53 ?_
          refine g_VSi (rest := []) (As := [.int (-1000000001)]) cx hYX5_finding gX5_write_X5_finding (c_X5_finding l E a c g (-1000000001) (by unfold vp_in; decide +kernel)) rfl rfl rfl ⟨Nat.le_of_ble_eq_true rfl, Nat.le_of_ble_eq_true rfl⟩ rfl rfl (Nat.le_of_ble_eq_true rfl) ⟨Nat.le_of_ble_eq_true rfl, Nat.le_of_ble_eq_true rfl⟩ dX5_write_55 (fun r w1 hp => ?_)
          obtain ⟨rfl, rfl⟩ := hp
          refine g_i2l cx dX5_write_58 ?_
          exact g_lret cx gr (Nat.zero_le _) (Nat.zero_le _) dX5_write_59 (xleafl (by rw [sp_write, if_neg c_1, show (nI 3).toNatClampNeg = 3 from rfl, if_neg (ms_0 c_11), if_pos c_12]; rfl))
        · refine g_iload_n cx dX5_write_43 3 rfl ?_
          refine g_aload cx dX5_write_44 0 rfl ?_
          refine g_get (C := RX1) (T := TX1) (N := 3) (v := .int (c.2.2.2.2.2.2.1 3)) cx iwX5_write_X1 26 1 rfl rfl (by decide) lkX5_write_205 rfl dX5_write_46 ?_
          refine g_icmp_lt (tgt := 60) cx dX5_write_49 (by decide) (fun c_13 => ?_) (fun c_13 => ?_)
          · refine g_aload cx dX5_write_60 0 rfl ?_
            refine g_get (C := RX1) (T := TX1) (N := 3) (v := .ref (a 27)) cx iwX5_write_X1 26 2 rfl rfl (by decide) lkX5_write_212 rfl dX5_write_62 ?_
            refine g_iload_n cx dX5_write_65 3 rfl ?_
            refine g_lald cx 27 rfl rfl (wr_in c_12 c_13 hzs0 hZs0) dX5_write_66 ?_
            refine g_lstore (lv' := [(6, .long ((c.2.2.2.2.2.2.2.1 3) (i0.toNatClampNeg))), (5, .ref (a 26)), (0, .ref (a 0)), (1, .int (nI 3)), (2, .int i0), (3, .long v0)]) cx dX5_write_67 (by decide) rfl ?_
            refine g_aload cx dX5_write_69 1 rfl ?_
            refine g_iload_n cx dX5_write_71 4 rfl ?_
            refine g_lload_n cx dX5_write_72 5 rfl ?_
            refine g_Vv (rest := []) (As := [.int i0, .long v0]) (wr := ([0, 1, 2, 3, 4, 5, 6, 7, 8, 9, 10, 11, 12, 13, 14, 15, 16, 17, 18, 19, 20, 21, 22, 23, 24, 25, 28].filterMap (fun i => (xW E a c g)[i]?))) cx hYX1_put gX5_write_X1_put (c_X1_put l E (fun i => a (26 + i)) (c.2.2.2.2.2.1 3, c.2.2.2.2.2.2.1 3, c.2.2.2.2.2.2.2.1 3) i0 v0 (wr_in c_12 c_13 hzs0 hZs0)) rfl rfl rfl [26, 27] [0, 1, 2, 3, 4, 5, 6, 7, 8, 9, 10, 11, 12, 13, 14, 15, 16, 17, 18, 19, 20, 21, 22, 23, 24, 25, 28] rfl rfl rfl rfl (by decide) ⟨Nat.le_of_ble_eq_true rfl, Nat.le_of_ble_eq_true rfl⟩ rfl rfl (Nat.le_of_ble_eq_true rfl) ⟨Nat.le_of_ble_eq_true rfl, Nat.le_of_ble_eq_true rfl⟩ dX5_write_73 (fun w1 hp => ?_)
            obtain rfl := hp
            refine g_ws (ws' := (xW E a (c.1, c.2.1, c.2.2.1, c.2.2.2.1, c.2.2.2.2.1, c.2.2.2.2.2.1, c.2.2.2.2.2.2.1, upN c.2.2.2.2.2.2.2.1 3 (vp_updL (c.2.2.2.2.2.2.2.1 3) i0.toNatClampNeg (narL (c.2.2.2.2.2.1 3) v0)), c.2.2.2.2.2.2.2.2) g)) [0, 1, 2, 3, 4, 5, 6, 7, 8, 9, 10, 11, 12, 13, 14, 15, 16, 17, 18, 19, 20, 21, 22, 23, 24, 25, 27, 28, 26] rfl rfl ?_
            refine g_lload cx dX5_write_76 0 rfl ?_
            exact g_lret cx gr (Nat.zero_le _) (Nat.zero_le _) dX5_write_78 (xleafl (by rw [sp_write, if_neg c_1, show (nI 3).toNatClampNeg = 3 from rfl, if_neg (ms_0 c_11), if_neg c_12, if_pos c_13]; rfl))
          · refine g_aload_n cx dX5_write_52 1 rfl ?_
            refine g_ldc cx m1X5_write_c61 dX5_write_53 ?_
            refine g_VSi (rest := []) (As := [.int (-1000000001)]) cx hYX5_finding gX5_write_X5_finding (c_X5_finding l E a c g (-1000000001) (by unfold vp_in; decide +kernel)) rfl rfl rfl ⟨Nat.le_of_ble_eq_true rfl, Nat.le_of_ble_eq_true rfl⟩ rfl rfl (Nat.le_of_ble_eq_true rfl) ⟨Nat.le_of_ble_eq_true rfl, Nat.le_of_ble_eq_true rfl⟩ dX5_write_55 (fun r w1 hp => ?_)
            obtain ⟨rfl, rfl⟩ := hp
            refine g_i2l cx dX5_write_58 ?_
            exact g_lret cx gr (Nat.zero_le _) (Nat.zero_le _) dX5_write_59 (xleafl (by rw [sp_write, if_neg c_1, show (nI 3).toNatClampNeg = 3 from rfl, if_neg (ms_0 c_11), if_neg c_12, if_neg c_13]; rfl))
      · refine g_aload_n cx dX5_write_31 1 rfl ?_
        refine g_ldc cx m1X5_write_c211 dX5_write_32 ?_
        refine g_VSi (rest := []) (As := [.int (-1000000006)]) cx hYX5_finding gX5_write_X5_finding (c_X5_finding l E a c g (-1000000006) (by unfold vp_in; decide +kernel)) rfl rfl rfl ⟨Nat.le_of_ble_eq_true rfl, Nat.le_of_ble_eq_true rfl⟩ rfl rfl (Nat.le_of_ble_eq_true rfl) ⟨Nat.le_of_ble_eq_true rfl, Nat.le_of_ble_eq_true rfl⟩ dX5_write_34 (fun r w1 hp => ?_)
        obtain ⟨rfl, rfl⟩ := hp
        refine g_i2l cx dX5_write_37 ?_
        exact g_lret cx gr (Nat.zero_le _) (Nat.zero_le _) dX5_write_38 (xleafl (by rw [sp_write, if_neg c_1, show (nI 3).toNatClampNeg = 3 from rfl, if_pos (ms_1 c_11)]; rfl))
  · refine g_aload_n cx dX5_write_7 0 rfl ?_
    refine g_ldc cx m1X5_write_c61 dX5_write_8 ?_
    refine g_VSi (rest := []) (As := [.int (-1000000001)]) cx hYX5_finding gX5_write_X5_finding (c_X5_finding l E a c g (-1000000001) (by unfold vp_in; decide +kernel)) rfl rfl rfl ⟨Nat.le_of_ble_eq_true rfl, Nat.le_of_ble_eq_true rfl⟩ rfl rfl (Nat.le_of_ble_eq_true rfl) ⟨Nat.le_of_ble_eq_true rfl, Nat.le_of_ble_eq_true rfl⟩ dX5_write_10 (fun r w1 hp => ?_)
    obtain ⟨rfl, rfl⟩ := hp
    refine g_i2l cx dX5_write_13 ?_
    exact g_lret cx gr (Nat.zero_le _) (Nat.zero_le _) dX5_write_14 (xleafl (by rw [sp_write, if_pos c_1]; rfl))
