theorem c_X6_word_0 (l : Launch) (E : gE) (a : Nat → Nat) (c : Cor) (h : Mar) (b : Nat → Int32) (T : Nat) (t : Ter) (P : Nat) (v : Int32) (hT : T ≤ 120) (hP : P ≤ T) : ctl l yX6_word wsX6_word rmX6_word E [.ref (a 0)] (mW E a (t, c.2.1, c.2.2.1, b, nI T, c.2.2.2.2.2.1, c.2.2.2.2.2.2.1, c.2.2.2.2.2.2.2.1, c.2.2.2.2.2.2.2.2) (h.1, h.2.1, nI P, nI (tkE b T P), v, 0, h.2.2.2.2.2.2)) (fun r w => r = whR b T P ∧ w = (mW E a (t, c.2.1, c.2.2.1, b, nI T, c.2.2.2.2.2.1, c.2.2.2.2.2.2.1, c.2.2.2.2.2.2.2.1, c.2.2.2.2.2.2.2.2) (h.1, h.2.1, nI P, nI (tkE b T P), v, 0, h.2.2.2.2.2.2))) := c_X6_word l E a c h b T t P v 0 hT hP
theorem c_X6_word_1 (l : Launch) (E : gE) (a : Nat → Nat) (c : Cor) (h : Mar) (b : Nat → Int32) (T : Nat) (t : Ter) (P : Nat) (v : Int32) (hT : T ≤ 120) (hP : P ≤ T) : ctl l yX6_word wsX6_word rmX6_word E [.ref (a 0)] (mW E a (t, c.2.1, c.2.2.1, b, nI T, c.2.2.2.2.2.1, c.2.2.2.2.2.2.1, c.2.2.2.2.2.2.2.1, c.2.2.2.2.2.2.2.2) (h.1, h.2.1, nI P, nI (tkE b T P), v, 1, h.2.2.2.2.2.2)) (fun r w => r = 0 ∧ w = (mW E a (t, c.2.1, c.2.2.1, b, nI T, c.2.2.2.2.2.1, c.2.2.2.2.2.2.1, c.2.2.2.2.2.2.2.1, c.2.2.2.2.2.2.2.2) (h.1, h.2.1, nI P, nI (tkE b T P), v, 1, h.2.2.2.2.2.2))) := c_X6_word l E a c h b T t P v 1 hT hP
theorem kn1 {b : Nat → Int32} {T P i : Nat} (hT : T ≤ 120) (hP : P ≤ T) (hi : i < 12) (A B : Int32) : (if wdB b T P i = 0 then A else B) = (if whR b T P = gH.getD i 0 then B else A) := by
  by_cases q : wdB b T P i = 0
  · rw [if_pos q, if_neg (fun w => (wh_iff hT hP hi).mp w q)]
  · rw [if_neg q, if_pos ((wh_iff hT hP hi).mpr q)]
theorem kn_c {b : Nat → Int32} {T P : Nat} (hT : T ≤ 120) (hP : P ≤ T) : knF b T P 6 0 = (if whR b T P = 8902245 then 0 else if whR b T P = 7225 then 1 else if whR b T P = 7931589 then 2 else if whR b T P = 3423538 then 3 else if whR b T P = 24162970 then 4 else if whR b T P = 398804 then 5 else -1) := by
  have e0 := kn1 hT hP (b := b) (i := 11) (by decide)
  have e1 := kn1 hT hP (b := b) (i := 6) (by decide)
  have e2 := kn1 hT hP (b := b) (i := 7) (by decide)
  have e3 := kn1 hT hP (b := b) (i := 8) (by decide)
  have e4 := kn1 hT hP (b := b) (i := 9) (by decide)
  have e5 := kn1 hT hP (b := b) (i := 10) (by decide)
  rw [show gH.getD 11 0 = 8902245 from rfl] at e0
  rw [show gH.getD 6 0 = 7225 from rfl] at e1
  rw [show gH.getD 7 0 = 7931589 from rfl] at e2
  rw [show gH.getD 8 0 = 3423538 from rfl] at e3
  rw [show gH.getD 9 0 = 24162970 from rfl] at e4
  rw [show gH.getD 10 0 = 398804 from rfl] at e5
  rw [knF, show nmI (nI 0) = 11 by decide, knF, show nmI (nI (0 + 1)) = 6 by decide, knF, show nmI (nI (0 + 1 + 1)) = 7 by decide, knF, show nmI (nI (0 + 1 + 1 + 1)) = 8 by decide, knF, show nmI (nI (0 + 1 + 1 + 1 + 1)) = 9 by decide, knF, show nmI (nI (0 + 1 + 1 + 1 + 1 + 1)) = 10 by decide, knF, e0, e1, e2, e3, e4, e5]
  rfl

abbrev rmX6_kindHere : Room := { frames := 3, cells := 0, slots := 0, locals := 68 }
theorem hYX6_kindHere : gY yX6_kindHere wsX6_kindHere cX6_kindHere 3 (some .int) 0 := ⟨⟨_, rfl⟩, by decide +kernel, by decide +kernel, by decide +kernel⟩
theorem m1X6_kindHere_c223 : Cond.constantLong RX6 223 (8902245) ∈ wsX6_kindHere := by decide +kernel
theorem m1X6_kindHere_c225 : Cond.constantLong RX6 225 (7225) ∈ wsX6_kindHere := by decide +kernel
theorem m1X6_kindHere_c227 : Cond.constantLong RX6 227 (7931589) ∈ wsX6_kindHere := by decide +kernel
theorem m1X6_kindHere_c229 : Cond.constantLong RX6 229 (3423538) ∈ wsX6_kindHere := by decide +kernel
theorem m1X6_kindHere_c231 : Cond.constantLong RX6 231 (24162970) ∈ wsX6_kindHere := by decide +kernel
theorem m1X6_kindHere_c233 : Cond.constantLong RX6 233 (398804) ∈ wsX6_kindHere := by decide +kernel
set_option maxRecDepth 100000 in
set_option maxHeartbeats 4000000 in
theorem c_X6_kindHere (l : Launch) (E : gE) (a : Nat → Nat) (c : Cor) (h : Mar) (b : Nat → Int32) (T : Nat) (t : Ter) (P : Nat) (v : Int32) (hT : T ≤ 120) (hP : P ≤ T) : cti l yX6_kindHere wsX6_kindHere rmX6_kindHere E [.ref (a 0)] (mW E a (t, c.2.1, c.2.2.1, b, nI T, c.2.2.2.2.2.1, c.2.2.2.2.2.2.1, c.2.2.2.2.2.2.2.1, c.2.2.2.2.2.2.2.2) (h.1, h.2.1, nI P, nI (tkE b T P), v, 0, h.2.2.2.2.2.2)) (fun r w => r = knF b T P 6 0 ∧ w = (mW E a (t, c.2.1, c.2.2.1, b, nI T, c.2.2.2.2.2.1, c.2.2.2.2.2.2.1, c.2.2.2.2.2.2.2.1, c.2.2.2.2.2.2.2.2) (h.1, h.2.1, nI P, nI (tkE b T P), v, 0, h.2.2.2.2.2.2))) := by
  refine mt_i (cc := cX6_kindHere) (maxL := 3) (ret := some .int) (lv0 := [(0, .ref (a 0))]) (by decide) rfl rfl (Nat.le_of_ble_eq_true rfl) (fun X cx gr hI => ?_)
  refine g_aload_n cx dX6_kindHere_0 0 rfl ?_
  refine g_VSl (rest := []) (As := []) cx hYX6_word gX6_kindHere_X6_word (c_X6_word_0 l E a c h b T t P v hT hP) rfl rfl rfl ⟨Nat.le_of_ble_eq_true rfl, Nat.le_of_ble_eq_true rfl⟩ rfl rfl (Nat.le_of_ble_eq_true rfl) ⟨Nat.le_of_ble_eq_true rfl, Nat.le_of_ble_eq_true rfl⟩ dX6_kindHere_1 (fun r w1 hp => ?_)
  obtain ⟨rfl, rfl⟩ := hp
  refine g_lstore_n (lv' := [(1, .long (whR b T P)), (0, .ref (a 0))]) cx dX6_kindHere_4 (by decide) rfl ?_
  refine g_lload_n cx dX6_kindHere_5 0 rfl ?_
  refine g_ldc2 cx m1X6_kindHere_c223 dX6_kindHere_6 ?_
  refine g_lc_ne (tgt := 17) cx dX6_kindHere_9 dX6_kindHere_10 (by decide) (fun c_1 => ?_) (fun c_1 => ?_)
  · refine g_lload_n cx dX6_kindHere_17 0 rfl ?_
    refine g_ldc2 cx m1X6_kindHere_c225 dX6_kindHere_18 ?_
    refine g_lc_ne (tgt := 29) cx dX6_kindHere_21 dX6_kindHere_22 (by decide) (fun c_2 => ?_) (fun c_2 => ?_)
    · refine g_lload_n cx dX6_kindHere_29 0 rfl ?_
      refine g_ldc2 cx m1X6_kindHere_c227 dX6_kindHere_30 ?_
      refine g_lc_ne (tgt := 41) cx dX6_kindHere_33 dX6_kindHere_34 (by decide) (fun c_3 => ?_) (fun c_3 => ?_)
      · refine g_lload_n cx dX6_kindHere_41 0 rfl ?_
        refine g_ldc2 cx m1X6_kindHere_c229 dX6_kindHere_42 ?_
        refine g_lc_ne (tgt := 53) cx dX6_kindHere_45 dX6_kindHere_46 (by decide) (fun c_4 => ?_) (fun c_4 => ?_)
        · refine g_lload_n cx dX6_kindHere_53 0 rfl ?_
          refine g_ldc2 cx m1X6_kindHere_c231 dX6_kindHere_54 ?_
          refine g_lc_ne (tgt := 65) cx dX6_kindHere_57 dX6_kindHere_58 (by decide) (fun c_5 => ?_) (fun c_5 => ?_)
          · refine g_lload_n cx dX6_kindHere_65 0 rfl ?_
            refine g_ldc2 cx m1X6_kindHere_c233 dX6_kindHere_66 ?_
            refine g_lc_ne (tgt := 77) cx dX6_kindHere_69 dX6_kindHere_70 (by decide) (fun c_6 => ?_) (fun c_6 => ?_)
            · refine g_iconst (v := (-1)) cx dX6_kindHere_77 (by decide) ?_
              exact g_iret cx gr (Nat.zero_le _) (Nat.zero_le _) dX6_kindHere_78 ⟨by rw [kn_c hT hP, if_neg c_1, if_neg c_2, if_neg c_3, if_neg c_4, if_neg c_5, if_neg c_6], rfl⟩
            · refine g_iconst (v := 5) cx dX6_kindHere_73 (by decide) ?_
              refine g_goto (tgt := 78) cx dX6_kindHere_74 (by decide) ?_
              exact g_iret cx gr (Nat.zero_le _) (Nat.zero_le _) dX6_kindHere_78 ⟨by rw [kn_c hT hP, if_neg c_1, if_neg c_2, if_neg c_3, if_neg c_4, if_neg c_5, if_pos c_6], rfl⟩
          · refine g_iconst (v := 4) cx dX6_kindHere_61 (by decide) ?_
            refine g_goto (tgt := 78) cx dX6_kindHere_62 (by decide) ?_
            exact g_iret cx gr (Nat.zero_le _) (Nat.zero_le _) dX6_kindHere_78 ⟨by rw [kn_c hT hP, if_neg c_1, if_neg c_2, if_neg c_3, if_neg c_4, if_pos c_5], rfl⟩
        · refine g_iconst (v := 3) cx dX6_kindHere_49 (by decide) ?_
          refine g_goto (tgt := 78) cx dX6_kindHere_50 (by decide) ?_
          exact g_iret cx gr (Nat.zero_le _) (Nat.zero_le _) dX6_kindHere_78 ⟨by rw [kn_c hT hP, if_neg c_1, if_neg c_2, if_neg c_3, if_pos c_4], rfl⟩
      · refine g_iconst (v := 2) cx dX6_kindHere_37 (by decide) ?_
        refine g_goto (tgt := 78) cx dX6_kindHere_38 (by decide) ?_
        exact g_iret cx gr (Nat.zero_le _) (Nat.zero_le _) dX6_kindHere_78 ⟨by rw [kn_c hT hP, if_neg c_1, if_neg c_2, if_pos c_3], rfl⟩
    · refine g_iconst (v := 1) cx dX6_kindHere_25 (by decide) ?_
      refine g_goto (tgt := 78) cx dX6_kindHere_26 (by decide) ?_
      exact g_iret cx gr (Nat.zero_le _) (Nat.zero_le _) dX6_kindHere_78 ⟨by rw [kn_c hT hP, if_neg c_1, if_pos c_2], rfl⟩
  · refine g_iconst (v := 0) cx dX6_kindHere_13 (by decide) ?_
    refine g_goto (tgt := 78) cx dX6_kindHere_14 (by decide) ?_
    exact g_iret cx gr (Nat.zero_le _) (Nat.zero_le _) dX6_kindHere_78 ⟨by rw [kn_c hT hP, if_pos c_1], rfl⟩
