abbrev rmX4_isItemTold : Room := { frames := 6, cells := 0, slots := 0, locals := 130 }
theorem hYX4_isItemTold : gY yX4_isItemTold wsX4_isItemTold cX4_isItemTold 3 (some .boolean) 1 := ⟨⟨_, rfl⟩, by decide +kernel, by decide +kernel, by decide +kernel⟩
set_option maxRecDepth 100000 in
set_option maxHeartbeats 4000000 in
theorem c_X4_isItemTold (l : Launch) (E : gE) (a : Nat → Nat) (b : Nat → Int32) (T : Nat) (P : Nat) (nu : Int32) (t : Ter) (hT : T ≤ 120) (hP : P ≤ T) : cti l yX4_isItemTold wsX4_isItemTold rmX4_isItemTold E [.ref (a 0), .ref (a 3)] (xtW E a (b, nI T, srt b T P, nI P, nI (tkE b T P), nu) t) (fun r w => r = (itT b T P nu t).1 ∧ w = lxW E a b T (itT b T P nu t).2.1 (itT b T P nu t).2.2.1 (itT b T P nu t).2.2.2) := by
  refine mt_i (cc := cX4_isItemTold) (maxL := 3) (ret := some .boolean) (lv0 := [(0, .ref (a 0)), (1, .ref (a 3))]) (by decide) rfl rfl (Nat.le_of_ble_eq_true rfl) (fun X cx gr hI => ?_)
  refine g_aload_n cx dX4_isItemTold_0 0 rfl ?_
  refine g_VSi (rest := []) (As := []) cx hYX4_kindNamed gX4_isItemTold_X4_kindNamed (c_X4_kindNamed l E a b T P nu t hT hP) rfl rfl rfl ⟨Nat.le_of_ble_eq_true rfl, Nat.le_of_ble_eq_true rfl⟩ rfl rfl (Nat.le_of_ble_eq_true rfl) ⟨Nat.le_of_ble_eq_true rfl, Nat.le_of_ble_eq_true rfl⟩ dX4_isItemTold_1 (fun r w1 hp => ?_)
  obtain ⟨hr, rfl⟩ := hp
  rw [hr]
  refine g_istore_n (lv' := [(2, .int (knF b T P 6 0)), (0, .ref (a 0)), (1, .ref (a 3))]) cx dX4_isItemTold_4 (by decide) rfl ?_
  refine g_iload_n cx dX4_isItemTold_5 0 rfl ?_
  refine g_iconst (v := (-1)) cx dX4_isItemTold_6 (by decide) ?_
  refine g_icmp_eq (tgt := 17) cx dX4_isItemTold_7 (by decide) (fun c_1 => ?_) (fun c_1 => ?_)
  · refine g_aload_n cx dX4_isItemTold_17 1 rfl ?_
    refine g_ldcS (i := 0) cx rfl (by decide) rfl dX4_isItemTold_18 ?_
    refine g_VSi (rest := []) (As := [.ref (E.2.2.1 0)]) cx hYX4_isWord gX4_isItemTold_X4_isWord (c_X4_isWord l E a b T P nu t 0 hT hP (by decide)) rfl rfl rfl ⟨Nat.le_of_ble_eq_true rfl, Nat.le_of_ble_eq_true rfl⟩ rfl rfl (Nat.le_of_ble_eq_true rfl) ⟨Nat.le_of_ble_eq_true rfl, Nat.le_of_ble_eq_true rfl⟩ dX4_isItemTold_20 (fun r w1 hp => ?_)
    obtain ⟨rfl, rfl⟩ := hp
    refine g_if_eq (tgt := 32) cx dX4_isItemTold_23 (by decide) (fun c_2 => ?_) (fun c_2 => ?_)
    · refine g_aload_n cx dX4_isItemTold_32 1 rfl ?_
      refine g_ldcS (i := 1) cx rfl (by decide) rfl dX4_isItemTold_33 ?_
      refine g_VSi (rest := []) (As := [.ref (E.2.2.1 1)]) cx hYX4_isWord gX4_isItemTold_X4_isWord (c_X4_isWord l E a b T P nu t 1 hT hP (by decide)) rfl rfl rfl ⟨Nat.le_of_ble_eq_true rfl, Nat.le_of_ble_eq_true rfl⟩ rfl rfl (Nat.le_of_ble_eq_true rfl) ⟨Nat.le_of_ble_eq_true rfl, Nat.le_of_ble_eq_true rfl⟩ dX4_isItemTold_35 (fun r w1 hp => ?_)
      obtain ⟨rfl, rfl⟩ := hp
      refine g_if_eq (tgt := 47) cx dX4_isItemTold_38 (by decide) (fun c_3 => ?_) (fun c_3 => ?_)
      · refine g_aload_n cx dX4_isItemTold_47 1 rfl ?_
        refine g_ldcS (i := 2) cx rfl (by decide) rfl dX4_isItemTold_48 ?_
        refine g_VSi (rest := []) (As := [.ref (E.2.2.1 2)]) cx hYX4_isWord gX4_isItemTold_X4_isWord (c_X4_isWord l E a b T P nu t 2 hT hP (by decide)) rfl rfl rfl ⟨Nat.le_of_ble_eq_true rfl, Nat.le_of_ble_eq_true rfl⟩ rfl rfl (Nat.le_of_ble_eq_true rfl) ⟨Nat.le_of_ble_eq_true rfl, Nat.le_of_ble_eq_true rfl⟩ dX4_isItemTold_50 (fun r w1 hp => ?_)
        obtain ⟨rfl, rfl⟩ := hp
        refine g_if_eq (tgt := 68) cx dX4_isItemTold_53 (by decide) (fun c_4 => ?_) (fun c_4 => ?_)
        · refine g_iconst (v := 0) cx dX4_isItemTold_68 (by decide) ?_
          exact g_zret cx gr rfl (Nat.zero_le _) (Nat.zero_le _) dX4_isItemTold_69 (tleaf (by rw [itT, if_pos c_1, if_pos c_2, if_pos c_3, if_pos c_4]))
        · refine g_aload_n cx dX4_isItemTold_56 1 rfl ?_
          refine g_aload_n cx dX4_isItemTold_57 2 rfl ?_
          refine g_VSi (rest := []) (As := [.ref (a 3)]) cx hYX4_isCrackTold gX4_isItemTold_X4_isCrackTold (c_X4_isCrackTold l E a b T P nu t hT hP) rfl rfl rfl ⟨Nat.le_of_ble_eq_true rfl, Nat.le_of_ble_eq_true rfl⟩ rfl rfl (Nat.le_of_ble_eq_true rfl) ⟨Nat.le_of_ble_eq_true rfl, Nat.le_of_ble_eq_true rfl⟩ dX4_isItemTold_58 (fun r w1 hp => ?_)
          obtain ⟨hr, rfl⟩ := hp
          rw [hr]
          refine g_if_eq (tgt := 68) cx dX4_isItemTold_61 (by decide) (fun c_5 => ?_) (fun c_5 => ?_)
          · refine g_iconst (v := 0) cx dX4_isItemTold_68 (by decide) ?_
            exact g_zret cx gr rfl (Nat.zero_le _) (Nat.zero_le _) dX4_isItemTold_69 (tleaf (it_eta (by rw [itT, if_pos c_1, if_pos c_2, if_pos c_3, if_neg c_4]) (c_5)))
          · refine g_iconst (v := 1) cx dX4_isItemTold_64 (by decide) ?_
            refine g_goto (tgt := 69) cx dX4_isItemTold_65 (by decide) ?_
            exact g_zret cx gr rfl (Nat.zero_le _) (Nat.zero_le _) dX4_isItemTold_69 (tleaf (it_eta (by rw [itT, if_pos c_1, if_pos c_2, if_pos c_3, if_neg c_4]) (ck_1 c_5)))
      · refine g_aload_n cx dX4_isItemTold_41 1 rfl ?_
        refine g_aload_n cx dX4_isItemTold_42 2 rfl ?_
        refine g_VSi (rest := []) (As := [.ref (a 3)]) cx hYX4_isTrayTold gX4_isItemTold_X4_isTrayTold (c_X4_isTrayTold l E a b T P nu t hT hP) rfl rfl rfl ⟨Nat.le_of_ble_eq_true rfl, Nat.le_of_ble_eq_true rfl⟩ rfl rfl (Nat.le_of_ble_eq_true rfl) ⟨Nat.le_of_ble_eq_true rfl, Nat.le_of_ble_eq_true rfl⟩ dX4_isItemTold_43 (fun r w1 hp => ?_)
        obtain ⟨hr, rfl⟩ := hp
        rw [hr]
        exact g_zret cx gr (b_or (trT_b _ _ _ _ _)) (Nat.zero_le _) (Nat.zero_le _) dX4_isItemTold_46 (tleaf (it_eta (by rw [itT, if_pos c_1, if_pos c_2, if_neg c_3]) rfl))
    · refine g_aload_n cx dX4_isItemTold_26 1 rfl ?_
      refine g_aload_n cx dX4_isItemTold_27 2 rfl ?_
      refine g_VSi (rest := []) (As := [.ref (a 3)]) cx hYX4_isManTold gX4_isItemTold_X4_isManTold (c_X4_isManTold l E a b T P nu t hT hP) rfl rfl rfl ⟨Nat.le_of_ble_eq_true rfl, Nat.le_of_ble_eq_true rfl⟩ rfl rfl (Nat.le_of_ble_eq_true rfl) ⟨Nat.le_of_ble_eq_true rfl, Nat.le_of_ble_eq_true rfl⟩ dX4_isItemTold_28 (fun r w1 hp => ?_)
      obtain ⟨hr, rfl⟩ := hp
      rw [hr]
      exact g_zret cx gr (b_or (mnT_b _ _ _ _ _)) (Nat.zero_le _) (Nat.zero_le _) dX4_isItemTold_31 (tleaf (it_eta (by rw [itT, if_pos c_1, if_neg c_2]) rfl))
  · refine g_aload_n cx dX4_isItemTold_10 1 rfl ?_
    refine g_aload_n cx dX4_isItemTold_11 2 rfl ?_
    refine g_iload_n cx dX4_isItemTold_12 0 rfl ?_
    refine g_VSi (rest := []) (As := [.ref (a 3), .int (knF b T P 6 0)]) cx hYX4_isHouseTold gX4_isItemTold_X4_isHouseTold (c_X4_isHouseTold l E a b T P nu t (knF b T P 6 0) hT hP) rfl rfl rfl ⟨Nat.le_of_ble_eq_true rfl, Nat.le_of_ble_eq_true rfl⟩ rfl rfl (Nat.le_of_ble_eq_true rfl) ⟨Nat.le_of_ble_eq_true rfl, Nat.le_of_ble_eq_true rfl⟩ dX4_isItemTold_13 (fun r w1 hp => ?_)
    obtain ⟨hr, rfl⟩ := hp
    rw [hr]
    exact g_zret cx gr (b_or (hsT_b _ _ _ _ _)) (Nat.zero_le _) (Nat.zero_le _) dX4_isItemTold_16 (tleaf (it_eta (by rw [itT, if_neg c_1]) rfl))
