theorem nxP_le {b : Nat → Int32} {T P : Nat} (h : P ≤ T) : nxP b T P ≤ T := skA_le b 32 32 (tkE_le h)
theorem nleaf {E : gE} {a : Nat → Nat} {b : Nat → Int32} {T P' : Nat} {r nu' : Int32} {t : Ter} {N : Int32 × Nat × Int32} (h : N = (r, P', nu')) : r = N.1 ∧ lxW E a b T P' nu' t = lxW E a b T N.2.1 N.2.2 t := by
  rw [h]
  exact ⟨rfl, rfl⟩

theorem nm_k {b : Nat → Int32} {T P : Nat} {M nu v : Int32} (h : srt b T (nxP b T P) = 2) (hs : numL b M (tkE b T (nxP b T P) - nxP b T P) (nxP b T P) 0 = (1, v)) : nmN b T P M nu = (1, nxP b T (nxP b T P), v) := by
  rw [nmN, if_pos h, hs, if_pos rfl]
theorem nm_z {b : Nat → Int32} {T P : Nat} {M nu v : Int32} (h : srt b T (nxP b T P) = 2) (hs : numL b M (tkE b T (nxP b T P) - nxP b T P) (nxP b T P) 0 = (0, v)) : nmN b T P M nu = (0, nxP b T P, v) := by
  rw [nmN, if_pos h, hs, if_neg (by decide : ¬ (0 : Int32) = 1)]

abbrev rmX4_isNumberNext : Room := { frames := 2, cells := 0, slots := 0, locals := 46 }
theorem hYX4_isNumberNext : gY yX4_isNumberNext wsX4_isNumberNext cX4_isNumberNext 3 (some .boolean) 1 := ⟨⟨_, rfl⟩, by decide +kernel, by decide +kernel, by decide +kernel⟩
theorem iwX4_isNumberNext_X4 : ∀ w ∈ u_ws RX4 TX4 5, w ∈ wsX4_isNumberNext := by decide +kernel
theorem lkX4_isNumberNext_15 : Cond.fieldLink RX4 15 "MuffinBells$TerraceText" "sort" "I" ∈ wsX4_isNumberNext := by decide +kernel
theorem lkX4_isNumberNext_25 : Cond.fieldLink RX4 25 "MuffinBells$TerraceText" "number" "I" ∈ wsX4_isNumberNext := by decide +kernel
theorem lkX4_isNumberNext_19 : Cond.fieldLink RX4 19 "MuffinBells$TerraceText" "start" "I" ∈ wsX4_isNumberNext := by decide +kernel
theorem lkX4_isNumberNext_22 : Cond.fieldLink RX4 22 "MuffinBells$TerraceText" "end" "I" ∈ wsX4_isNumberNext := by decide +kernel
theorem lkX4_isNumberNext_9 : Cond.fieldLink RX4 9 "MuffinBells$TerraceText" "tape" "LMuffinBells$Tape;" ∈ wsX4_isNumberNext := by decide +kernel
theorem iwX4_isNumberNext_X2 : ∀ w ∈ u_ws RX2 TX2 2, w ∈ wsX4_isNumberNext := by decide +kernel
theorem lkX4_isNumberNext_116 : Cond.fieldLink RX4 116 "MuffinBells$Tape" "bytes" "[I" ∈ wsX4_isNumberNext := by decide +kernel
set_option maxRecDepth 100000 in
set_option maxHeartbeats 4000000 in
theorem c_X4_isNumberNext (l : Launch) (E : gE) (a : Nat → Nat) (b : Nat → Int32) (T : Nat) (P : Nat) (nu : Int32) (t : Ter) (M0 : Int32) (hT : T ≤ 120) (hP : P ≤ T) : cti l yX4_isNumberNext wsX4_isNumberNext rmX4_isNumberNext E [.ref (a 0), .int M0] (xtW E a (b, nI T, srt b T P, nI P, nI (tkE b T P), nu) t) (fun r w => r = (nmN b T P M0 nu).1 ∧ w = lxW E a b T (nmN b T P M0 nu).2.1 (nmN b T P M0 nu).2.2 t) := by
  refine mt_i (cc := cX4_isNumberNext) (maxL := 3) (ret := some .boolean) (lv0 := [(0, .ref (a 0)), (1, .int M0)]) (by decide) rfl rfl (Nat.le_of_ble_eq_true rfl) (fun X cx gr hI => ?_)
  have hP1 : nxP b T P ≤ T := nxP_le hP
  have hE1 : tkE b T (nxP b T P) ≤ T := tkE_le hP1
  have hE2 : nxP b T P ≤ tkE b T (nxP b T P) := tkE_ge
  refine g_aload_n cx dX4_isNumberNext_0 0 rfl ?_
  refine g_VSv (rest := []) (As := []) cx hYX4_advance gX4_isNumberNext_X4_advance (c_X4_advance l E a b T (srt b T P) (nI P) nu t (tkE b T P) hT (tkE_le hP)) rfl rfl rfl ⟨Nat.le_of_ble_eq_true rfl, Nat.le_of_ble_eq_true rfl⟩ rfl rfl (Nat.le_of_ble_eq_true rfl) ⟨Nat.le_of_ble_eq_true rfl, Nat.le_of_ble_eq_true rfl⟩ dX4_isNumberNext_1 (fun w1 hp => ?_)
  obtain rfl := hp
  refine g_aload_n cx dX4_isNumberNext_4 0 rfl ?_
  refine g_get (C := RX4) (T := TX4) (N := 5) (v := .int (srt b T (nxP b T P))) cx iwX4_isNumberNext_X4 0 1 rfl rfl (by decide) lkX4_isNumberNext_15 rfl dX4_isNumberNext_5 ?_
  refine g_iconst (v := 2) cx dX4_isNumberNext_8 (by decide) ?_
  refine g_icmp_eq (tgt := 14) cx dX4_isNumberNext_9 (by decide) (fun c_1 => ?_) (fun c_1 => ?_)
  · refine g_aload_n cx dX4_isNumberNext_14 0 rfl ?_
    refine g_iconst (v := 0) cx dX4_isNumberNext_15 (by decide) ?_
    refine g_put (C := RX4) (T := TX4) (N := 5) (ws' := (xtW E a (b, nI T, srt b T (nxP b T P), nI (nxP b T P), nI (tkE b T (nxP b T P)), 0) t)) cx iwX4_isNumberNext_X4 tyX4 tyX4_ok nmX4 0 4 rfl rfl (by decide) lkX4_isNumberNext_25 rfl rfl rfl (Nat.le_of_ble_eq_true rfl) dX4_isNumberNext_16 rfl ?_
    refine g_aload_n cx dX4_isNumberNext_19 0 rfl ?_
    refine g_get (C := RX4) (T := TX4) (N := 5) (v := .int (nI (nxP b T P))) cx iwX4_isNumberNext_X4 0 2 rfl rfl (by decide) lkX4_isNumberNext_19 rfl dX4_isNumberNext_20 ?_
    refine g_istore_n (lv' := [(2, .int (nI (nxP b T P))), (0, .ref (a 0)), (1, .int M0)]) cx dX4_isNumberNext_23 (by decide) rfl ?_
    have LP24 : ∀ (d : Nat) (i : Nat) (x : Int32) (v : Int32), i + d = (tkE b T (nxP b T P)) + 1 → i ≤ (tkE b T (nxP b T P)) → (nxP b T P) ≤ i → x = nI i → numL b M0 ((tkE b T (nxP b T P)) - (nxP b T P)) (nxP b T P) 0 = numL b M0 ((tkE b T (nxP b T P)) - i) i v → gG X 0 0 (xtW E a (b, nI T, srt b T (nxP b T P), nI (nxP b T P), nI (tkE b T (nxP b T P)), v) t) 24 [(0, .ref (a 0)), (1, .int M0), (2, .int x)] [] := by
      intro d
      induction d with
      | zero =>
        intro i x v hi9 hie hip hx hs
        omega
      | succ d ih =>
        intro i x v hi9 hie hip hx hs
        refine g_iload_n cx dX4_isNumberNext_24 2 rfl ?_
        refine g_aload_n cx dX4_isNumberNext_25 0 rfl ?_
        refine g_get (C := RX4) (T := TX4) (N := 5) (v := .int (nI (tkE b T (nxP b T P)))) cx iwX4_isNumberNext_X4 0 3 rfl rfl (by decide) lkX4_isNumberNext_22 rfl dX4_isNumberNext_26 ?_
        refine g_icmp_ge (tgt := 72) cx dX4_isNumberNext_29 (by decide) (fun c_2 => ?_) (fun c_2 => ?_)
        · refine g_aload_n cx dX4_isNumberNext_72 0 rfl ?_
          refine g_VSv (rest := []) (As := []) cx hYX4_advance gX4_isNumberNext_X4_advance (c_X4_advance l E a b T (srt b T (nxP b T P)) (nI (nxP b T P)) v t (tkE b T (nxP b T P)) hT (tkE_le hP1)) rfl rfl rfl ⟨Nat.le_of_ble_eq_true rfl, Nat.le_of_ble_eq_true rfl⟩ rfl rfl (Nat.le_of_ble_eq_true rfl) ⟨Nat.le_of_ble_eq_true rfl, Nat.le_of_ble_eq_true rfl⟩ dX4_isNumberNext_73 (fun w1 hp => ?_)
          obtain rfl := hp
          refine g_iconst (v := 1) cx dX4_isNumberNext_76 (by decide) ?_
          exact g_zret cx gr rfl (Nat.zero_le _) (Nat.zero_le _) dX4_isNumberNext_77 (nleaf (nm_k c_1 (by rw [hs, show (tkE b T (nxP b T P)) - i = 0 by have := ge_of (tkE b T (nxP b T P)) hx c_2 (by omega) (by omega); omega]; rfl)))
        · refine g_aload_n cx dX4_isNumberNext_32 0 rfl ?_
          refine g_bipush (v := 10) cx dX4_isNumberNext_33 (by decide) ?_
          refine g_aload_n cx dX4_isNumberNext_35 0 rfl ?_
          refine g_get (C := RX4) (T := TX4) (N := 5) (v := .int v) cx iwX4_isNumberNext_X4 0 4 rfl rfl (by decide) lkX4_isNumberNext_25 rfl dX4_isNumberNext_36 ?_
          refine g_imul cx dX4_isNumberNext_39 ?_
          refine g_aload_n cx dX4_isNumberNext_40 0 rfl ?_
          refine g_get (C := RX4) (T := TX4) (N := 5) (v := .ref (a 1)) cx iwX4_isNumberNext_X4 0 0 rfl rfl (by decide) lkX4_isNumberNext_9 rfl dX4_isNumberNext_41 ?_
          refine g_get (C := RX2) (T := TX2) (N := 2) (v := .ref (a 2)) cx iwX4_isNumberNext_X2 1 0 rfl rfl (by decide) lkX4_isNumberNext_116 rfl dX4_isNumberNext_44 ?_
          refine g_iload_n cx dX4_isNumberNext_47 2 rfl ?_
          refine g_iald cx 2 rfl rfl (vp_of_nI hx (by have := lt_of (tkE b T (nxP b T P)) hx c_2 (by omega) (by omega); omega) (by decide)) dX4_isNumberNext_48 ?_
          refine g_iadd cx dX4_isNumberNext_49 ?_
          refine g_bipush (v := 48) cx dX4_isNumberNext_50 (by decide) ?_
          refine g_isub cx dX4_isNumberNext_52 ?_
          refine g_put (C := RX4) (T := TX4) (N := 5) (ws' := (xtW E a (b, nI T, srt b T (nxP b T P), nI (nxP b T P), nI (tkE b T (nxP b T P)), ((10 * v) + (b (x.toNatClampNeg))) - 48) t)) cx iwX4_isNumberNext_X4 tyX4 tyX4_ok nmX4 0 4 rfl rfl (by decide) lkX4_isNumberNext_25 rfl rfl rfl (Nat.le_of_ble_eq_true rfl) dX4_isNumberNext_53 rfl ?_
          refine g_aload_n cx dX4_isNumberNext_56 0 rfl ?_
          refine g_get (C := RX4) (T := TX4) (N := 5) (v := .int (((10 * v) + (b (x.toNatClampNeg))) - 48)) cx iwX4_isNumberNext_X4 0 4 rfl rfl (by decide) lkX4_isNumberNext_25 rfl dX4_isNumberNext_57 ?_
          refine g_iload_n cx dX4_isNumberNext_60 1 rfl ?_
          refine g_icmp_le (tgt := 66) cx dX4_isNumberNext_61 (by decide) (fun c_3 => ?_) (fun c_3 => ?_)
          · refine g_iinc (v := x + 1) (lv' := [(2, .int (x + 1)), (0, .ref (a 0)), (1, .int M0)]) cx dX4_isNumberNext_66 2 rfl rfl (by decide) rfl ?_
            refine g_goto (tgt := 24) cx dX4_isNumberNext_69 (by decide) ?_
            exact g_lv [1, 2, 0] rfl (ih (i + 1) (x + 1) _ (by omega) (by have := (lt_of (tkE b T (nxP b T P)) hx c_2 (by omega) (by omega)); omega) (by omega) (by rw [hx]; exact nI_1 i) (by rw [hs, show (tkE b T (nxP b T P)) - i = ((tkE b T (nxP b T P)) - (i + 1)) + 1 by have := (lt_of (tkE b T (nxP b T P)) hx c_2 (by omega) (by omega)); omega, numL, hx, nI_clamp (by omega), if_pos (by have q := c_3; rw [hx, nI_clamp (by omega)] at q; exact q)]))
          · refine g_iconst (v := 0) cx dX4_isNumberNext_64 (by decide) ?_
            exact g_zret cx gr rfl (Nat.zero_le _) (Nat.zero_le _) dX4_isNumberNext_65 (nleaf (nm_z c_1 (by rw [hs, show (tkE b T (nxP b T P)) - i = ((tkE b T (nxP b T P)) - (i + 1)) + 1 by have := lt_of (tkE b T (nxP b T P)) hx c_2 (by omega) (by omega); omega, numL, hx, nI_clamp (by omega), if_neg (by have q := c_3; rw [hx, nI_clamp (by omega)] at q; exact q)])))
    exact g_lv [1, 2, 0] rfl (LP24 ((tkE b T (nxP b T P)) + 1 - (nxP b T P)) (nxP b T P) _ 0 (by omega) (by omega) (by omega) rfl rfl)
  · refine g_iconst (v := 0) cx dX4_isNumberNext_12 (by decide) ?_
    exact g_zret cx gr rfl (Nat.zero_le _) (Nat.zero_le _) dX4_isNumberNext_13 (nleaf (by rw [nmN, if_neg c_1]))
