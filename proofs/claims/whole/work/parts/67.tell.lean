theorem pcT_le {b : Nat → Int32} {T P : Nat} {nu : Int32} {t : Ter} {h : Int32} (hP : P ≤ T) : (pcT b T P nu t h).2.1 ≤ T := by
  unfold pcT
  split
  · exact hP
  · split
    · exact nm_le _ _ hP
    · exact nm_le _ _ hP
theorem mdT_le {b : Nat → Int32} {T P : Nat} {nu : Int32} {t : Ter} {h : Int32} (hP : P ≤ T) : (mdT b T P nu t h).2.1 ≤ T := by
  unfold mdT
  split
  · exact pcT_le hP
  · split
    · exact nm_le _ _ hP
    · exact pcT_le (nm_le _ _ hP)
theorem hsT_le {b : Nat → Int32} {T P : Nat} {nu : Int32} {t : Ter} {k : Int32} (hP : P ≤ T) : (hsT b T P nu t k).2.1 ≤ T := by
  unfold hsT
  split
  · exact nm_le _ _ hP
  · exact mdT_le (nm_le _ _ hP)
theorem mnT_le {b : Nat → Int32} {T P : Nat} {nu : Int32} {t : Ter} (hP : P ≤ T) : (mnT b T P nu t).2.1 ≤ T := by
  unfold mnT
  split
  · exact nm_le _ _ hP
  · split
    · exact nm_le _ _ hP
    · exact nxP_le (nm_le _ _ hP)
theorem trT_le {b : Nat → Int32} {T P : Nat} {nu : Int32} {t : Ter} (hP : P ≤ T) : (trT b T P nu t).2.1 ≤ T := by
  unfold trT
  split
  · exact nm_le _ _ hP
  · exact nm_le _ _ hP
theorem ckT_le {b : Nat → Int32} {T P : Nat} {nu : Int32} {t : Ter} (hP : P ≤ T) : (ckT b T P nu t).2.1 ≤ T := by
  unfold ckT
  split
  · exact nm_le _ _ hP
  · exact nm_le _ _ hP
theorem itT_le {b : Nat → Int32} {T P : Nat} {nu : Int32} {t : Ter} (hP : P ≤ T) : (itT b T P nu t).2.1 ≤ T := by
  unfold itT
  split
  · split
    · split
      · split
        · exact hP
        · exact ckT_le hP
      · exact trT_le hP
    · exact mnT_le hP
  · exact hsT_le hP
/-- items, k told of them with this one, n tries left: the answer, where, the terrace -/
def tlL (b : Nat → Int32) (T : Nat) : Nat → Nat → Nat → Int32 → Ter → Int32 × Nat × Int32 × Ter
  | 0, _, P, nu, t => (-1 - nI P, P, nu, t)
  | n + 1, k, P, nu, t => if (itT b T P nu t).1 = 0 then (-1 - nI (itT b T P nu t).2.1, (itT b T P nu t).2) else if srt b T (itT b T P nu t).2.1 = 0 then (nI k, (itT b T P nu t).2) else if srt b T (itT b T P nu t).2.1 = 3 then tlL b T n (k + 1) (nxP b T (itT b T P nu t).2.1) (itT b T P nu t).2.2.1 (itT b T P nu t).2.2.2 else (-1 - nI (itT b T P nu t).2.1, (itT b T P nu t).2)

abbrev rmX4_tellTo : Room := { frames := 7, cells := 0, slots := 0, locals := 152 }
theorem hYX4_tellTo : gY yX4_tellTo wsX4_tellTo cX4_tellTo 3 (some .int) 1 := ⟨⟨_, rfl⟩, by decide +kernel, by decide +kernel, by decide +kernel⟩
theorem iwX4_tellTo_X4 : ∀ w ∈ u_ws RX4 TX4 5, w ∈ wsX4_tellTo := by decide +kernel
theorem lkX4_tellTo_22 : Cond.fieldLink RX4 22 "MuffinBells$TerraceText" "end" "I" ∈ wsX4_tellTo := by decide +kernel
theorem lkX4_tellTo_19 : Cond.fieldLink RX4 19 "MuffinBells$TerraceText" "start" "I" ∈ wsX4_tellTo := by decide +kernel
theorem lkX4_tellTo_15 : Cond.fieldLink RX4 15 "MuffinBells$TerraceText" "sort" "I" ∈ wsX4_tellTo := by decide +kernel
set_option maxRecDepth 100000 in
set_option maxHeartbeats 4000000 in
theorem c_X4_tellTo (l : Launch) (E : gE) (a : Nat → Nat) (b : Nat → Int32) (T : Nat) (so : Int32) (sa : Int32) (en : Int32) (nu : Int32) (t : Ter) (tl0 : Int32) (hT : T ≤ 120) (htl : tl0 = nI T) : cti l yX4_tellTo wsX4_tellTo rmX4_tellTo E [.ref (a 0), .ref (a 3)] (xtW E a (b, tl0, so, sa, en, nu) t) (fun r w => ∃ X9, X9 = tlL b T 120 1 (tkS b T 0) nu t ∧ r = X9.1 ∧ w = lxW E a b T X9.2.1 X9.2.2.1 X9.2.2.2) := by
  subst htl
  refine mt_i (cc := cX4_tellTo) (maxL := 3) (ret := some .int) (lv0 := [(0, .ref (a 0)), (1, .ref (a 3))]) (by decide) rfl rfl (Nat.le_of_ble_eq_true rfl) (fun X cx gr hI => ?_)
  refine g_aload_n cx dX4_tellTo_0 0 rfl ?_
  refine g_iconst (v := 0) cx dX4_tellTo_1 (by decide) ?_
  refine g_put (C := RX4) (T := TX4) (N := 5) (ws' := (xtW E a (b, nI T, so, sa, 0, nu) t)) cx iwX4_tellTo_X4 tyX4 tyX4_ok nmX4 0 3 rfl rfl (by decide) lkX4_tellTo_22 rfl rfl rfl (Nat.le_of_ble_eq_true rfl) dX4_tellTo_2 rfl ?_
  refine g_aload_n cx dX4_tellTo_5 0 rfl ?_
  refine g_VSv (rest := []) (As := []) cx hYX4_advance gX4_tellTo_X4_advance (c_X4_advance l E a b T so sa nu t 0 hT (Nat.zero_le _)) rfl rfl rfl ⟨Nat.le_of_ble_eq_true rfl, Nat.le_of_ble_eq_true rfl⟩ rfl rfl (Nat.le_of_ble_eq_true rfl) ⟨Nat.le_of_ble_eq_true rfl, Nat.le_of_ble_eq_true rfl⟩ dX4_tellTo_6 (fun w1 hp => ?_)
  obtain rfl := hp
  refine g_iconst (v := 1) cx dX4_tellTo_9 (by decide) ?_
  refine g_istore_n (lv' := [(2, .int 1), (0, .ref (a 0)), (1, .ref (a 3))]) cx dX4_tellTo_10 (by decide) rfl ?_
  have LP11 : ∀ (d : Nat) (k : Nat) (x : Int32) (Q : Nat) (mu : Int32) (u : Ter), k + d = 122 → k ≤ 121 → 1 ≤ k → Q ≤ T → x = nI k → tlL b T 120 1 (tkS b T 0) nu t = tlL b T (121 - k) k Q mu u → gG X 0 0 (xtW E a (b, nI T, srt b T Q, nI Q, nI (tkE b T Q), mu) u) 11 [(0, .ref (a 0)), (1, .ref (a 3)), (2, .int x)] [] := by
    intro d
    induction d with
    | zero =>
      intro k x Q mu u hd9 hk hk1 hQ hx hs
      omega
    | succ d ih =>
      intro k x Q mu u hd9 hk hk1 hQ hx hs
      refine g_iload_n cx dX4_tellTo_11 2 rfl ?_
      refine g_bipush (v := 120) cx dX4_tellTo_12 (by decide) ?_
      refine g_icmp_gt (tgt := 66) cx dX4_tellTo_14 (by decide) (fun c_1 => ?_) (fun c_1 => ?_)
      · refine g_iconst (v := (-1)) cx dX4_tellTo_66 (by decide) ?_
        refine g_aload_n cx dX4_tellTo_67 0 rfl ?_
        refine g_get (C := RX4) (T := TX4) (N := 5) (v := .int (nI Q)) cx iwX4_tellTo_X4 0 2 rfl rfl (by decide) lkX4_tellTo_19 rfl dX4_tellTo_68 ?_
        refine g_isub cx dX4_tellTo_71 ?_
        exact g_iret cx gr (Nat.zero_le _) (Nat.zero_le _) dX4_tellTo_72 ⟨_, rfl, tleaf (by rw [hs, show 121 - k = 0 by have := gt_of 120 hx c_1 (by omega) (by decide); omega]; rfl)⟩
      · refine g_aload_n cx dX4_tellTo_17 0 rfl ?_
        refine g_aload_n cx dX4_tellTo_18 1 rfl ?_
        refine g_VSi (rest := []) (As := [.ref (a 3)]) cx hYX4_isItemTold gX4_tellTo_X4_isItemTold (c_X4_isItemTold l E a b T Q mu u hT hQ) rfl rfl rfl ⟨Nat.le_of_ble_eq_true rfl, Nat.le_of_ble_eq_true rfl⟩ rfl rfl (Nat.le_of_ble_eq_true rfl) ⟨Nat.le_of_ble_eq_true rfl, Nat.le_of_ble_eq_true rfl⟩ dX4_tellTo_19 (fun r w1 hp => ?_)
        obtain ⟨hr, rfl⟩ := hp
        rw [hr]
        refine g_if_ne (tgt := 32) cx dX4_tellTo_22 (by decide) (fun c_2 => ?_) (fun c_2 => ?_)
        · refine g_aload_n cx dX4_tellTo_32 0 rfl ?_
          refine g_get (C := RX4) (T := TX4) (N := 5) (v := .int (srt b T ((itT b T Q mu u).2.1))) cx iwX4_tellTo_X4 0 1 rfl rfl (by decide) lkX4_tellTo_15 rfl dX4_tellTo_33 ?_
          refine g_if_ne (tgt := 41) cx dX4_tellTo_36 (by decide) (fun c_3 => ?_) (fun c_3 => ?_)
          · refine g_aload_n cx dX4_tellTo_41 0 rfl ?_
            refine g_get (C := RX4) (T := TX4) (N := 5) (v := .int (srt b T ((itT b T Q mu u).2.1))) cx iwX4_tellTo_X4 0 1 rfl rfl (by decide) lkX4_tellTo_15 rfl dX4_tellTo_42 ?_
            refine g_iconst (v := 3) cx dX4_tellTo_45 (by decide) ?_
            refine g_icmp_eq (tgt := 56) cx dX4_tellTo_46 (by decide) (fun c_4 => ?_) (fun c_4 => ?_)
            · refine g_aload_n cx dX4_tellTo_56 0 rfl ?_
              refine g_VSv (rest := []) (As := []) cx hYX4_advance gX4_tellTo_X4_advance (c_X4_advance l E a b T (srt b T ((itT b T Q mu u).2.1)) (nI ((itT b T Q mu u).2.1)) ((itT b T Q mu u).2.2.1) ((itT b T Q mu u).2.2.2) (tkE b T ((itT b T Q mu u).2.1)) hT (tkE_le (itT_le hQ))) rfl rfl rfl ⟨Nat.le_of_ble_eq_true rfl, Nat.le_of_ble_eq_true rfl⟩ rfl rfl (Nat.le_of_ble_eq_true rfl) ⟨Nat.le_of_ble_eq_true rfl, Nat.le_of_ble_eq_true rfl⟩ dX4_tellTo_57 (fun w1 hp => ?_)
              obtain rfl := hp
              refine g_iinc (v := x + 1) (lv' := [(2, .int (x + 1)), (0, .ref (a 0)), (1, .ref (a 3))]) cx dX4_tellTo_60 2 rfl rfl (by decide) rfl ?_
              refine g_goto (tgt := 11) cx dX4_tellTo_63 (by decide) ?_
              exact g_lv [1, 2, 0] rfl (ih (k + 1) (x + 1) (nxP b T (itT b T Q mu u).2.1) (itT b T Q mu u).2.2.1 (itT b T Q mu u).2.2.2 (by omega) (by have := (le_of 120 hx c_1 (by omega) (by decide)); omega) (by omega) (nxP_le (itT_le hQ)) (by rw [hx]; exact nI_1 k) (by rw [hs, show 121 - k = (121 - (k + 1)) + 1 by have := (le_of 120 hx c_1 (by omega) (by decide)); omega, tlL, if_neg c_2, if_neg c_3, if_pos c_4]))
            · refine g_iconst (v := (-1)) cx dX4_tellTo_49 (by decide) ?_
              refine g_aload_n cx dX4_tellTo_50 0 rfl ?_
              refine g_get (C := RX4) (T := TX4) (N := 5) (v := .int (nI ((itT b T Q mu u).2.1))) cx iwX4_tellTo_X4 0 2 rfl rfl (by decide) lkX4_tellTo_19 rfl dX4_tellTo_51 ?_
              refine g_isub cx dX4_tellTo_54 ?_
              exact g_iret cx gr (Nat.zero_le _) (Nat.zero_le _) dX4_tellTo_55 ⟨_, rfl, tleaf (by rw [hs, show 121 - k = (121 - (k + 1)) + 1 by have := (le_of 120 hx c_1 (by omega) (by decide)); omega, tlL, if_neg c_2, if_neg c_3, if_neg c_4])⟩
          · refine g_iload_n cx dX4_tellTo_39 2 rfl ?_
            exact g_iret cx gr (Nat.zero_le _) (Nat.zero_le _) dX4_tellTo_40 ⟨_, rfl, tleaf (by rw [hs, show 121 - k = (121 - (k + 1)) + 1 by have := (le_of 120 hx c_1 (by omega) (by decide)); omega, tlL, if_neg c_2, if_pos c_3, hx])⟩
        · refine g_iconst (v := (-1)) cx dX4_tellTo_25 (by decide) ?_
          refine g_aload_n cx dX4_tellTo_26 0 rfl ?_
          refine g_get (C := RX4) (T := TX4) (N := 5) (v := .int (nI ((itT b T Q mu u).2.1))) cx iwX4_tellTo_X4 0 2 rfl rfl (by decide) lkX4_tellTo_19 rfl dX4_tellTo_27 ?_
          refine g_isub cx dX4_tellTo_30 ?_
          exact g_iret cx gr (Nat.zero_le _) (Nat.zero_le _) dX4_tellTo_31 ⟨_, rfl, tleaf (by rw [hs, show 121 - k = (121 - (k + 1)) + 1 by have := (le_of 120 hx c_1 (by omega) (by decide)); omega, tlL, if_pos c_2])⟩
  exact g_lv [1, 2, 0] rfl (LP11 121 1 1 (tkS b T 0) nu t (by omega) (by omega) (by omega) (skA_le b 32 32 (Nat.zero_le T)) rfl rfl)
