def nmI (k : Int32) : Nat := if k = 1 then 6 else if k = 2 then 7 else if k = 3 then 8 else if k = 4 then 9 else if k = 5 then 10 else 11
theorem nmI_lt (k : Int32) : nmI k < 12 := by
  unfold nmI
  repeat (first | (split; decide) | decide)

abbrev rmX4_nameOf : Room := { frames := 0, cells := 0, slots := 0, locals := 0 }
theorem hYX4_nameOf : gY yX4_nameOf wsX4_nameOf cX4_nameOf 1 (some (.object "java/lang/String")) 1 := ⟨⟨_, rfl⟩, by decide +kernel, by decide +kernel, by decide +kernel⟩
set_option maxRecDepth 100000 in
set_option maxHeartbeats 4000000 in
theorem c_X4_nameOf (l : Launch) (E : gE) (k0 : Int32) : ctn l yX4_nameOf wsX4_nameOf rmX4_nameOf E [.int k0] (nmI k0) := by
  refine mt_n (cc := cX4_nameOf) (maxL := 1) (ret := some (.object "java/lang/String")) (lv0 := [(0, .int k0)]) (by decide) rfl rfl (Nat.le_of_ble_eq_true rfl) (fun X cx gr => ?_)
  refine g_iload_n cx dX4_nameOf_0 0 rfl ?_
  refine g_tsw cx dX4_nameOf_1 51 (by decide) (fun j hj cs_1 => ?_) (fun cs_1 => ?_)
  · rcases j with _ | _ | _ | _ | _ | j
    · refine ⟨_, 36, rfl, by decide, ?_⟩
      have cs_1 : k0 = 1 := Int32.toInt_inj.mp (cs_1.trans (by decide))
      refine g_ldcS (i := 6) cx rfl (by decide) rfl dX4_nameOf_36 ?_
      have e9 : nmI k0 = 6 := by simp [nmI, cs_1]
      rw [e9] at gr
      exact g_aretN cx gr (Nat.zero_le _) (Nat.zero_le _) dX4_nameOf_38
    · refine ⟨_, 39, rfl, by decide, ?_⟩
      have cs_1 : k0 = 2 := Int32.toInt_inj.mp (cs_1.trans (by decide))
      refine g_ldcS (i := 7) cx rfl (by decide) rfl dX4_nameOf_39 ?_
      have e9 : nmI k0 = 7 := by simp [nmI, cs_1]
      rw [e9] at gr
      exact g_aretN cx gr (Nat.zero_le _) (Nat.zero_le _) dX4_nameOf_41
    · refine ⟨_, 42, rfl, by decide, ?_⟩
      have cs_1 : k0 = 3 := Int32.toInt_inj.mp (cs_1.trans (by decide))
      refine g_ldcS (i := 8) cx rfl (by decide) rfl dX4_nameOf_42 ?_
      have e9 : nmI k0 = 8 := by simp [nmI, cs_1]
      rw [e9] at gr
      exact g_aretN cx gr (Nat.zero_le _) (Nat.zero_le _) dX4_nameOf_44
    · refine ⟨_, 45, rfl, by decide, ?_⟩
      have cs_1 : k0 = 4 := Int32.toInt_inj.mp (cs_1.trans (by decide))
      refine g_ldcS (i := 9) cx rfl (by decide) rfl dX4_nameOf_45 ?_
      have e9 : nmI k0 = 9 := by simp [nmI, cs_1]
      rw [e9] at gr
      exact g_aretN cx gr (Nat.zero_le _) (Nat.zero_le _) dX4_nameOf_47
    · refine ⟨_, 48, rfl, by decide, ?_⟩
      have cs_1 : k0 = 5 := Int32.toInt_inj.mp (cs_1.trans (by decide))
      refine g_ldcS (i := 10) cx rfl (by decide) rfl dX4_nameOf_48 ?_
      have e9 : nmI k0 = 10 := by simp [nmI, cs_1]
      rw [e9] at gr
      exact g_aretN cx gr (Nat.zero_le _) (Nat.zero_le _) dX4_nameOf_50
    · exact absurd hj (by omega)
  · have hsx := cs_1
    have cs_1_0 : ¬ k0 = 1 := sw_ne cs_1 (by decide)
    have cs_1_1 : ¬ k0 = 2 := sw_ne cs_1 (by decide)
    have cs_1_2 : ¬ k0 = 3 := sw_ne cs_1 (by decide)
    have cs_1_3 : ¬ k0 = 4 := sw_ne cs_1 (by decide)
    have cs_1_4 : ¬ k0 = 5 := sw_ne cs_1 (by decide)
    refine g_ldcS (i := 11) cx rfl (by decide) rfl dX4_nameOf_51 ?_
    have e9 : nmI k0 = 11 := by simp [nmI, cs_1_0, cs_1_1, cs_1_2, cs_1_3, cs_1_4]
    rw [e9] at gr
    exact g_aretN cx gr (Nat.zero_le _) (Nat.zero_le _) dX4_nameOf_53

def knF (b : Nat → Int32) (T P : Nat) : Nat → Nat → Int32
  | 0, _ => -1
  | n + 1, k => if wdB b T P (nmI (nI k)) = 0 then knF b T P n (k + 1) else nI k

abbrev rmX4_kindNamed : Room := { frames := 5, cells := 0, slots := 0, locals := 107 }
theorem hYX4_kindNamed : gY yX4_kindNamed wsX4_kindNamed cX4_kindNamed 2 (some .int) 0 := ⟨⟨_, rfl⟩, by decide +kernel, by decide +kernel, by decide +kernel⟩
set_option maxRecDepth 100000 in
set_option maxHeartbeats 4000000 in
theorem c_X4_kindNamed (l : Launch) (E : gE) (a : Nat → Nat) (b : Nat → Int32) (T : Nat) (P : Nat) (nu : Int32) (t : Ter) (hT : T ≤ 120) (hP : P ≤ T) : cti l yX4_kindNamed wsX4_kindNamed rmX4_kindNamed E [.ref (a 0)] (xtW E a (b, nI T, srt b T P, nI P, nI (tkE b T P), nu) t) (fun r w => r = knF b T P 6 0 ∧ w = lxW E a b T P nu t) := by
  refine mt_i (cc := cX4_kindNamed) (maxL := 2) (ret := some .int) (lv0 := [(0, .ref (a 0))]) (by decide) rfl rfl (Nat.le_of_ble_eq_true rfl) (fun X cx gr hI => ?_)
  refine g_iconst (v := 0) cx dX4_kindNamed_0 (by decide) ?_
  refine g_istore_n (lv' := [(1, .int 0), (0, .ref (a 0))]) cx dX4_kindNamed_1 (by decide) rfl ?_
  have LP2 : ∀ (d : Nat) (i : Nat) (x : Int32), i + d = 7 → i ≤ 6 → x = nI i → knF b T P 6 0 = knF b T P (6 - i) i → gG X 0 0 (xtW E a (b, nI T, srt b T P, nI P, nI (tkE b T P), nu) t) 2 [(0, .ref (a 0)), (1, .int x)] [] := by
    intro d
    induction d with
    | zero =>
      intro i x hi9 hi6 hx hs
      omega
    | succ d ih =>
      intro i x hi9 hi6 hx hs
      refine g_iload_n cx dX4_kindNamed_2 1 rfl ?_
      refine g_bipush (v := 6) cx dX4_kindNamed_3 (by decide) ?_
      refine g_icmp_ge (tgt := 27) cx dX4_kindNamed_5 (by decide) (fun c_1 => ?_) (fun c_1 => ?_)
      · refine g_iconst (v := (-1)) cx dX4_kindNamed_27 (by decide) ?_
        exact g_iret cx gr (Nat.zero_le _) (Nat.zero_le _) dX4_kindNamed_28 ⟨by rw [hs, show 6 - i = 0 by have := ge_of 6 hx c_1 (by omega) (by decide); omega]; rfl, rfl⟩
      · refine g_aload_n cx dX4_kindNamed_8 0 rfl ?_
        refine g_iload_n cx dX4_kindNamed_9 1 rfl ?_
        refine g_SN (v := nmI x) (rest := [.ref (a 0)]) (As := [.int x]) cx hYX4_nameOf gX4_kindNamed_X4_nameOf (c_X4_nameOf l E x) ⟨Nat.le_of_ble_eq_true rfl, Nat.le_of_ble_eq_true rfl⟩ rfl rfl (Nat.le_of_ble_eq_true rfl) ⟨Nat.le_of_ble_eq_true rfl, Nat.le_of_ble_eq_true rfl⟩ dX4_kindNamed_10 ?_
        refine g_VSi (rest := []) (As := [.ref (E.2.2.1 (nmI x))]) cx hYX4_isWord gX4_kindNamed_X4_isWord (c_X4_isWord l E a b T P nu t (nmI x) hT hP (nmI_lt _)) rfl rfl rfl ⟨Nat.le_of_ble_eq_true rfl, Nat.le_of_ble_eq_true rfl⟩ rfl rfl (Nat.le_of_ble_eq_true rfl) ⟨Nat.le_of_ble_eq_true rfl, Nat.le_of_ble_eq_true rfl⟩ dX4_kindNamed_13 (fun r w1 hp => ?_)
        obtain ⟨rfl, rfl⟩ := hp
        refine g_if_eq (tgt := 21) cx dX4_kindNamed_16 (by decide) (fun c_2 => ?_) (fun c_2 => ?_)
        · refine g_iinc (v := x + 1) (lv' := [(1, .int (x + 1)), (0, .ref (a 0))]) cx dX4_kindNamed_21 1 rfl rfl (by decide) rfl ?_
          refine g_goto (tgt := 2) cx dX4_kindNamed_24 (by decide) ?_
          exact g_lv [1, 0] rfl (ih (i + 1) (x + 1) (by omega) (by have := (lt_of 6 hx c_1 (by omega) (by decide)); omega) (by rw [hx]; exact nI_1 i) (by rw [hs, show 6 - i = (6 - (i + 1)) + 1 by have := (lt_of 6 hx c_1 (by omega) (by decide)); omega, knF, if_pos (by rw [← hx]; exact c_2)]))
        · refine g_iload_n cx dX4_kindNamed_19 1 rfl ?_
          exact g_iret cx gr (Nat.zero_le _) (Nat.zero_le _) dX4_kindNamed_20 ⟨by rw [hs, show 6 - i = (6 - (i + 1)) + 1 by have := lt_of 6 hx c_1 (by omega) (by decide); omega, knF, if_neg (by rw [← hx]; exact c_2), hx], rfl⟩
  exact g_lv [1, 0] rfl (LP2 7 0 0 (by omega) (by omega) rfl rfl)
