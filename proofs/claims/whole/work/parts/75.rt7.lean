theorem z_l {E : gE} {a : Nat → Nat} {c : Cor} {h : Mar} {b : Nat → Int32} {T Q : Nat} {u : Ter} {y nu : Int32} {t : Ter} {Z : Int32 × Nat × Int32 × Ter} (e : Z = (0, Q, nu, t)) : (Z.1 = 0 ∧ ∃ v' t', (mW E a (u, c.2.1, c.2.2.1, b, nI T, c.2.2.2.2.2.1, c.2.2.2.2.2.2.1, c.2.2.2.2.2.2.2.1, c.2.2.2.2.2.2.2.2) (h.1, h.2.1, nI Q, nI (tkE b T Q), y, 1, h.2.2.2.2.2.2)) = (mW E a (t', c.2.1, c.2.2.1, b, nI T, c.2.2.2.2.2.1, c.2.2.2.2.2.2.1, c.2.2.2.2.2.2.2.1, c.2.2.2.2.2.2.2.2) (h.1, h.2.1, nI Z.2.1, nI (tkE b T Z.2.1), v', 1, h.2.2.2.2.2.2))) ∨ (¬ Z.1 = 0 ∧ ∃ v', (mW E a (u, c.2.1, c.2.2.1, b, nI T, c.2.2.2.2.2.1, c.2.2.2.2.2.2.1, c.2.2.2.2.2.2.2.1, c.2.2.2.2.2.2.2.2) (h.1, h.2.1, nI Q, nI (tkE b T Q), y, 1, h.2.2.2.2.2.2)) = (mW E a (Z.2.2.2, c.2.1, c.2.2.1, b, nI T, c.2.2.2.2.2.1, c.2.2.2.2.2.2.1, c.2.2.2.2.2.2.2.1, c.2.2.2.2.2.2.2.2) (h.1, h.2.1, nI Z.2.1, nI (tkE b T Z.2.1), v', 0, h.2.2.2.2.2.2))) := by
  rw [e]
  exact Or.inl ⟨rfl, y, u, rfl⟩
theorem z_r {E : gE} {a : Nat → Nat} {c : Cor} {h : Mar} {b : Nat → Int32} {T Q : Nat} {u : Ter} {y nu : Int32} {Z : Int32 × Nat × Int32 × Ter} (e : Z = (1, Q, nu, u)) : (Z.1 = 0 ∧ ∃ v' t', (mW E a (u, c.2.1, c.2.2.1, b, nI T, c.2.2.2.2.2.1, c.2.2.2.2.2.2.1, c.2.2.2.2.2.2.2.1, c.2.2.2.2.2.2.2.2) (h.1, h.2.1, nI Q, nI (tkE b T Q), y, 0, h.2.2.2.2.2.2)) = (mW E a (t', c.2.1, c.2.2.1, b, nI T, c.2.2.2.2.2.1, c.2.2.2.2.2.2.1, c.2.2.2.2.2.2.2.1, c.2.2.2.2.2.2.2.2) (h.1, h.2.1, nI Z.2.1, nI (tkE b T Z.2.1), v', 1, h.2.2.2.2.2.2))) ∨ (¬ Z.1 = 0 ∧ ∃ v', (mW E a (u, c.2.1, c.2.2.1, b, nI T, c.2.2.2.2.2.1, c.2.2.2.2.2.2.1, c.2.2.2.2.2.2.2.1, c.2.2.2.2.2.2.2.2) (h.1, h.2.1, nI Q, nI (tkE b T Q), y, 0, h.2.2.2.2.2.2)) = (mW E a (Z.2.2.2, c.2.1, c.2.2.1, b, nI T, c.2.2.2.2.2.1, c.2.2.2.2.2.2.1, c.2.2.2.2.2.2.2.1, c.2.2.2.2.2.2.2.2) (h.1, h.2.1, nI Z.2.1, nI (tkE b T Z.2.1), v', 0, h.2.2.2.2.2.2))) := by
  rw [e]
  exact Or.inr ⟨show ¬ (1 : Int32) = 0 by decide, y, rfl⟩

def mdA (b : Nat → Int32) (T P : Nat) (nu : Int32) (t : Ter) (h : Int32) : Int32 × Nat × Int32 × Ter := if wdB b T P 3 = 0 then (1, P, nu, t) else if (nmN b T P 20 nu).1 = 0 then (0, (nmN b T P 20 nu).2.1, (nmN b T P 20 nu).2.2, t) else (1, (nmN b T P 20 nu).2.1, (nmN b T P 20 nu).2.2, (t.1, t.2.1, t.2.2.1, t.2.2.2.1, t.2.2.2.2.1, t.2.2.2.2.2.1, t.2.2.2.2.2.2.1, t.2.2.2.2.2.2.2.1, upd (tMood t) h.toNatClampNeg (nmN b T P 20 nu).2.2, t.2.2.2.2.2.2.2.2.2.1, t.2.2.2.2.2.2.2.2.2.2))

abbrev rmX6_partItem : Room := { frames := 5, cells := 0, slots := 0, locals := 113 }
theorem hYX6_partItem : gY yX6_partItem wsX6_partItem cX6_partItem 5 (none) 3 := ⟨⟨_, rfl⟩, by decide +kernel, by decide +kernel, by decide +kernel⟩
theorem iwX6_partItem_X6 : ∀ w ∈ u_ws RX6 TX6 16, w ∈ wsX6_partItem := by decide +kernel
theorem lkX6_partItem_7 : Cond.fieldLink RX6 7 "MuffinBellsModel" "s" "[I" ∈ wsX6_partItem := by decide +kernel
theorem lkX6_partItem_201 : Cond.fieldLink RX6 201 "MuffinBellsModel" "isWrong" "Z" ∈ wsX6_partItem := by decide +kernel
theorem lkX6_partItem_212 : Cond.fieldLink RX6 212 "MuffinBellsModel" "value" "I" ∈ wsX6_partItem := by decide +kernel
set_option maxRecDepth 100000 in
set_option maxHeartbeats 4000000 in
theorem c_X6_partItem_2 (l : Launch) (E : gE) (a : Nat → Nat) (c : Cor) (h : Mar) (b : Nat → Int32) (T : Nat) (t : Ter) (P : Nat) (v : Int32) (k0 : Int32) (hT : T ≤ 120) (hP : P ≤ T) (hk : vp_in k0 8) : ctv l yX6_partItem wsX6_partItem rmX6_partItem E [.ref (a 0), .long 16955493, .int (spot k0 2), .int 999] (mW E a (t, c.2.1, c.2.2.1, b, nI T, c.2.2.2.2.2.1, c.2.2.2.2.2.2.1, c.2.2.2.2.2.2.2.1, c.2.2.2.2.2.2.2.2) (h.1, h.2.1, nI P, nI (tkE b T P), v, 0, h.2.2.2.2.2.2)) (fun w => ((pcT b T P v t k0).1 = 0 ∧ ∃ v' t', w = (mW E a (t', c.2.1, c.2.2.1, b, nI T, c.2.2.2.2.2.1, c.2.2.2.2.2.2.1, c.2.2.2.2.2.2.2.1, c.2.2.2.2.2.2.2.2) (h.1, h.2.1, nI ((pcT b T P v t k0).2.1), nI (tkE b T ((pcT b T P v t k0).2.1)), v', 1, h.2.2.2.2.2.2))) ∨ (¬ (pcT b T P v t k0).1 = 0 ∧ ∃ v', w = (mW E a (((pcT b T P v t k0).2.2.2), c.2.1, c.2.2.1, b, nI T, c.2.2.2.2.2.1, c.2.2.2.2.2.2.1, c.2.2.2.2.2.2.2.1, c.2.2.2.2.2.2.2.2) (h.1, h.2.1, nI ((pcT b T P v t k0).2.1), nI (tkE b T ((pcT b T P v t k0).2.1)), v', 0, h.2.2.2.2.2.2)))) := by
  refine mt_v (cc := cX6_partItem) (maxL := 5) (ret := none) (lv0 := [(0, .ref (a 0)), (1, .long 16955493), (3, .int (spot k0 2)), (4, .int 999)]) (by decide) rfl rfl (Nat.le_of_ble_eq_true rfl) (fun X cx gr hI => ?_)
  refine g_aload_n cx dX6_partItem_0 0 rfl ?_
  refine g_VSl (rest := []) (As := []) cx hYX6_word gX6_partItem_X6_word (c_X6_word_0 l E a c h b T t P v hT hP) rfl rfl rfl ⟨Nat.le_of_ble_eq_true rfl, Nat.le_of_ble_eq_true rfl⟩ rfl rfl (Nat.le_of_ble_eq_true rfl) ⟨Nat.le_of_ble_eq_true rfl, Nat.le_of_ble_eq_true rfl⟩ dX6_partItem_1 (fun r w1 hp => ?_)
  obtain ⟨rfl, rfl⟩ := hp
  refine g_lload_n cx dX6_partItem_4 1 rfl ?_
  refine g_lc_ne (tgt := 47) cx dX6_partItem_5 dX6_partItem_6 (by decide) (fun c_1 => ?_) (fun c_1 => ?_)
  · exact g_vret cx gr (Nat.zero_le _) (Nat.zero_le _) dX6_partItem_47 (z_r (by rw [pcT, if_pos (Decidable.of_not_not (fun q => c_1 ((wh_iff (i := 4) hT hP (by decide)).mpr q)))]))
  · refine g_aload_n cx dX6_partItem_9 0 rfl ?_
    refine g_iconst (v := 1) cx dX6_partItem_10 (by decide) ?_
    refine g_VSv (rest := []) (As := [.int 1]) cx hYX6_must gX6_partItem_X6_must (c_X6_must_1 l E a c h b T t P v hT hP) rfl rfl rfl ⟨Nat.le_of_ble_eq_true rfl, Nat.le_of_ble_eq_true rfl⟩ rfl rfl (Nat.le_of_ble_eq_true rfl) ⟨Nat.le_of_ble_eq_true rfl, Nat.le_of_ble_eq_true rfl⟩ dX6_partItem_11 (fun w1 hp => ?_)
    obtain rfl := hp
    refine g_aload_n cx dX6_partItem_14 0 rfl ?_
    refine g_iconst (v := 0) cx dX6_partItem_15 (by decide) ?_
    refine g_iload cx dX6_partItem_16 3 rfl ?_
    refine g_VSv (rest := []) (As := [.int 0, .int 999]) cx hYX6_number gX6_partItem_X6_number (c_X6_number l E a c h b T t P v v 999 hT hP (by decide)) rfl rfl rfl ⟨Nat.le_of_ble_eq_true rfl, Nat.le_of_ble_eq_true rfl⟩ rfl rfl (Nat.le_of_ble_eq_true rfl) ⟨Nat.le_of_ble_eq_true rfl, Nat.le_of_ble_eq_true rfl⟩ dX6_partItem_18 (fun w1 hp => ?_)
    rcases hp with ⟨hn_2, v_3, rfl⟩ | ⟨hn_2, rfl⟩
    · replace hn_2 : (nmN b T P 999 v).1 = 0 := hn_2
      refine g_w (show _ = (mW E a (t, c.2.1, c.2.2.1, b, nI T, c.2.2.2.2.2.1, c.2.2.2.2.2.2.1, c.2.2.2.2.2.2.2.1, c.2.2.2.2.2.2.2.2) (h.1, h.2.1, nI (nmN b T P 999 v).2.1, nI (tkE b T (nmN b T P 999 v).2.1), v_3, 1, h.2.2.2.2.2.2)) from rfl) ?_
      refine g_aload_n cx dX6_partItem_21 0 rfl ?_
      refine g_get (C := RX6) (T := TX6) (N := 16) (v := .ref (a 1)) cx iwX6_partItem_X6 0 0 rfl rfl (by decide) lkX6_partItem_7 rfl dX6_partItem_22 ?_
      refine g_iload_n cx dX6_partItem_25 2 rfl ?_
      refine g_aload_n cx dX6_partItem_26 0 rfl ?_
      refine g_get (C := RX6) (T := TX6) (N := 16) (v := .int 1) cx iwX6_partItem_X6 0 11 rfl rfl (by decide) lkX6_partItem_201 rfl dX6_partItem_27 ?_
      refine g_if_eq (tgt := 42) cx dX6_partItem_30 (by decide) (fun c_5 => absurd c_5 (by decide)) (fun c_5 => ?_)
      refine g_aload_n cx dX6_partItem_33 0 rfl ?_
      refine g_get (C := RX6) (T := TX6) (N := 16) (v := .ref (a 1)) cx iwX6_partItem_X6 0 0 rfl rfl (by decide) lkX6_partItem_7 rfl dX6_partItem_34 ?_
      refine g_iload_n cx dX6_partItem_37 2 rfl ?_
      refine g_iald cx 1 rfl rfl (si_P hk) dX6_partItem_38 ?_
      refine g_top (y := t.2.2.2.2.2.2.2.2.2.1 k0.toNatClampNeg) (sp_P hk t) ?_
      refine g_goto (tgt := 46) cx dX6_partItem_39 (by decide) ?_
      refine g_iast (ws' := (mW E a ((t.1, t.2.1, t.2.2.1, t.2.2.2.1, t.2.2.2.2.1, t.2.2.2.2.2.1, t.2.2.2.2.2.2.1, t.2.2.2.2.2.2.2.1, t.2.2.2.2.2.2.2.2.1, upd t.2.2.2.2.2.2.2.2.2.1 k0.toNatClampNeg (t.2.2.2.2.2.2.2.2.2.1 k0.toNatClampNeg), t.2.2.2.2.2.2.2.2.2.2), c.2.1, c.2.2.1, b, nI T, c.2.2.2.2.2.1, c.2.2.2.2.2.2.1, c.2.2.2.2.2.2.2.1, c.2.2.2.2.2.2.2.2) (h.1, h.2.1, nI (nmN b T P 999 v).2.1, nI (tkE b T (nmN b T P 999 v).2.1), v_3, 1, h.2.2.2.2.2.2))) cx 1 rfl rfl (si_P hk) dX6_partItem_46 (congrArg (fun f => List.set (mW E a (t, c.2.1, c.2.2.1, b, nI T, c.2.2.2.2.2.1, c.2.2.2.2.2.2.1, c.2.2.2.2.2.2.2.1, c.2.2.2.2.2.2.2.2) (h.1, h.2.1, nI (nmN b T P 999 v).2.1, nI (tkE b T (nmN b T P 999 v).2.1), v_3, 1, h.2.2.2.2.2.2)) 1 (a 1, .inl (gI E, 39, .inl f))) (su_P hk t (t.2.2.2.2.2.2.2.2.2.1 k0.toNatClampNeg))) ?_
      exact g_vret cx gr (Nat.zero_le _) (Nat.zero_le _) dX6_partItem_47 (z_l (by rw [pcT, if_neg ((wh_iff (i := 4) hT hP (by decide)).mp c_1), if_pos hn_2]))
    · replace hn_2 : ¬ (nmN b T P 999 v).1 = 0 := hn_2
      refine g_w (show _ = (mW E a (t, c.2.1, c.2.2.1, b, nI T, c.2.2.2.2.2.1, c.2.2.2.2.2.2.1, c.2.2.2.2.2.2.2.1, c.2.2.2.2.2.2.2.2) (h.1, h.2.1, nI (nmN b T P 999 v).2.1, nI (tkE b T (nmN b T P 999 v).2.1), (nmN b T P 999 v).2.2, 0, h.2.2.2.2.2.2)) from rfl) ?_
      refine g_aload_n cx dX6_partItem_21 0 rfl ?_
      refine g_get (C := RX6) (T := TX6) (N := 16) (v := .ref (a 1)) cx iwX6_partItem_X6 0 0 rfl rfl (by decide) lkX6_partItem_7 rfl dX6_partItem_22 ?_
      refine g_iload_n cx dX6_partItem_25 2 rfl ?_
      refine g_aload_n cx dX6_partItem_26 0 rfl ?_
      refine g_get (C := RX6) (T := TX6) (N := 16) (v := .int 0) cx iwX6_partItem_X6 0 11 rfl rfl (by decide) lkX6_partItem_201 rfl dX6_partItem_27 ?_
      refine g_if_eq (tgt := 42) cx dX6_partItem_30 (by decide) (fun c_6 => ?_) (fun c_6 => absurd (rfl) c_6)
      refine g_aload_n cx dX6_partItem_42 0 rfl ?_
      refine g_get (C := RX6) (T := TX6) (N := 16) (v := .int ((nmN b T P 999 v).2.2)) cx iwX6_partItem_X6 0 10 rfl rfl (by decide) lkX6_partItem_212 rfl dX6_partItem_43 ?_
      refine g_iast (ws' := (mW E a ((t.1, t.2.1, t.2.2.1, t.2.2.2.1, t.2.2.2.2.1, t.2.2.2.2.2.1, t.2.2.2.2.2.2.1, t.2.2.2.2.2.2.2.1, t.2.2.2.2.2.2.2.2.1, upd t.2.2.2.2.2.2.2.2.2.1 k0.toNatClampNeg ((nmN b T P 999 v).2.2), t.2.2.2.2.2.2.2.2.2.2), c.2.1, c.2.2.1, b, nI T, c.2.2.2.2.2.1, c.2.2.2.2.2.2.1, c.2.2.2.2.2.2.2.1, c.2.2.2.2.2.2.2.2) (h.1, h.2.1, nI (nmN b T P 999 v).2.1, nI (tkE b T (nmN b T P 999 v).2.1), (nmN b T P 999 v).2.2, 0, h.2.2.2.2.2.2))) cx 1 rfl rfl (si_P hk) dX6_partItem_46 (congrArg (fun f => List.set (mW E a (t, c.2.1, c.2.2.1, b, nI T, c.2.2.2.2.2.1, c.2.2.2.2.2.2.1, c.2.2.2.2.2.2.2.1, c.2.2.2.2.2.2.2.2) (h.1, h.2.1, nI (nmN b T P 999 v).2.1, nI (tkE b T (nmN b T P 999 v).2.1), (nmN b T P 999 v).2.2, 0, h.2.2.2.2.2.2)) 1 (a 1, .inl (gI E, 39, .inl f))) (su_P hk t ((nmN b T P 999 v).2.2))) ?_
      exact g_vret cx gr (Nat.zero_le _) (Nat.zero_le _) dX6_partItem_47 (z_r (by rw [pcT, if_neg ((wh_iff (i := 4) hT hP (by decide)).mp c_1), if_neg hn_2]))

set_option maxRecDepth 100000 in
set_option maxHeartbeats 4000000 in
theorem c_X6_partItem_1 (l : Launch) (E : gE) (a : Nat → Nat) (c : Cor) (h : Mar) (b : Nat → Int32) (T : Nat) (t : Ter) (P : Nat) (v : Int32) (k0 : Int32) (hT : T ≤ 120) (hP : P ≤ T) (hk : vp_in k0 8) : ctv l yX6_partItem wsX6_partItem rmX6_partItem E [.ref (a 0), .long 441828, .int (spot k0 1), .int 20] (mW E a (t, c.2.1, c.2.2.1, b, nI T, c.2.2.2.2.2.1, c.2.2.2.2.2.2.1, c.2.2.2.2.2.2.2.1, c.2.2.2.2.2.2.2.2) (h.1, h.2.1, nI P, nI (tkE b T P), v, 0, h.2.2.2.2.2.2)) (fun w => ((mdA b T P v t k0).1 = 0 ∧ ∃ v' t', w = (mW E a (t', c.2.1, c.2.2.1, b, nI T, c.2.2.2.2.2.1, c.2.2.2.2.2.2.1, c.2.2.2.2.2.2.2.1, c.2.2.2.2.2.2.2.2) (h.1, h.2.1, nI ((mdA b T P v t k0).2.1), nI (tkE b T ((mdA b T P v t k0).2.1)), v', 1, h.2.2.2.2.2.2))) ∨ (¬ (mdA b T P v t k0).1 = 0 ∧ ∃ v', w = (mW E a (((mdA b T P v t k0).2.2.2), c.2.1, c.2.2.1, b, nI T, c.2.2.2.2.2.1, c.2.2.2.2.2.2.1, c.2.2.2.2.2.2.2.1, c.2.2.2.2.2.2.2.2) (h.1, h.2.1, nI ((mdA b T P v t k0).2.1), nI (tkE b T ((mdA b T P v t k0).2.1)), v', 0, h.2.2.2.2.2.2)))) := by
  refine mt_v (cc := cX6_partItem) (maxL := 5) (ret := none) (lv0 := [(0, .ref (a 0)), (1, .long 441828), (3, .int (spot k0 1)), (4, .int 20)]) (by decide) rfl rfl (Nat.le_of_ble_eq_true rfl) (fun X cx gr hI => ?_)
  refine g_aload_n cx dX6_partItem_0 0 rfl ?_
  refine g_VSl (rest := []) (As := []) cx hYX6_word gX6_partItem_X6_word (c_X6_word_0 l E a c h b T t P v hT hP) rfl rfl rfl ⟨Nat.le_of_ble_eq_true rfl, Nat.le_of_ble_eq_true rfl⟩ rfl rfl (Nat.le_of_ble_eq_true rfl) ⟨Nat.le_of_ble_eq_true rfl, Nat.le_of_ble_eq_true rfl⟩ dX6_partItem_1 (fun r w1 hp => ?_)
  obtain ⟨rfl, rfl⟩ := hp
  refine g_lload_n cx dX6_partItem_4 1 rfl ?_
  refine g_lc_ne (tgt := 47) cx dX6_partItem_5 dX6_partItem_6 (by decide) (fun c_1 => ?_) (fun c_1 => ?_)
  · exact g_vret cx gr (Nat.zero_le _) (Nat.zero_le _) dX6_partItem_47 (z_r (by rw [mdA, if_pos (Decidable.of_not_not (fun q => c_1 ((wh_iff (i := 3) hT hP (by decide)).mpr q)))]))
  · refine g_aload_n cx dX6_partItem_9 0 rfl ?_
    refine g_iconst (v := 1) cx dX6_partItem_10 (by decide) ?_
    refine g_VSv (rest := []) (As := [.int 1]) cx hYX6_must gX6_partItem_X6_must (c_X6_must_1 l E a c h b T t P v hT hP) rfl rfl rfl ⟨Nat.le_of_ble_eq_true rfl, Nat.le_of_ble_eq_true rfl⟩ rfl rfl (Nat.le_of_ble_eq_true rfl) ⟨Nat.le_of_ble_eq_true rfl, Nat.le_of_ble_eq_true rfl⟩ dX6_partItem_11 (fun w1 hp => ?_)
    obtain rfl := hp
    refine g_aload_n cx dX6_partItem_14 0 rfl ?_
    refine g_iconst (v := 0) cx dX6_partItem_15 (by decide) ?_
    refine g_iload cx dX6_partItem_16 3 rfl ?_
    refine g_VSv (rest := []) (As := [.int 0, .int 20]) cx hYX6_number gX6_partItem_X6_number (c_X6_number l E a c h b T t P v v 20 hT hP (by decide)) rfl rfl rfl ⟨Nat.le_of_ble_eq_true rfl, Nat.le_of_ble_eq_true rfl⟩ rfl rfl (Nat.le_of_ble_eq_true rfl) ⟨Nat.le_of_ble_eq_true rfl, Nat.le_of_ble_eq_true rfl⟩ dX6_partItem_18 (fun w1 hp => ?_)
    rcases hp with ⟨hn_2, v_3, rfl⟩ | ⟨hn_2, rfl⟩
    · replace hn_2 : (nmN b T P 20 v).1 = 0 := hn_2
      refine g_w (show _ = (mW E a (t, c.2.1, c.2.2.1, b, nI T, c.2.2.2.2.2.1, c.2.2.2.2.2.2.1, c.2.2.2.2.2.2.2.1, c.2.2.2.2.2.2.2.2) (h.1, h.2.1, nI (nmN b T P 20 v).2.1, nI (tkE b T (nmN b T P 20 v).2.1), v_3, 1, h.2.2.2.2.2.2)) from rfl) ?_
      refine g_aload_n cx dX6_partItem_21 0 rfl ?_
      refine g_get (C := RX6) (T := TX6) (N := 16) (v := .ref (a 1)) cx iwX6_partItem_X6 0 0 rfl rfl (by decide) lkX6_partItem_7 rfl dX6_partItem_22 ?_
      refine g_iload_n cx dX6_partItem_25 2 rfl ?_
      refine g_aload_n cx dX6_partItem_26 0 rfl ?_
      refine g_get (C := RX6) (T := TX6) (N := 16) (v := .int 1) cx iwX6_partItem_X6 0 11 rfl rfl (by decide) lkX6_partItem_201 rfl dX6_partItem_27 ?_
      refine g_if_eq (tgt := 42) cx dX6_partItem_30 (by decide) (fun c_5 => absurd c_5 (by decide)) (fun c_5 => ?_)
      refine g_aload_n cx dX6_partItem_33 0 rfl ?_
      refine g_get (C := RX6) (T := TX6) (N := 16) (v := .ref (a 1)) cx iwX6_partItem_X6 0 0 rfl rfl (by decide) lkX6_partItem_7 rfl dX6_partItem_34 ?_
      refine g_iload_n cx dX6_partItem_37 2 rfl ?_
      refine g_iald cx 1 rfl rfl (si_M hk) dX6_partItem_38 ?_
      refine g_top (y := t.2.2.2.2.2.2.2.2.1 k0.toNatClampNeg) (sp_M hk t) ?_
      refine g_goto (tgt := 46) cx dX6_partItem_39 (by decide) ?_
      refine g_iast (ws' := (mW E a ((t.1, t.2.1, t.2.2.1, t.2.2.2.1, t.2.2.2.2.1, t.2.2.2.2.2.1, t.2.2.2.2.2.2.1, t.2.2.2.2.2.2.2.1, upd t.2.2.2.2.2.2.2.2.1 k0.toNatClampNeg (t.2.2.2.2.2.2.2.2.1 k0.toNatClampNeg), t.2.2.2.2.2.2.2.2.2.1, t.2.2.2.2.2.2.2.2.2.2), c.2.1, c.2.2.1, b, nI T, c.2.2.2.2.2.1, c.2.2.2.2.2.2.1, c.2.2.2.2.2.2.2.1, c.2.2.2.2.2.2.2.2) (h.1, h.2.1, nI (nmN b T P 20 v).2.1, nI (tkE b T (nmN b T P 20 v).2.1), v_3, 1, h.2.2.2.2.2.2))) cx 1 rfl rfl (si_M hk) dX6_partItem_46 (congrArg (fun f => List.set (mW E a (t, c.2.1, c.2.2.1, b, nI T, c.2.2.2.2.2.1, c.2.2.2.2.2.2.1, c.2.2.2.2.2.2.2.1, c.2.2.2.2.2.2.2.2) (h.1, h.2.1, nI (nmN b T P 20 v).2.1, nI (tkE b T (nmN b T P 20 v).2.1), v_3, 1, h.2.2.2.2.2.2)) 1 (a 1, .inl (gI E, 39, .inl f))) (su_M hk t (t.2.2.2.2.2.2.2.2.1 k0.toNatClampNeg))) ?_
      exact g_vret cx gr (Nat.zero_le _) (Nat.zero_le _) dX6_partItem_47 (z_l (by rw [mdA, if_neg ((wh_iff (i := 3) hT hP (by decide)).mp c_1), if_pos hn_2]))
    · replace hn_2 : ¬ (nmN b T P 20 v).1 = 0 := hn_2
      refine g_w (show _ = (mW E a (t, c.2.1, c.2.2.1, b, nI T, c.2.2.2.2.2.1, c.2.2.2.2.2.2.1, c.2.2.2.2.2.2.2.1, c.2.2.2.2.2.2.2.2) (h.1, h.2.1, nI (nmN b T P 20 v).2.1, nI (tkE b T (nmN b T P 20 v).2.1), (nmN b T P 20 v).2.2, 0, h.2.2.2.2.2.2)) from rfl) ?_
      refine g_aload_n cx dX6_partItem_21 0 rfl ?_
      refine g_get (C := RX6) (T := TX6) (N := 16) (v := .ref (a 1)) cx iwX6_partItem_X6 0 0 rfl rfl (by decide) lkX6_partItem_7 rfl dX6_partItem_22 ?_
      refine g_iload_n cx dX6_partItem_25 2 rfl ?_
      refine g_aload_n cx dX6_partItem_26 0 rfl ?_
      refine g_get (C := RX6) (T := TX6) (N := 16) (v := .int 0) cx iwX6_partItem_X6 0 11 rfl rfl (by decide) lkX6_partItem_201 rfl dX6_partItem_27 ?_
      refine g_if_eq (tgt := 42) cx dX6_partItem_30 (by decide) (fun c_6 => ?_) (fun c_6 => absurd (rfl) c_6)
      refine g_aload_n cx dX6_partItem_42 0 rfl ?_
      refine g_get (C := RX6) (T := TX6) (N := 16) (v := .int ((nmN b T P 20 v).2.2)) cx iwX6_partItem_X6 0 10 rfl rfl (by decide) lkX6_partItem_212 rfl dX6_partItem_43 ?_
      refine g_iast (ws' := (mW E a ((t.1, t.2.1, t.2.2.1, t.2.2.2.1, t.2.2.2.2.1, t.2.2.2.2.2.1, t.2.2.2.2.2.2.1, t.2.2.2.2.2.2.2.1, upd t.2.2.2.2.2.2.2.2.1 k0.toNatClampNeg ((nmN b T P 20 v).2.2), t.2.2.2.2.2.2.2.2.2.1, t.2.2.2.2.2.2.2.2.2.2), c.2.1, c.2.2.1, b, nI T, c.2.2.2.2.2.1, c.2.2.2.2.2.2.1, c.2.2.2.2.2.2.2.1, c.2.2.2.2.2.2.2.2) (h.1, h.2.1, nI (nmN b T P 20 v).2.1, nI (tkE b T (nmN b T P 20 v).2.1), (nmN b T P 20 v).2.2, 0, h.2.2.2.2.2.2))) cx 1 rfl rfl (si_M hk) dX6_partItem_46 (congrArg (fun f => List.set (mW E a (t, c.2.1, c.2.2.1, b, nI T, c.2.2.2.2.2.1, c.2.2.2.2.2.2.1, c.2.2.2.2.2.2.2.1, c.2.2.2.2.2.2.2.2) (h.1, h.2.1, nI (nmN b T P 20 v).2.1, nI (tkE b T (nmN b T P 20 v).2.1), (nmN b T P 20 v).2.2, 0, h.2.2.2.2.2.2)) 1 (a 1, .inl (gI E, 39, .inl f))) (su_M hk t ((nmN b T P 20 v).2.2))) ?_
      exact g_vret cx gr (Nat.zero_le _) (Nat.zero_le _) dX6_partItem_47 (z_r (by rw [mdA, if_neg ((wh_iff (i := 3) hT hP (by decide)).mp c_1), if_neg hn_2]))

set_option maxRecDepth 100000 in
set_option maxHeartbeats 4000000 in
theorem c_X6_partItem_0 (l : Launch) (E : gE) (a : Nat → Nat) (c : Cor) (h : Mar) (b : Nat → Int32) (T : Nat) (t : Ter) (P : Nat) (v : Int32) (k0 : Int32) (hT : T ≤ 120) (hP : P ≤ T) : ctv l yX6_partItem wsX6_partItem rmX6_partItem E [.ref (a 0), .long 16955493, .int (spot k0 2), .int 999] (mW E a (t, c.2.1, c.2.2.1, b, nI T, c.2.2.2.2.2.1, c.2.2.2.2.2.2.1, c.2.2.2.2.2.2.2.1, c.2.2.2.2.2.2.2.2) (h.1, h.2.1, nI P, nI (tkE b T P), v, 1, h.2.2.2.2.2.2)) (fun w => w = (mW E a (t, c.2.1, c.2.2.1, b, nI T, c.2.2.2.2.2.1, c.2.2.2.2.2.2.1, c.2.2.2.2.2.2.2.1, c.2.2.2.2.2.2.2.2) (h.1, h.2.1, nI P, nI (tkE b T P), v, 1, h.2.2.2.2.2.2))) := by
  refine mt_v (cc := cX6_partItem) (maxL := 5) (ret := none) (lv0 := [(0, .ref (a 0)), (1, .long 16955493), (3, .int (spot k0 2)), (4, .int 999)]) (by decide) rfl rfl (Nat.le_of_ble_eq_true rfl) (fun X cx gr hI => ?_)
  refine g_aload_n cx dX6_partItem_0 0 rfl ?_
  refine g_VSl (rest := []) (As := []) cx hYX6_word gX6_partItem_X6_word (c_X6_word_1 l E a c h b T t P v hT hP) rfl rfl rfl ⟨Nat.le_of_ble_eq_true rfl, Nat.le_of_ble_eq_true rfl⟩ rfl rfl (Nat.le_of_ble_eq_true rfl) ⟨Nat.le_of_ble_eq_true rfl, Nat.le_of_ble_eq_true rfl⟩ dX6_partItem_1 (fun r w1 hp => ?_)
  obtain ⟨rfl, rfl⟩ := hp
  refine g_lload_n cx dX6_partItem_4 1 rfl ?_
  refine g_lc_ne (tgt := 47) cx dX6_partItem_5 dX6_partItem_6 (by decide) (fun c_1 => ?_) (fun c_1 => absurd c_1 (by decide))
  exact g_vret cx gr (Nat.zero_le _) (Nat.zero_le _) dX6_partItem_47 (rfl)
