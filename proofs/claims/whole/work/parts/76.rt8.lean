theorem z_ag {E : gE} {a : Nat → Nat} {c : Cor} {h : Mar} {b : Nat → Int32} {T : Nat} {Z Z' : Int32 × Nat × Int32 × Ter} {w : va_W} (e : ag Z Z') (q : (Z'.1 = 0 ∧ ∃ v' t', w = (mW E a (t', c.2.1, c.2.2.1, b, nI T, c.2.2.2.2.2.1, c.2.2.2.2.2.2.1, c.2.2.2.2.2.2.2.1, c.2.2.2.2.2.2.2.2) (h.1, h.2.1, nI Z'.2.1, nI (tkE b T Z'.2.1), v', 1, h.2.2.2.2.2.2))) ∨ (¬ Z'.1 = 0 ∧ ∃ v', w = (mW E a (Z'.2.2.2, c.2.1, c.2.2.1, b, nI T, c.2.2.2.2.2.1, c.2.2.2.2.2.2.1, c.2.2.2.2.2.2.2.1, c.2.2.2.2.2.2.2.2) (h.1, h.2.1, nI Z'.2.1, nI (tkE b T Z'.2.1), v', 0, h.2.2.2.2.2.2)))) : (Z.1 = 0 ∧ ∃ v' t', w = (mW E a (t', c.2.1, c.2.2.1, b, nI T, c.2.2.2.2.2.1, c.2.2.2.2.2.2.1, c.2.2.2.2.2.2.2.1, c.2.2.2.2.2.2.2.2) (h.1, h.2.1, nI Z.2.1, nI (tkE b T Z.2.1), v', 1, h.2.2.2.2.2.2))) ∨ (¬ Z.1 = 0 ∧ ∃ v', w = (mW E a (Z.2.2.2, c.2.1, c.2.2.1, b, nI T, c.2.2.2.2.2.1, c.2.2.2.2.2.2.1, c.2.2.2.2.2.2.2.1, c.2.2.2.2.2.2.2.2) (h.1, h.2.1, nI Z.2.1, nI (tkE b T Z.2.1), v', 0, h.2.2.2.2.2.2))) := by
  obtain ⟨e1, e2, e3⟩ := e
  rw [e1, e2, e3]
  exact q
theorem md_0 {b : Nat → Int32} {T P : Nat} {nu : Int32} {t : Ter} {h : Int32} (q : (mdA b T P nu t h).1 = 0) : mdT b T P nu t h = (0, (mdA b T P nu t h).2.1, (mdA b T P nu t h).2.2.1, (mdA b T P nu t h).2.2.2) := by
  unfold mdA at q ⊢
  unfold mdT
  by_cases q1 : wdB b T P 3 = 0
  · rw [if_pos q1] at q; exact absurd q (show ¬ (1 : Int32) = 0 by decide)
  · rw [if_neg q1] at q ⊢
    rw [if_neg q1]
    by_cases q2 : (nmN b T P 20 nu).1 = 0
    · rw [if_pos q2, if_pos q2]
    · rw [if_neg q2] at q; exact absurd q (show ¬ (1 : Int32) = 0 by decide)
theorem md_1 {b : Nat → Int32} {T P : Nat} {nu : Int32} {t : Ter} {h : Int32} (q : ¬ (mdA b T P nu t h).1 = 0) : mdT b T P nu t h = pcT b T (mdA b T P nu t h).2.1 (mdA b T P nu t h).2.2.1 (mdA b T P nu t h).2.2.2 h := by
  unfold mdA at q ⊢
  unfold mdT
  by_cases q1 : wdB b T P 3 = 0
  · rw [if_pos q1, if_pos q1]
  · rw [if_neg q1] at q ⊢
    rw [if_neg q1]
    by_cases q2 : (nmN b T P 20 nu).1 = 0
    · rw [if_pos q2] at q; exact absurd rfl q
    · rw [if_neg q2, if_neg q2]
theorem mdA_le {b : Nat → Int32} {T P : Nat} {nu : Int32} {t : Ter} {h : Int32} (hP : P ≤ T) : (mdA b T P nu t h).2.1 ≤ T := by
  unfold mdA
  split
  · exact hP
  · split <;> exact nm_le 20 nu hP
theorem kn_lt {b : Nat → Int32} {T P : Nat} (hT : T ≤ 120) (hP : P ≤ T) : knF b T P 6 0 < 0 ↔ knF b T P 6 0 = -1 := by
  rw [kn_c hT hP]
  repeat' split
  all_goals decide

abbrev rmX6_houseItem : Room := { frames := 6, cells := 0, slots := 0, locals := 137 }
theorem hYX6_houseItem : gY yX6_houseItem wsX6_houseItem cX6_houseItem 3 (none) 1 := ⟨⟨_, rfl⟩, by decide +kernel, by decide +kernel, by decide +kernel⟩
theorem iwX6_houseItem_X6 : ∀ w ∈ u_ws RX6 TX6 16, w ∈ wsX6_houseItem := by decide +kernel
theorem lkX6_houseItem_201 : Cond.fieldLink RX6 201 "MuffinBellsModel" "isWrong" "Z" ∈ wsX6_houseItem := by decide +kernel
theorem lkX6_houseItem_212 : Cond.fieldLink RX6 212 "MuffinBellsModel" "value" "I" ∈ wsX6_houseItem := by decide +kernel
theorem lkX6_houseItem_7 : Cond.fieldLink RX6 7 "MuffinBellsModel" "s" "[I" ∈ wsX6_houseItem := by decide +kernel
theorem m1X6_houseItem_c238 : Cond.constantLong RX6 238 (441828) ∈ wsX6_houseItem := by decide +kernel
theorem m1X6_houseItem_c244 : Cond.constantLong RX6 244 (16955493) ∈ wsX6_houseItem := by decide +kernel
set_option maxRecDepth 100000 in
set_option maxHeartbeats 4000000 in
theorem c_X6_houseItem (l : Launch) (E : gE) (a : Nat → Nat) (c : Cor) (h : Mar) (b : Nat → Int32) (T : Nat) (t : Ter) (P : Nat) (v : Int32) (k0 : Int32) (hT : T ≤ 120) (hP : P ≤ T) : ctv l yX6_houseItem wsX6_houseItem rmX6_houseItem E [.ref (a 0), .int k0] (mW E a (t, c.2.1, c.2.2.1, b, nI T, c.2.2.2.2.2.1, c.2.2.2.2.2.2.1, c.2.2.2.2.2.2.2.1, c.2.2.2.2.2.2.2.2) (h.1, h.2.1, nI P, nI (tkE b T P), v, 0, h.2.2.2.2.2.2)) (fun w => ((hsT b T P v t k0).1 = 0 ∧ ∃ v' t', w = (mW E a (t', c.2.1, c.2.2.1, b, nI T, c.2.2.2.2.2.1, c.2.2.2.2.2.2.1, c.2.2.2.2.2.2.2.1, c.2.2.2.2.2.2.2.2) (h.1, h.2.1, nI ((hsT b T P v t k0).2.1), nI (tkE b T ((hsT b T P v t k0).2.1)), v', 1, h.2.2.2.2.2.2))) ∨ (¬ (hsT b T P v t k0).1 = 0 ∧ ∃ v', w = (mW E a (((hsT b T P v t k0).2.2.2), c.2.1, c.2.2.1, b, nI T, c.2.2.2.2.2.1, c.2.2.2.2.2.2.1, c.2.2.2.2.2.2.2.1, c.2.2.2.2.2.2.2.2) (h.1, h.2.1, nI ((hsT b T P v t k0).2.1), nI (tkE b T ((hsT b T P v t k0).2.1)), v', 0, h.2.2.2.2.2.2)))) := by
  refine mt_v (cc := cX6_houseItem) (maxL := 3) (ret := none) (lv0 := [(0, .ref (a 0)), (1, .int k0)]) (by decide) rfl rfl (Nat.le_of_ble_eq_true rfl) (fun X cx gr hI => ?_)
  refine g_aload_n cx dX6_houseItem_0 0 rfl ?_
  refine g_iconst (v := 1) cx dX6_houseItem_1 (by decide) ?_
  refine g_VSv (rest := []) (As := [.int 1]) cx hYX6_must gX6_houseItem_X6_must (c_X6_must_1 l E a c h b T t P v hT hP) rfl rfl rfl ⟨Nat.le_of_ble_eq_true rfl, Nat.le_of_ble_eq_true rfl⟩ rfl rfl (Nat.le_of_ble_eq_true rfl) ⟨Nat.le_of_ble_eq_true rfl, Nat.le_of_ble_eq_true rfl⟩ dX6_houseItem_2 (fun w1 hp => ?_)
  obtain rfl := hp
  refine g_aload_n cx dX6_houseItem_5 0 rfl ?_
  refine g_iconst (v := 0) cx dX6_houseItem_6 (by decide) ?_
  refine g_bipush (v := 7) cx dX6_houseItem_7 (by decide) ?_
  refine g_VSv (rest := []) (As := [.int 0, .int 7]) cx hYX6_number gX6_houseItem_X6_number (c_X6_number l E a c h b T t P v v 7 hT hP (by decide)) rfl rfl rfl ⟨Nat.le_of_ble_eq_true rfl, Nat.le_of_ble_eq_true rfl⟩ rfl rfl (Nat.le_of_ble_eq_true rfl) ⟨Nat.le_of_ble_eq_true rfl, Nat.le_of_ble_eq_true rfl⟩ dX6_houseItem_9 (fun w1 hp => ?_)
  rcases hp with ⟨hn_1, v_2, rfl⟩ | ⟨hn_1, rfl⟩
  · replace hn_1 : (nmN b T P 7 v).1 = 0 := hn_1
    refine g_w (show _ = (mW E a (t, c.2.1, c.2.2.1, b, nI T, c.2.2.2.2.2.1, c.2.2.2.2.2.2.1, c.2.2.2.2.2.2.2.1, c.2.2.2.2.2.2.2.2) (h.1, h.2.1, nI (nmN b T P 7 v).2.1, nI (tkE b T (nmN b T P 7 v).2.1), v_2, 1, h.2.2.2.2.2.2)) from rfl) ?_
    refine g_aload_n cx dX6_houseItem_12 0 rfl ?_
    refine g_get (C := RX6) (T := TX6) (N := 16) (v := .int 1) cx iwX6_houseItem_X6 0 11 rfl rfl (by decide) lkX6_houseItem_201 rfl dX6_houseItem_13 ?_
    refine g_if_eq (tgt := 20) cx dX6_houseItem_16 (by decide) (fun c_4 => absurd c_4 (by decide)) (fun c_4 => ?_)
    exact g_vret cx gr (Nat.zero_le _) (Nat.zero_le _) dX6_houseItem_19 (z_l (by rw [hsT, if_pos hn_1]))
  · replace hn_1 : ¬ (nmN b T P 7 v).1 = 0 := hn_1
    refine g_w (show _ = (mW E a (t, c.2.1, c.2.2.1, b, nI T, c.2.2.2.2.2.1, c.2.2.2.2.2.2.1, c.2.2.2.2.2.2.2.1, c.2.2.2.2.2.2.2.2) (h.1, h.2.1, nI (nmN b T P 7 v).2.1, nI (tkE b T (nmN b T P 7 v).2.1), (nmN b T P 7 v).2.2, 0, h.2.2.2.2.2.2)) from rfl) ?_
    refine g_aload_n cx dX6_houseItem_12 0 rfl ?_
    refine g_get (C := RX6) (T := TX6) (N := 16) (v := .int 0) cx iwX6_houseItem_X6 0 11 rfl rfl (by decide) lkX6_houseItem_201 rfl dX6_houseItem_13 ?_
    refine g_if_eq (tgt := 20) cx dX6_houseItem_16 (by decide) (fun c_5 => ?_) (fun c_5 => absurd (rfl) c_5)
    refine g_aload_n cx dX6_houseItem_20 0 rfl ?_
    refine g_get (C := RX6) (T := TX6) (N := 16) (v := .int ((nmN b T P 7 v).2.2)) cx iwX6_houseItem_X6 0 10 rfl rfl (by decide) lkX6_houseItem_212 rfl dX6_houseItem_21 ?_
    refine g_istore_n (lv' := [(2, .int ((nmN b T P 7 v).2.2)), (0, .ref (a 0)), (1, .int k0)]) cx dX6_houseItem_24 (by decide) rfl ?_
    refine g_aload_n cx dX6_houseItem_25 1 rfl ?_
    refine g_get (C := RX6) (T := TX6) (N := 16) (v := .ref (a 1)) cx iwX6_houseItem_X6 0 0 rfl rfl (by decide) lkX6_houseItem_7 rfl dX6_houseItem_26 ?_
    refine g_iload_n cx dX6_houseItem_29 0 rfl ?_
    refine g_iconst (v := 0) cx dX6_houseItem_30 (by decide) ?_
    refine g_SPi (rest := [.ref (a 1)]) (As := [.int ((nmN b T P 7 v).2.2), .int 0]) cx hYX6_spotOf gX6_houseItem_X6_spotOf (c_X6_spotOf l E ((nmN b T P 7 v).2.2) 0 ) ⟨Nat.le_of_ble_eq_true rfl, Nat.le_of_ble_eq_true rfl⟩ rfl rfl (Nat.le_of_ble_eq_true rfl) ⟨Nat.le_of_ble_eq_true rfl, Nat.le_of_ble_eq_true rfl⟩ dX6_houseItem_31 ?_
    refine g_iload_n cx dX6_houseItem_34 2 rfl ?_
    refine g_iast (ws' := (mW E a ((t.1, t.2.1, t.2.2.1, t.2.2.2.1, t.2.2.2.2.1, t.2.2.2.2.2.1, t.2.2.2.2.2.2.1, upd t.2.2.2.2.2.2.2.1 ((nmN b T P 7 v).2.2).toNatClampNeg k0, t.2.2.2.2.2.2.2.2.1, t.2.2.2.2.2.2.2.2.2.1, t.2.2.2.2.2.2.2.2.2.2), c.2.1, c.2.2.1, b, nI T, c.2.2.2.2.2.1, c.2.2.2.2.2.2.1, c.2.2.2.2.2.2.2.1, c.2.2.2.2.2.2.2.2) (h.1, h.2.1, nI (nmN b T P 7 v).2.1, nI (tkE b T (nmN b T P 7 v).2.1), (nmN b T P 7 v).2.2, 0, h.2.2.2.2.2.2))) cx 1 rfl rfl (si_K (nm_vp hn_1)) dX6_houseItem_35 (congrArg (fun f => List.set (mW E a (t, c.2.1, c.2.2.1, b, nI T, c.2.2.2.2.2.1, c.2.2.2.2.2.2.1, c.2.2.2.2.2.2.2.1, c.2.2.2.2.2.2.2.2) (h.1, h.2.1, nI (nmN b T P 7 v).2.1, nI (tkE b T (nmN b T P 7 v).2.1), (nmN b T P 7 v).2.2, 0, h.2.2.2.2.2.2)) 1 (a 1, .inl (gI E, 39, .inl f))) (su_K (nm_vp hn_1) t k0)) ?_
    refine g_aload_n cx dX6_houseItem_36 1 rfl ?_
    refine g_ldc2 cx m1X6_houseItem_c238 dX6_houseItem_37 ?_
    refine g_iload_n cx dX6_houseItem_40 0 rfl ?_
    refine g_iconst (v := 1) cx dX6_houseItem_41 (by decide) ?_
    refine g_SPi (rest := [.long 441828, .ref (a 0)]) (As := [.int ((nmN b T P 7 v).2.2), .int 1]) cx hYX6_spotOf gX6_houseItem_X6_spotOf (c_X6_spotOf l E ((nmN b T P 7 v).2.2) 1 ) ⟨Nat.le_of_ble_eq_true rfl, Nat.le_of_ble_eq_true rfl⟩ rfl rfl (Nat.le_of_ble_eq_true rfl) ⟨Nat.le_of_ble_eq_true rfl, Nat.le_of_ble_eq_true rfl⟩ dX6_houseItem_42 ?_
    refine g_bipush (v := 20) cx dX6_houseItem_45 (by decide) ?_
    refine g_VSv (rest := []) (As := [.long 441828, .int (spot ((nmN b T P 7 v).2.2) 1), .int 20]) cx hYX6_partItem gX6_houseItem_X6_partItem (c_X6_partItem_1 l E a c h b T (t.1, t.2.1, t.2.2.1, t.2.2.2.1, t.2.2.2.2.1, t.2.2.2.2.2.1, t.2.2.2.2.2.2.1, upd t.2.2.2.2.2.2.2.1 ((nmN b T P 7 v).2.2).toNatClampNeg k0, t.2.2.2.2.2.2.2.2.1, t.2.2.2.2.2.2.2.2.2.1, t.2.2.2.2.2.2.2.2.2.2) ((nmN b T P 7 v).2.1) ((nmN b T P 7 v).2.2) (nmN b T P 7 v).2.2 hT (nm_le 7 _ hP) (nm_vp hn_1)) rfl rfl rfl ⟨Nat.le_of_ble_eq_true rfl, Nat.le_of_ble_eq_true rfl⟩ rfl rfl (Nat.le_of_ble_eq_true rfl) ⟨Nat.le_of_ble_eq_true rfl, Nat.le_of_ble_eq_true rfl⟩ dX6_houseItem_47 (fun w1 hp => ?_)
    rcases hp with ⟨hn_6, v_7, t_8, rfl⟩ | ⟨hn_6, v_7, rfl⟩
    · replace hn_6 : (mdA b T ((nmN b T P 7 v).2.1) ((nmN b T P 7 v).2.2) (t.1, t.2.1, t.2.2.1, t.2.2.2.1, t.2.2.2.2.1, t.2.2.2.2.2.1, t.2.2.2.2.2.2.1, upd t.2.2.2.2.2.2.2.1 ((nmN b T P 7 v).2.2).toNatClampNeg k0, t.2.2.2.2.2.2.2.2.1, t.2.2.2.2.2.2.2.2.2.1, t.2.2.2.2.2.2.2.2.2.2) (nmN b T P 7 v).2.2).1 = 0 := hn_6
      refine g_w (show _ = (mW E a (t_8, c.2.1, c.2.2.1, b, nI T, c.2.2.2.2.2.1, c.2.2.2.2.2.2.1, c.2.2.2.2.2.2.2.1, c.2.2.2.2.2.2.2.2) (h.1, h.2.1, nI (mdA b T ((nmN b T P 7 v).2.1) ((nmN b T P 7 v).2.2) (t.1, t.2.1, t.2.2.1, t.2.2.2.1, t.2.2.2.2.1, t.2.2.2.2.2.1, t.2.2.2.2.2.2.1, upd t.2.2.2.2.2.2.2.1 ((nmN b T P 7 v).2.2).toNatClampNeg k0, t.2.2.2.2.2.2.2.2.1, t.2.2.2.2.2.2.2.2.2.1, t.2.2.2.2.2.2.2.2.2.2) (nmN b T P 7 v).2.2).2.1, nI (tkE b T (mdA b T ((nmN b T P 7 v).2.1) ((nmN b T P 7 v).2.2) (t.1, t.2.1, t.2.2.1, t.2.2.2.1, t.2.2.2.2.1, t.2.2.2.2.2.1, t.2.2.2.2.2.2.1, upd t.2.2.2.2.2.2.2.1 ((nmN b T P 7 v).2.2).toNatClampNeg k0, t.2.2.2.2.2.2.2.2.1, t.2.2.2.2.2.2.2.2.2.1, t.2.2.2.2.2.2.2.2.2.2) (nmN b T P 7 v).2.2).2.1), v_7, 1, h.2.2.2.2.2.2)) from rfl) ?_
      refine g_aload_n cx dX6_houseItem_50 1 rfl ?_
      refine g_ldc2 cx m1X6_houseItem_c244 dX6_houseItem_51 ?_
      refine g_iload_n cx dX6_houseItem_54 0 rfl ?_
      refine g_iconst (v := 2) cx dX6_houseItem_55 (by decide) ?_
      refine g_SPi (rest := [.long 16955493, .ref (a 0)]) (As := [.int ((nmN b T P 7 v).2.2), .int 2]) cx hYX6_spotOf gX6_houseItem_X6_spotOf (c_X6_spotOf l E ((nmN b T P 7 v).2.2) 2 ) ⟨Nat.le_of_ble_eq_true rfl, Nat.le_of_ble_eq_true rfl⟩ rfl rfl (Nat.le_of_ble_eq_true rfl) ⟨Nat.le_of_ble_eq_true rfl, Nat.le_of_ble_eq_true rfl⟩ dX6_houseItem_56 ?_
      refine g_sipush (v := 999) cx dX6_houseItem_59 (by decide) ?_
      refine g_VSv (rest := []) (As := [.long 16955493, .int (spot ((nmN b T P 7 v).2.2) 2), .int 999]) cx hYX6_partItem gX6_houseItem_X6_partItem (c_X6_partItem_0 l E a c h b T t_8 ((mdA b T ((nmN b T P 7 v).2.1) ((nmN b T P 7 v).2.2) (t.1, t.2.1, t.2.2.1, t.2.2.2.1, t.2.2.2.2.1, t.2.2.2.2.2.1, t.2.2.2.2.2.2.1, upd t.2.2.2.2.2.2.2.1 ((nmN b T P 7 v).2.2).toNatClampNeg k0, t.2.2.2.2.2.2.2.2.1, t.2.2.2.2.2.2.2.2.2.1, t.2.2.2.2.2.2.2.2.2.2) (nmN b T P 7 v).2.2).2.1) v_7 (nmN b T P 7 v).2.2 hT (mdA_le (nm_le 7 _ hP))) rfl rfl rfl ⟨Nat.le_of_ble_eq_true rfl, Nat.le_of_ble_eq_true rfl⟩ rfl rfl (Nat.le_of_ble_eq_true rfl) ⟨Nat.le_of_ble_eq_true rfl, Nat.le_of_ble_eq_true rfl⟩ dX6_houseItem_62 (fun w1 hp => ?_)
      obtain rfl := hp
      exact g_vret cx gr (Nat.zero_le _) (Nat.zero_le _) dX6_houseItem_65 (z_l (by rw [hsT, if_neg hn_1, md_0 hn_6]))
    · replace hn_6 : ¬ (mdA b T ((nmN b T P 7 v).2.1) ((nmN b T P 7 v).2.2) (t.1, t.2.1, t.2.2.1, t.2.2.2.1, t.2.2.2.2.1, t.2.2.2.2.2.1, t.2.2.2.2.2.2.1, upd t.2.2.2.2.2.2.2.1 ((nmN b T P 7 v).2.2).toNatClampNeg k0, t.2.2.2.2.2.2.2.2.1, t.2.2.2.2.2.2.2.2.2.1, t.2.2.2.2.2.2.2.2.2.2) (nmN b T P 7 v).2.2).1 = 0 := hn_6
      refine g_w (show _ = (mW E a (((mdA b T ((nmN b T P 7 v).2.1) ((nmN b T P 7 v).2.2) (t.1, t.2.1, t.2.2.1, t.2.2.2.1, t.2.2.2.2.1, t.2.2.2.2.2.1, t.2.2.2.2.2.2.1, upd t.2.2.2.2.2.2.2.1 ((nmN b T P 7 v).2.2).toNatClampNeg k0, t.2.2.2.2.2.2.2.2.1, t.2.2.2.2.2.2.2.2.2.1, t.2.2.2.2.2.2.2.2.2.2) (nmN b T P 7 v).2.2).2.2.2), c.2.1, c.2.2.1, b, nI T, c.2.2.2.2.2.1, c.2.2.2.2.2.2.1, c.2.2.2.2.2.2.2.1, c.2.2.2.2.2.2.2.2) (h.1, h.2.1, nI (mdA b T ((nmN b T P 7 v).2.1) ((nmN b T P 7 v).2.2) (t.1, t.2.1, t.2.2.1, t.2.2.2.1, t.2.2.2.2.1, t.2.2.2.2.2.1, t.2.2.2.2.2.2.1, upd t.2.2.2.2.2.2.2.1 ((nmN b T P 7 v).2.2).toNatClampNeg k0, t.2.2.2.2.2.2.2.2.1, t.2.2.2.2.2.2.2.2.2.1, t.2.2.2.2.2.2.2.2.2.2) (nmN b T P 7 v).2.2).2.1, nI (tkE b T (mdA b T ((nmN b T P 7 v).2.1) ((nmN b T P 7 v).2.2) (t.1, t.2.1, t.2.2.1, t.2.2.2.1, t.2.2.2.2.1, t.2.2.2.2.2.1, t.2.2.2.2.2.2.1, upd t.2.2.2.2.2.2.2.1 ((nmN b T P 7 v).2.2).toNatClampNeg k0, t.2.2.2.2.2.2.2.2.1, t.2.2.2.2.2.2.2.2.2.1, t.2.2.2.2.2.2.2.2.2.2) (nmN b T P 7 v).2.2).2.1), v_7, 0, h.2.2.2.2.2.2)) from rfl) ?_
      refine g_aload_n cx dX6_houseItem_50 1 rfl ?_
      refine g_ldc2 cx m1X6_houseItem_c244 dX6_houseItem_51 ?_
      refine g_iload_n cx dX6_houseItem_54 0 rfl ?_
      refine g_iconst (v := 2) cx dX6_houseItem_55 (by decide) ?_
      refine g_SPi (rest := [.long 16955493, .ref (a 0)]) (As := [.int ((nmN b T P 7 v).2.2), .int 2]) cx hYX6_spotOf gX6_houseItem_X6_spotOf (c_X6_spotOf l E ((nmN b T P 7 v).2.2) 2 ) ⟨Nat.le_of_ble_eq_true rfl, Nat.le_of_ble_eq_true rfl⟩ rfl rfl (Nat.le_of_ble_eq_true rfl) ⟨Nat.le_of_ble_eq_true rfl, Nat.le_of_ble_eq_true rfl⟩ dX6_houseItem_56 ?_
      refine g_sipush (v := 999) cx dX6_houseItem_59 (by decide) ?_
      refine g_VSv (rest := []) (As := [.long 16955493, .int (spot ((nmN b T P 7 v).2.2) 2), .int 999]) cx hYX6_partItem gX6_houseItem_X6_partItem (c_X6_partItem_2 l E a c h b T ((mdA b T ((nmN b T P 7 v).2.1) ((nmN b T P 7 v).2.2) (t.1, t.2.1, t.2.2.1, t.2.2.2.1, t.2.2.2.2.1, t.2.2.2.2.2.1, t.2.2.2.2.2.2.1, upd t.2.2.2.2.2.2.2.1 ((nmN b T P 7 v).2.2).toNatClampNeg k0, t.2.2.2.2.2.2.2.2.1, t.2.2.2.2.2.2.2.2.2.1, t.2.2.2.2.2.2.2.2.2.2) (nmN b T P 7 v).2.2).2.2.2) ((mdA b T ((nmN b T P 7 v).2.1) ((nmN b T P 7 v).2.2) (t.1, t.2.1, t.2.2.1, t.2.2.2.1, t.2.2.2.2.1, t.2.2.2.2.2.1, t.2.2.2.2.2.2.1, upd t.2.2.2.2.2.2.2.1 ((nmN b T P 7 v).2.2).toNatClampNeg k0, t.2.2.2.2.2.2.2.2.1, t.2.2.2.2.2.2.2.2.2.1, t.2.2.2.2.2.2.2.2.2.2) (nmN b T P 7 v).2.2).2.1) v_7 (nmN b T P 7 v).2.2 hT (mdA_le (nm_le 7 _ hP)) (nm_vp hn_1)) rfl rfl rfl ⟨Nat.le_of_ble_eq_true rfl, Nat.le_of_ble_eq_true rfl⟩ rfl rfl (Nat.le_of_ble_eq_true rfl) ⟨Nat.le_of_ble_eq_true rfl, Nat.le_of_ble_eq_true rfl⟩ dX6_houseItem_62 (fun w1 hp => ?_)
      rcases hp with ⟨hn_9, v_10, t_11, rfl⟩ | ⟨hn_9, v_10, rfl⟩
      · replace hn_9 : (pcT b T ((mdA b T ((nmN b T P 7 v).2.1) ((nmN b T P 7 v).2.2) (t.1, t.2.1, t.2.2.1, t.2.2.2.1, t.2.2.2.2.1, t.2.2.2.2.2.1, t.2.2.2.2.2.2.1, upd t.2.2.2.2.2.2.2.1 ((nmN b T P 7 v).2.2).toNatClampNeg k0, t.2.2.2.2.2.2.2.2.1, t.2.2.2.2.2.2.2.2.2.1, t.2.2.2.2.2.2.2.2.2.2) (nmN b T P 7 v).2.2).2.1) v_7 ((mdA b T ((nmN b T P 7 v).2.1) ((nmN b T P 7 v).2.2) (t.1, t.2.1, t.2.2.1, t.2.2.2.1, t.2.2.2.2.1, t.2.2.2.2.2.1, t.2.2.2.2.2.2.1, upd t.2.2.2.2.2.2.2.1 ((nmN b T P 7 v).2.2).toNatClampNeg k0, t.2.2.2.2.2.2.2.2.1, t.2.2.2.2.2.2.2.2.2.1, t.2.2.2.2.2.2.2.2.2.2) (nmN b T P 7 v).2.2).2.2.2) (nmN b T P 7 v).2.2).1 = 0 := hn_9
        refine g_w (show _ = (mW E a (t_11, c.2.1, c.2.2.1, b, nI T, c.2.2.2.2.2.1, c.2.2.2.2.2.2.1, c.2.2.2.2.2.2.2.1, c.2.2.2.2.2.2.2.2) (h.1, h.2.1, nI (pcT b T ((mdA b T ((nmN b T P 7 v).2.1) ((nmN b T P 7 v).2.2) (t.1, t.2.1, t.2.2.1, t.2.2.2.1, t.2.2.2.2.1, t.2.2.2.2.2.1, t.2.2.2.2.2.2.1, upd t.2.2.2.2.2.2.2.1 ((nmN b T P 7 v).2.2).toNatClampNeg k0, t.2.2.2.2.2.2.2.2.1, t.2.2.2.2.2.2.2.2.2.1, t.2.2.2.2.2.2.2.2.2.2) (nmN b T P 7 v).2.2).2.1) v_7 ((mdA b T ((nmN b T P 7 v).2.1) ((nmN b T P 7 v).2.2) (t.1, t.2.1, t.2.2.1, t.2.2.2.1, t.2.2.2.2.1, t.2.2.2.2.2.1, t.2.2.2.2.2.2.1, upd t.2.2.2.2.2.2.2.1 ((nmN b T P 7 v).2.2).toNatClampNeg k0, t.2.2.2.2.2.2.2.2.1, t.2.2.2.2.2.2.2.2.2.1, t.2.2.2.2.2.2.2.2.2.2) (nmN b T P 7 v).2.2).2.2.2) (nmN b T P 7 v).2.2).2.1, nI (tkE b T (pcT b T ((mdA b T ((nmN b T P 7 v).2.1) ((nmN b T P 7 v).2.2) (t.1, t.2.1, t.2.2.1, t.2.2.2.1, t.2.2.2.2.1, t.2.2.2.2.2.1, t.2.2.2.2.2.2.1, upd t.2.2.2.2.2.2.2.1 ((nmN b T P 7 v).2.2).toNatClampNeg k0, t.2.2.2.2.2.2.2.2.1, t.2.2.2.2.2.2.2.2.2.1, t.2.2.2.2.2.2.2.2.2.2) (nmN b T P 7 v).2.2).2.1) v_7 ((mdA b T ((nmN b T P 7 v).2.1) ((nmN b T P 7 v).2.2) (t.1, t.2.1, t.2.2.1, t.2.2.2.1, t.2.2.2.2.1, t.2.2.2.2.2.1, t.2.2.2.2.2.2.1, upd t.2.2.2.2.2.2.2.1 ((nmN b T P 7 v).2.2).toNatClampNeg k0, t.2.2.2.2.2.2.2.2.1, t.2.2.2.2.2.2.2.2.2.1, t.2.2.2.2.2.2.2.2.2.2) (nmN b T P 7 v).2.2).2.2.2) (nmN b T P 7 v).2.2).2.1), v_10, 1, h.2.2.2.2.2.2)) from rfl) ?_
        exact g_vret cx gr (Nat.zero_le _) (Nat.zero_le _) dX6_houseItem_65 (z_ag (show ag (hsT b T P v t k0) _ from by rw [hsT, if_neg hn_1, md_1 hn_6]; exact pcT_i _ _ _ _ _ _ _) (Or.inl ⟨hn_9, _, _, rfl⟩))
      · replace hn_9 : ¬ (pcT b T ((mdA b T ((nmN b T P 7 v).2.1) ((nmN b T P 7 v).2.2) (t.1, t.2.1, t.2.2.1, t.2.2.2.1, t.2.2.2.2.1, t.2.2.2.2.2.1, t.2.2.2.2.2.2.1, upd t.2.2.2.2.2.2.2.1 ((nmN b T P 7 v).2.2).toNatClampNeg k0, t.2.2.2.2.2.2.2.2.1, t.2.2.2.2.2.2.2.2.2.1, t.2.2.2.2.2.2.2.2.2.2) (nmN b T P 7 v).2.2).2.1) v_7 ((mdA b T ((nmN b T P 7 v).2.1) ((nmN b T P 7 v).2.2) (t.1, t.2.1, t.2.2.1, t.2.2.2.1, t.2.2.2.2.1, t.2.2.2.2.2.1, t.2.2.2.2.2.2.1, upd t.2.2.2.2.2.2.2.1 ((nmN b T P 7 v).2.2).toNatClampNeg k0, t.2.2.2.2.2.2.2.2.1, t.2.2.2.2.2.2.2.2.2.1, t.2.2.2.2.2.2.2.2.2.2) (nmN b T P 7 v).2.2).2.2.2) (nmN b T P 7 v).2.2).1 = 0 := hn_9
        refine g_w (show _ = (mW E a (((pcT b T ((mdA b T ((nmN b T P 7 v).2.1) ((nmN b T P 7 v).2.2) (t.1, t.2.1, t.2.2.1, t.2.2.2.1, t.2.2.2.2.1, t.2.2.2.2.2.1, t.2.2.2.2.2.2.1, upd t.2.2.2.2.2.2.2.1 ((nmN b T P 7 v).2.2).toNatClampNeg k0, t.2.2.2.2.2.2.2.2.1, t.2.2.2.2.2.2.2.2.2.1, t.2.2.2.2.2.2.2.2.2.2) (nmN b T P 7 v).2.2).2.1) v_7 ((mdA b T ((nmN b T P 7 v).2.1) ((nmN b T P 7 v).2.2) (t.1, t.2.1, t.2.2.1, t.2.2.2.1, t.2.2.2.2.1, t.2.2.2.2.2.1, t.2.2.2.2.2.2.1, upd t.2.2.2.2.2.2.2.1 ((nmN b T P 7 v).2.2).toNatClampNeg k0, t.2.2.2.2.2.2.2.2.1, t.2.2.2.2.2.2.2.2.2.1, t.2.2.2.2.2.2.2.2.2.2) (nmN b T P 7 v).2.2).2.2.2) (nmN b T P 7 v).2.2).2.2.2), c.2.1, c.2.2.1, b, nI T, c.2.2.2.2.2.1, c.2.2.2.2.2.2.1, c.2.2.2.2.2.2.2.1, c.2.2.2.2.2.2.2.2) (h.1, h.2.1, nI (pcT b T ((mdA b T ((nmN b T P 7 v).2.1) ((nmN b T P 7 v).2.2) (t.1, t.2.1, t.2.2.1, t.2.2.2.1, t.2.2.2.2.1, t.2.2.2.2.2.1, t.2.2.2.2.2.2.1, upd t.2.2.2.2.2.2.2.1 ((nmN b T P 7 v).2.2).toNatClampNeg k0, t.2.2.2.2.2.2.2.2.1, t.2.2.2.2.2.2.2.2.2.1, t.2.2.2.2.2.2.2.2.2.2) (nmN b T P 7 v).2.2).2.1) v_7 ((mdA b T ((nmN b T P 7 v).2.1) ((nmN b T P 7 v).2.2) (t.1, t.2.1, t.2.2.1, t.2.2.2.1, t.2.2.2.2.1, t.2.2.2.2.2.1, t.2.2.2.2.2.2.1, upd t.2.2.2.2.2.2.2.1 ((nmN b T P 7 v).2.2).toNatClampNeg k0, t.2.2.2.2.2.2.2.2.1, t.2.2.2.2.2.2.2.2.2.1, t.2.2.2.2.2.2.2.2.2.2) (nmN b T P 7 v).2.2).2.2.2) (nmN b T P 7 v).2.2).2.1, nI (tkE b T (pcT b T ((mdA b T ((nmN b T P 7 v).2.1) ((nmN b T P 7 v).2.2) (t.1, t.2.1, t.2.2.1, t.2.2.2.1, t.2.2.2.2.1, t.2.2.2.2.2.1, t.2.2.2.2.2.2.1, upd t.2.2.2.2.2.2.2.1 ((nmN b T P 7 v).2.2).toNatClampNeg k0, t.2.2.2.2.2.2.2.2.1, t.2.2.2.2.2.2.2.2.2.1, t.2.2.2.2.2.2.2.2.2.2) (nmN b T P 7 v).2.2).2.1) v_7 ((mdA b T ((nmN b T P 7 v).2.1) ((nmN b T P 7 v).2.2) (t.1, t.2.1, t.2.2.1, t.2.2.2.1, t.2.2.2.2.1, t.2.2.2.2.2.1, t.2.2.2.2.2.2.1, upd t.2.2.2.2.2.2.2.1 ((nmN b T P 7 v).2.2).toNatClampNeg k0, t.2.2.2.2.2.2.2.2.1, t.2.2.2.2.2.2.2.2.2.1, t.2.2.2.2.2.2.2.2.2.2) (nmN b T P 7 v).2.2).2.2.2) (nmN b T P 7 v).2.2).2.1), v_10, 0, h.2.2.2.2.2.2)) from rfl) ?_
        exact g_vret cx gr (Nat.zero_le _) (Nat.zero_le _) dX6_houseItem_65 (z_ag (show ag (hsT b T P v t k0) _ from by rw [hsT, if_neg hn_1, md_1 hn_6]; exact pcT_i _ _ _ _ _ _ _) (Or.inr ⟨hn_9, _, rfl⟩))
