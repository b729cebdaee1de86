theorem fo_k {r f : Int32} {A : Prop} {c : Cor} (hf : (f = -1 ∧ A) ∨ (0 ≤ f ∧ f = r)) (h : 0 ≤ f) : cN r c = (f, c) := by
  rcases hf with ⟨q, -⟩ | ⟨q, e⟩
  · rw [q] at h; exact absurd h (by decide)
  · rw [cN, ← e, if_pos q]
theorem fo_n {r f s : Int32} {c : Cor} (hf : (f = -1 ∧ r = s) ∨ (0 ≤ f ∧ f = r)) (h : ¬ 0 ≤ f) (hs : s = -1) : cN r c = cB (-1000000004) c := by
  rcases hf with ⟨q, e⟩ | ⟨q, -⟩
  · exact cN_n (e.trans hs)
  · exact absurd q h
theorem fo_l {r f s : Int32} (hf : (f = -1 ∧ r = s) ∨ (0 ≤ f ∧ f = r)) (h : ¬ 0 ≤ f) : r = s := by
  rcases hf with ⟨-, e⟩ | ⟨q, -⟩
  · exact e
  · exact absurd q h
theorem ch_ch {t : Ter} {x y : Nat} (hx : x < 8) (hy : y < 8) : chFam (chFam t (nI x) (nI y)) (nI x) (nI y) = t := by
  have cx : (nI x).toNatClampNeg = x := nI_clamp (by omega)
  have cy : (nI y).toNatClampNeg = y := nI_clamp (by omega)
  have e : ∀ f : Nat → Int32, swp (swp f (nI x) (nI y)) (nI x) (nI y) = f := by
    intro f
    funext j
    unfold swp upd
    rw [cx, cy]
    by_cases h1 : j = x
    · subst h1
      by_cases h2 : y = j
      · simp [h2]
      · simp [h2]
    · by_cases h2 : j = y
      · subst h2
        by_cases h3 : x = j
        · exact absurd h3.symm h1
        · simp [h1, h3]
      · simp [h1, h2]
  show (t.1, t.2.1, t.2.2.1, t.2.2.2.1, t.2.2.2.2.1, t.2.2.2.2.2.1, t.2.2.2.2.2.2.1, swp (swp (tKind t) (nI x) (nI y)) (nI x) (nI y), swp (swp (tMood t) (nI x) (nI y)) (nI x) (nI y), swp (swp (tPen t) (nI x) (nI y)) (nI x) (nI y), swp (swp (tAte t) (nI x) (nI y)) (nI x) (nI y)) = t
  rw [e, e, e, e]

abbrev rmX6_enough : Room := { frames := 8, cells := 0, slots := 0, locals := 180 }
theorem hYX6_enough : gY yX6_enough wsX6_enough cX6_enough 5 (some .int) 1 := ⟨⟨_, rfl⟩, by decide +kernel, by decide +kernel, by decide +kernel⟩
theorem iwX6_enough_X6 : ∀ w ∈ u_ws RX6 TX6 16, w ∈ wsX6_enough := by decide +kernel
theorem lkX6_enough_7 : Cond.fieldLink RX6 7 "MuffinBellsModel" "s" "[I" ∈ wsX6_enough := by decide +kernel
theorem m1X6_enough_c158 : Cond.constant RX6 158 (-1000000004) ∈ wsX6_enough := by decide +kernel
theorem m1X6_enough_c45 : Cond.constant RX6 45 (-1000000001) ∈ wsX6_enough := by decide +kernel
set_option maxRecDepth 100000 in
set_option maxHeartbeats 4000000 in
theorem c_X6_enough (l : Launch) (E : gE) (a : Nat → Nat) (c : Cor) (h : Mar) (n0 : Int32) (hok : cOk c) : cti l yX6_enough wsX6_enough rmX6_enough E [.ref (a 0), .int n0] (mW E a c h) (fun r w => ∃ h', r = (sp_enough c n0).1 ∧ w = mW E a (sp_enough c n0).2 h') := by
  refine mt_i (cc := cX6_enough) (maxL := 5) (ret := some .int) (lv0 := [(0, .ref (a 0)), (1, .int n0)]) (by decide) rfl rfl (Nat.le_of_ble_eq_true rfl) (fun X cx gr hI => ?_)
  refine g_iload_n cx dX6_enough_0 1 rfl ?_
  refine g_SPi (rest := []) (As := [.int n0]) cx hYX6_isSoon gX6_enough_X6_isSoon (c_X6_isSoon l E n0 ) ⟨Nat.le_of_ble_eq_true rfl, Nat.le_of_ble_eq_true rfl⟩ rfl rfl (Nat.le_of_ble_eq_true rfl) ⟨Nat.le_of_ble_eq_true rfl, Nat.le_of_ble_eq_true rfl⟩ dX6_enough_1 ?_
  refine g_if_ne (tgt := 14) cx dX6_enough_4 (by decide) (fun c_1 => ?_) (fun c_1 => ?_)
  · obtain ⟨N, hN1, hN, rfl⟩ := isW_nI1 60 c_1 (by decide)
    have hNc : (nI N).toNatClampNeg = N := nI_clamp (by omega)
    refine g_aload_n cx dX6_enough_14 0 rfl ?_
    refine g_get (C := RX6) (T := TX6) (N := 16) (v := .ref (a 1)) cx iwX6_enough_X6 0 0 rfl rfl (by decide) lkX6_enough_7 rfl dX6_enough_15 ?_
    refine g_iconst (v := 3) cx dX6_enough_18 (by decide) ?_
    refine g_iald cx 1 rfl rfl (by first | assumption | (unfold vp_in; decide +kernel)) dX6_enough_19 ?_
    refine g_top (y := c.1.2.2.2.1) (rfl) ?_
    refine g_istore_n (lv' := [(2, .int c.1.2.2.2.1), (0, .ref (a 0)), (1, .int (nI N))]) cx dX6_enough_20 (by decide) rfl ?_
    refine g_iconst (v := (-1)) cx dX6_enough_21 (by decide) ?_
    refine g_istore_n (lv' := [(3, .int (-1)), (2, .int c.1.2.2.2.1), (0, .ref (a 0)), (1, .int (nI N))]) cx dX6_enough_22 (by decide) rfl ?_
    refine g_iconst (v := 0) cx dX6_enough_23 (by decide) ?_
    refine g_istore (lv' := [(4, .int 0), (3, .int (-1)), (2, .int c.1.2.2.2.1), (0, .ref (a 0)), (1, .int (nI N))]) cx dX6_enough_24 (by decide) rfl ?_
    have LP26 : ∀ (d : Nat) (i : Nat) (x : Int32) (f : Int32) (z : Int32) (s1 : Ter), i + d = 201 → i ≤ 200 → x = nI i → (f = -1 ∧ frst (enB c.1 N) 200 0 = frst (enB c.1 N) (200 - i) i) ∨ (0 ≤ f ∧ f = frst (enB c.1 N) 200 0) → gG X 0 0 (mW E a ((c.1.1, c.1.2.1, c.1.2.2.1, z, c.1.2.2.2.2.1, c.1.2.2.2.2.2.1, c.1.2.2.2.2.2.2.1, c.1.2.2.2.2.2.2.2.1, c.1.2.2.2.2.2.2.2.2.1, c.1.2.2.2.2.2.2.2.2.2.1, c.1.2.2.2.2.2.2.2.2.2.2), c.2.1, c.2.2.1, c.2.2.2.1, c.2.2.2.2.1, c.2.2.2.2.2.1, c.2.2.2.2.2.2.1, c.2.2.2.2.2.2.2.1, c.2.2.2.2.2.2.2.2) (h.1, s1, h.2.2.1, h.2.2.2.1, h.2.2.2.2.1, h.2.2.2.2.2.1, h.2.2.2.2.2.2)) 26 [(0, .ref (a 0)), (1, .int (nI N)), (2, .int c.1.2.2.2.1), (3, .int f), (4, .int x)] [] := by
      intro d
      induction d with
      | zero =>
        intro i x f z s1 hi hiN hx hf
        omega
      | succ d ih =>
        intro i x f z s1 hi hiN hx hf
        refine g_iload cx dX6_enough_26 4 rfl ?_
        refine g_sipush (v := 199) cx dX6_enough_28 (by decide) ?_
        refine g_icmp_gt (tgt := 68) cx dX6_enough_31 (by decide) (fun c_2 => ?_) (fun c_2 => ?_)
        · refine g_aload_n cx dX6_enough_68 0 rfl ?_
          refine g_get (C := RX6) (T := TX6) (N := 16) (v := .ref (a 1)) cx iwX6_enough_X6 0 0 rfl rfl (by decide) lkX6_enough_7 rfl dX6_enough_69 ?_
          refine g_iconst (v := 3) cx dX6_enough_72 (by decide) ?_
          refine g_iload_n cx dX6_enough_73 2 rfl ?_
          refine g_iast (ws' := (mW E a c (h.1, s1, h.2.2.1, h.2.2.2.1, h.2.2.2.2.1, h.2.2.2.2.2.1, h.2.2.2.2.2.2))) cx 1 rfl rfl (by first | assumption | (unfold vp_in; decide +kernel)) dX6_enough_74 (congrArg (fun f => List.set (mW E a ((c.1.1, c.1.2.1, c.1.2.2.1, z, c.1.2.2.2.2.1, c.1.2.2.2.2.2.1, c.1.2.2.2.2.2.2.1, c.1.2.2.2.2.2.2.2.1, c.1.2.2.2.2.2.2.2.2.1, c.1.2.2.2.2.2.2.2.2.2.1, c.1.2.2.2.2.2.2.2.2.2.2), c.2.1, c.2.2.1, c.2.2.2.1, c.2.2.2.2.1, c.2.2.2.2.2.1, c.2.2.2.2.2.2.1, c.2.2.2.2.2.2.2.1, c.2.2.2.2.2.2.2.2) (h.1, s1, h.2.2.1, h.2.2.2.1, h.2.2.2.2.1, h.2.2.2.2.2.1, h.2.2.2.2.2.2)) 1 (a 1, .inl (gI E, 39, .inl f))) (eu_3 (c.1.1, c.1.2.1, c.1.2.2.1, z, c.1.2.2.2.2.1, c.1.2.2.2.2.2.1, c.1.2.2.2.2.2.2.1, c.1.2.2.2.2.2.2.2.1, c.1.2.2.2.2.2.2.2.2.1, c.1.2.2.2.2.2.2.2.2.2.1, c.1.2.2.2.2.2.2.2.2.2.2) c.1.2.2.2.1)) ?_
          refine g_iload_n cx dX6_enough_75 3 rfl ?_
          refine g_if_ge (tgt := 88) cx dX6_enough_76 (by decide) (fun c_3 => ?_) (fun c_3 => ?_)
          · refine g_iload_n cx dX6_enough_88 3 rfl ?_
            exact g_iret cx gr (Nat.zero_le _) (Nat.zero_le _) dX6_enough_89 (mleaf (by rw [sp_enough, if_neg c_1, hNc]; exact fo_k hf c_3))
          · refine g_aload_n cx dX6_enough_79 0 rfl ?_
            refine g_ldc cx m1X6_enough_c158 dX6_enough_80 ?_
            refine g_VSi (rest := []) (As := [.int (-1000000004)]) cx hYX6_finds gX6_enough_X6_finds (c_X6_finds l E a c (h.1, s1, h.2.2.1, h.2.2.2.1, h.2.2.2.2.1, h.2.2.2.2.2.1, h.2.2.2.2.2.2) (-1000000004) (by unfold vp_in; decide +kernel)) rfl rfl rfl ⟨Nat.le_of_ble_eq_true rfl, Nat.le_of_ble_eq_true rfl⟩ rfl rfl (Nat.le_of_ble_eq_true rfl) ⟨Nat.le_of_ble_eq_true rfl, Nat.le_of_ble_eq_true rfl⟩ dX6_enough_82 (fun r w1 hp => ?_)
            obtain ⟨rfl, rfl⟩ := hp
            refine g_goto (tgt := 89) cx dX6_enough_85 (by decide) ?_
            exact g_iret cx gr (Nat.zero_le _) (Nat.zero_le _) dX6_enough_89 (mleaf (by rw [sp_enough, if_neg c_1, hNc]; exact fo_n hf c_3 (by rw [show 200 - i = 0 by have := gt_of 199 hx c_2 (by omega) (by decide); omega]; rfl)))
        · refine g_iload_n cx dX6_enough_34 3 rfl ?_
          refine g_if_ge (tgt := 68) cx dX6_enough_35 (by decide) (fun c_4 => ?_) (fun c_4 => ?_)
          · refine g_aload_n cx dX6_enough_68 0 rfl ?_
            refine g_get (C := RX6) (T := TX6) (N := 16) (v := .ref (a 1)) cx iwX6_enough_X6 0 0 rfl rfl (by decide) lkX6_enough_7 rfl dX6_enough_69 ?_
            refine g_iconst (v := 3) cx dX6_enough_72 (by decide) ?_
            refine g_iload_n cx dX6_enough_73 2 rfl ?_
            refine g_iast (ws' := (mW E a c (h.1, s1, h.2.2.1, h.2.2.2.1, h.2.2.2.2.1, h.2.2.2.2.2.1, h.2.2.2.2.2.2))) cx 1 rfl rfl (by first | assumption | (unfold vp_in; decide +kernel)) dX6_enough_74 (congrArg (fun f => List.set (mW E a ((c.1.1, c.1.2.1, c.1.2.2.1, z, c.1.2.2.2.2.1, c.1.2.2.2.2.2.1, c.1.2.2.2.2.2.2.1, c.1.2.2.2.2.2.2.2.1, c.1.2.2.2.2.2.2.2.2.1, c.1.2.2.2.2.2.2.2.2.2.1, c.1.2.2.2.2.2.2.2.2.2.2), c.2.1, c.2.2.1, c.2.2.2.1, c.2.2.2.2.1, c.2.2.2.2.2.1, c.2.2.2.2.2.2.1, c.2.2.2.2.2.2.2.1, c.2.2.2.2.2.2.2.2) (h.1, s1, h.2.2.1, h.2.2.2.1, h.2.2.2.2.1, h.2.2.2.2.2.1, h.2.2.2.2.2.2)) 1 (a 1, .inl (gI E, 39, .inl f))) (eu_3 (c.1.1, c.1.2.1, c.1.2.2.1, z, c.1.2.2.2.2.1, c.1.2.2.2.2.2.1, c.1.2.2.2.2.2.2.1, c.1.2.2.2.2.2.2.2.1, c.1.2.2.2.2.2.2.2.2.1, c.1.2.2.2.2.2.2.2.2.2.1, c.1.2.2.2.2.2.2.2.2.2.2) c.1.2.2.2.1)) ?_
            refine g_iload_n cx dX6_enough_75 3 rfl ?_
            refine g_if_ge (tgt := 88) cx dX6_enough_76 (by decide) (fun c_5 => ?_) (fun c_5 => absurd (c_4) c_5)
            refine g_iload_n cx dX6_enough_88 3 rfl ?_
            exact g_iret cx gr (Nat.zero_le _) (Nat.zero_le _) dX6_enough_89 (mleaf (by rw [sp_enough, if_neg c_1, hNc]; exact fo_k hf c_5))
          · refine g_aload_n cx dX6_enough_38 0 rfl ?_
            refine g_get (C := RX6) (T := TX6) (N := 16) (v := .ref (a 1)) cx iwX6_enough_X6 0 0 rfl rfl (by decide) lkX6_enough_7 rfl dX6_enough_39 ?_
            refine g_iconst (v := 3) cx dX6_enough_42 (by decide) ?_
            refine g_iload cx dX6_enough_43 4 rfl ?_
            refine g_iast (ws' := (mW E a ((c.1.1, c.1.2.1, c.1.2.2.1, x, c.1.2.2.2.2.1, c.1.2.2.2.2.2.1, c.1.2.2.2.2.2.2.1, c.1.2.2.2.2.2.2.2.1, c.1.2.2.2.2.2.2.2.2.1, c.1.2.2.2.2.2.2.2.2.2.1, c.1.2.2.2.2.2.2.2.2.2.2), c.2.1, c.2.2.1, c.2.2.2.1, c.2.2.2.2.1, c.2.2.2.2.2.1, c.2.2.2.2.2.2.1, c.2.2.2.2.2.2.2.1, c.2.2.2.2.2.2.2.2) (h.1, s1, h.2.2.1, h.2.2.2.1, h.2.2.2.2.1, h.2.2.2.2.2.1, h.2.2.2.2.2.2))) cx 1 rfl rfl (by first | assumption | (unfold vp_in; decide +kernel)) dX6_enough_45 (congrArg (fun f => List.set (mW E a ((c.1.1, c.1.2.1, c.1.2.2.1, z, c.1.2.2.2.2.1, c.1.2.2.2.2.2.1, c.1.2.2.2.2.2.2.1, c.1.2.2.2.2.2.2.2.1, c.1.2.2.2.2.2.2.2.2.1, c.1.2.2.2.2.2.2.2.2.2.1, c.1.2.2.2.2.2.2.2.2.2.2), c.2.1, c.2.2.1, c.2.2.2.1, c.2.2.2.2.1, c.2.2.2.2.2.1, c.2.2.2.2.2.2.1, c.2.2.2.2.2.2.2.1, c.2.2.2.2.2.2.2.2) (h.1, s1, h.2.2.1, h.2.2.2.1, h.2.2.2.2.1, h.2.2.2.2.2.1, h.2.2.2.2.2.2)) 1 (a 1, .inl (gI E, 39, .inl f))) (eu_3 (c.1.1, c.1.2.1, c.1.2.2.1, z, c.1.2.2.2.2.1, c.1.2.2.2.2.2.1, c.1.2.2.2.2.2.2.1, c.1.2.2.2.2.2.2.2.1, c.1.2.2.2.2.2.2.2.2.1, c.1.2.2.2.2.2.2.2.2.2.1, c.1.2.2.2.2.2.2.2.2.2.2) x)) ?_
            refine g_aload_n cx dX6_enough_46 0 rfl ?_
            refine g_iconst (v := 3) cx dX6_enough_47 (by decide) ?_
            refine g_iload_n cx dX6_enough_48 1 rfl ?_
            refine g_VSi (rest := []) (As := [.int 3, .int (nI N)]) cx hYX6_behind gX6_enough_X6_behind (c_X6_behind l E a ((c.1.1, c.1.2.1, c.1.2.2.1, x, c.1.2.2.2.2.1, c.1.2.2.2.2.2.1, c.1.2.2.2.2.2.2.1, c.1.2.2.2.2.2.2.2.1, c.1.2.2.2.2.2.2.2.2.1, c.1.2.2.2.2.2.2.2.2.2.1, c.1.2.2.2.2.2.2.2.2.2.2), c.2.1, c.2.2.1, c.2.2.2.1, c.2.2.2.2.1, c.2.2.2.2.2.1, c.2.2.2.2.2.2.1, c.2.2.2.2.2.2.2.1, c.2.2.2.2.2.2.2.2) (h.1, s1, h.2.2.1, h.2.2.2.1, h.2.2.2.2.1, h.2.2.2.2.2.1, h.2.2.2.2.2.2) 3 N hok.1.1 (by omega) (by unfold vp_in; decide +kernel)) rfl rfl rfl ⟨Nat.le_of_ble_eq_true rfl, Nat.le_of_ble_eq_true rfl⟩ rfl rfl (Nat.le_of_ble_eq_true rfl) ⟨Nat.le_of_ble_eq_true rfl, Nat.le_of_ble_eq_true rfl⟩ dX6_enough_49 (fun r w1 hp => ?_)
            obtain ⟨rfl, rfl⟩ := hp
            refine g_if_le (tgt := 60) cx dX6_enough_52 (by decide) (fun c_6 => ?_) (fun c_6 => ?_)
            · refine g_iconst (v := (-1)) cx dX6_enough_60 (by decide) ?_
              refine g_istore_n (lv' := [(3, .int (-1)), (0, .ref (a 0)), (1, .int (nI N)), (2, .int c.1.2.2.2.1), (4, .int x)]) cx dX6_enough_61 (by decide) rfl ?_
              refine g_iinc (v := x + 1) (lv' := [(4, .int (x + 1)), (3, .int (-1)), (0, .ref (a 0)), (1, .int (nI N)), (2, .int c.1.2.2.2.1)]) cx dX6_enough_62 4 rfl rfl (by decide) rfl ?_
              refine g_goto (tgt := 26) cx dX6_enough_65 (by decide) ?_
              exact g_lv [2, 3, 4, 1, 0] rfl (ih (i + 1) (x + 1) (-1) x (c.1.1, c.1.2.1, c.1.2.2.1, x, c.1.2.2.2.2.1, c.1.2.2.2.2.2.1, c.1.2.2.2.2.2.2.1, c.1.2.2.2.2.2.2.2.1, c.1.2.2.2.2.2.2.2.2.1, c.1.2.2.2.2.2.2.2.2.2.1, c.1.2.2.2.2.2.2.2.2.2.2) (by omega) (by have := (le_of 199 hx c_2 (by omega) (by decide)); omega) (by rw [hx]; exact nI_1 i) (Or.inl ⟨rfl, by rw [fo_l hf c_4, show 200 - i = (200 - (i + 1)) + 1 by have := (le_of 199 hx c_2 (by omega) (by decide)); omega, frst_s (by rw [enB, put_3, ← hx, decide_eq_true_eq]; exact fun q => absurd c_6 (Int32.not_le.mpr q))]⟩))
            · refine g_iload cx dX6_enough_55 4 rfl ?_
              refine g_goto (tgt := 61) cx dX6_enough_57 (by decide) ?_
              refine g_istore_n (lv' := [(3, .int x), (0, .ref (a 0)), (1, .int (nI N)), (2, .int c.1.2.2.2.1), (4, .int x)]) cx dX6_enough_61 (by decide) rfl ?_
              refine g_iinc (v := x + 1) (lv' := [(4, .int (x + 1)), (3, .int x), (0, .ref (a 0)), (1, .int (nI N)), (2, .int c.1.2.2.2.1)]) cx dX6_enough_62 4 rfl rfl (by decide) rfl ?_
              refine g_goto (tgt := 26) cx dX6_enough_65 (by decide) ?_
              exact g_lv [2, 3, 4, 1, 0] rfl (ih (i + 1) (x + 1) x x (c.1.1, c.1.2.1, c.1.2.2.1, x, c.1.2.2.2.2.1, c.1.2.2.2.2.2.1, c.1.2.2.2.2.2.2.1, c.1.2.2.2.2.2.2.2.1, c.1.2.2.2.2.2.2.2.2.1, c.1.2.2.2.2.2.2.2.2.2.1, c.1.2.2.2.2.2.2.2.2.2.2) (by omega) (by have := (le_of 199 hx c_2 (by omega) (by decide)); omega) (by rw [hx]; exact nI_1 i) (Or.inr ⟨by rw [hx]; exact nI_pos' (by omega), by rw [fo_l hf c_4, show 200 - i = (200 - (i + 1)) + 1 by have := (le_of 199 hx c_2 (by omega) (by decide)); omega, frst_k (by rw [enB, put_3, ← hx, decide_eq_true_eq]; exact Int32.not_le.mp c_6), hx]⟩))
    exact g_lv [3, 4, 2, 1, 0] rfl (LP26 201 0 0 (-1) _ _ (by omega) (by omega) rfl (Or.inl ⟨rfl, rfl⟩))
  · refine g_aload_n cx dX6_enough_7 0 rfl ?_
    refine g_ldc cx m1X6_enough_c45 dX6_enough_8 ?_
    refine g_VSi (rest := []) (As := [.int (-1000000001)]) cx hYX6_finds gX6_enough_X6_finds (c_X6_finds l E a c h (-1000000001) (by unfold vp_in; decide +kernel)) rfl rfl rfl ⟨Nat.le_of_ble_eq_true rfl, Nat.le_of_ble_eq_true rfl⟩ rfl rfl (Nat.le_of_ble_eq_true rfl) ⟨Nat.le_of_ble_eq_true rfl, Nat.le_of_ble_eq_true rfl⟩ dX6_enough_10 (fun r w1 hp => ?_)
    obtain ⟨rfl, rfl⟩ := hp
    exact g_iret cx gr (Nat.zero_le _) (Nat.zero_le _) dX6_enough_13 (mleaf (by first | (simp only [sp_enough, tKind, tMood, tPen, tAte, tHour, tTray, tAt, tRang, tCrack, tTak, tWay, cB, c_1, if_true, if_false]; done) | (simp only [sp_enough, tKind, tMood, tPen, tAte, tHour, tTray, tAt, tRang, tCrack, tTak, tWay, cB, c_1, if_true, if_false] <;> rfl) | (simp [sp_enough, tKind, tMood, tPen, tAte, tHour, tTray, tAt, tRang, tCrack, tTak, tWay, cB, c_1] <;> rfl)))

abbrev rmX6_bears : Room := { frames := 8, cells := 0, slots := 0, locals := 180 }
theorem hYX6_bears : gY yX6_bears wsX6_bears cX6_bears 6 (some .int) 2 := ⟨⟨_, rfl⟩, by decide +kernel, by decide +kernel, by decide +kernel⟩
theorem m1X6_bears_c45 : Cond.constant RX6 45 (-1000000001) ∈ wsX6_bears := by decide +kernel
theorem m1X6_bears_c171 : Cond.constantLong RX6 171 (99999) ∈ wsX6_bears := by decide +kernel
theorem iwX6_bears_X6 : ∀ w ∈ u_ws RX6 TX6 16, w ∈ wsX6_bears := by decide +kernel
theorem lkX6_bears_7 : Cond.fieldLink RX6 7 "MuffinBellsModel" "s" "[I" ∈ wsX6_bears := by decide +kernel
theorem m1X6_bears_c158 : Cond.constant RX6 158 (-1000000004) ∈ wsX6_bears := by decide +kernel
set_option maxRecDepth 100000 in
set_option maxHeartbeats 4000000 in
theorem c_X6_bears (l : Launch) (E : gE) (a : Nat → Nat) (c : Cor) (h : Mar) (n0 : Int32) (v0 : Int32) (hok : cOk c) : cti l yX6_bears wsX6_bears rmX6_bears E [.ref (a 0), .int n0, .int v0] (mW E a c h) (fun r w => ∃ h', r = (sp_bears c n0 v0).1 ∧ w = mW E a (sp_bears c n0 v0).2 h') := by
  refine mt_i (cc := cX6_bears) (maxL := 6) (ret := some .int) (lv0 := [(0, .ref (a 0)), (1, .int n0), (2, .int v0)]) (by decide) rfl rfl (Nat.le_of_ble_eq_true rfl) (fun X cx gr hI => ?_)
  refine g_iload_n cx dX6_bears_0 1 rfl ?_
  refine g_SPi (rest := []) (As := [.int n0]) cx hYX6_isSoon gX6_bears_X6_isSoon (c_X6_isSoon l E n0 ) ⟨Nat.le_of_ble_eq_true rfl, Nat.le_of_ble_eq_true rfl⟩ rfl rfl (Nat.le_of_ble_eq_true rfl) ⟨Nat.le_of_ble_eq_true rfl, Nat.le_of_ble_eq_true rfl⟩ dX6_bears_1 ?_
  refine g_if_eq (tgt := 19) cx dX6_bears_4 (by decide) (fun c_1 => ?_) (fun c_1 => ?_)
  · refine g_aload_n cx dX6_bears_19 0 rfl ?_
    refine g_ldc cx m1X6_bears_c45 dX6_bears_20 ?_
    refine g_VSi (rest := []) (As := [.int (-1000000001)]) cx hYX6_finds gX6_bears_X6_finds (c_X6_finds l E a c h (-1000000001) (by unfold vp_in; decide +kernel)) rfl rfl rfl ⟨Nat.le_of_ble_eq_true rfl, Nat.le_of_ble_eq_true rfl⟩ rfl rfl (Nat.le_of_ble_eq_true rfl) ⟨Nat.le_of_ble_eq_true rfl, Nat.le_of_ble_eq_true rfl⟩ dX6_bears_22 (fun r w1 hp => ?_)
    obtain ⟨rfl, rfl⟩ := hp
    exact g_iret cx gr (Nat.zero_le _) (Nat.zero_le _) dX6_bears_25 (mleaf (by first | (simp only [sp_bears, tKind, tMood, tPen, tAte, tHour, tTray, tAt, tRang, tCrack, tTak, tWay, cB, c_1, if_true, if_false]; done) | (simp only [sp_bears, tKind, tMood, tPen, tAte, tHour, tTray, tAt, tRang, tCrack, tTak, tWay, cB, c_1, if_true, if_false] <;> rfl) | (simp [sp_bears, tKind, tMood, tPen, tAte, tHour, tTray, tAt, tRang, tCrack, tTak, tWay, cB, c_1] <;> rfl)))
  · refine g_iload_n cx dX6_bears_7 2 rfl ?_
    refine g_i2l cx dX6_bears_8 ?_
    refine g_lconst (v := 0) cx dX6_bears_9 (by decide) ?_
    refine g_ldc2 cx m1X6_bears_c171 dX6_bears_10 ?_
    refine g_SPi (rest := []) (As := [.long v0.toInt64, .long 0, .long 99999]) cx hYX6_in gX6_bears_X6_in (c_X6_inW l E v0 0 99999 0 99999 (by decide) (by decide)) ⟨Nat.le_of_ble_eq_true rfl, Nat.le_of_ble_eq_true rfl⟩ rfl rfl (Nat.le_of_ble_eq_true rfl) ⟨Nat.le_of_ble_eq_true rfl, Nat.le_of_ble_eq_true rfl⟩ dX6_bears_13 ?_
    refine g_if_ne (tgt := 26) cx dX6_bears_16 (by decide) (fun c_2 => ?_) (fun c_2 => ?_)
    · obtain ⟨N, hN1, hN, rfl⟩ := isW_nI1 60 c_1 (by decide)
      have hNc : (nI N).toNatClampNeg = N := nI_clamp (by omega)
      refine g_aload_n cx dX6_bears_26 0 rfl ?_
      refine g_get (C := RX6) (T := TX6) (N := 16) (v := .ref (a 1)) cx iwX6_bears_X6 0 0 rfl rfl (by decide) lkX6_bears_7 rfl dX6_bears_27 ?_
      refine g_iconst (v := 5) cx dX6_bears_30 (by decide) ?_
      refine g_iald cx 1 rfl rfl (by first | assumption | (unfold vp_in; decide +kernel)) dX6_bears_31 ?_
      refine g_top (y := c.1.2.2.2.2.2.1) (rfl) ?_
      refine g_istore_n (lv' := [(3, .int c.1.2.2.2.2.2.1), (0, .ref (a 0)), (1, .int (nI N)), (2, .int v0)]) cx dX6_bears_32 (by decide) rfl ?_
      refine g_iconst (v := (-1)) cx dX6_bears_33 (by decide) ?_
      refine g_istore (lv' := [(4, .int (-1)), (3, .int c.1.2.2.2.2.2.1), (0, .ref (a 0)), (1, .int (nI N)), (2, .int v0)]) cx dX6_bears_34 (by decide) rfl ?_
      refine g_bipush (v := 99) cx dX6_bears_36 (by decide) ?_
      refine g_istore (lv' := [(5, .int 99), (4, .int (-1)), (3, .int c.1.2.2.2.2.2.1), (0, .ref (a 0)), (1, .int (nI N)), (2, .int v0)]) cx dX6_bears_38 (by decide) rfl ?_
      have LP40 : ∀ (d : Nat) (k : Nat) (x : Int32) (f : Int32) (z : Int32) (s1 : Ter), d = k + 1 → k ≤ 100 → x = nI k - 1 → (f = -1 ∧ brst (beB c.1 N v0) 100 = brst (beB c.1 N v0) k) ∨ (0 ≤ f ∧ f = brst (beB c.1 N v0) 100) → gG X 0 0 (mW E a ((c.1.1, c.1.2.1, c.1.2.2.1, c.1.2.2.2.1, c.1.2.2.2.2.1, z, c.1.2.2.2.2.2.2.1, c.1.2.2.2.2.2.2.2.1, c.1.2.2.2.2.2.2.2.2.1, c.1.2.2.2.2.2.2.2.2.2.1, c.1.2.2.2.2.2.2.2.2.2.2), c.2.1, c.2.2.1, c.2.2.2.1, c.2.2.2.2.1, c.2.2.2.2.2.1, c.2.2.2.2.2.2.1, c.2.2.2.2.2.2.2.1, c.2.2.2.2.2.2.2.2) (h.1, s1, h.2.2.1, h.2.2.2.1, h.2.2.2.2.1, h.2.2.2.2.2.1, h.2.2.2.2.2.2)) 40 [(0, .ref (a 0)), (1, .int (nI N)), (2, .int v0), (3, .int c.1.2.2.2.2.2.1), (4, .int f), (5, .int x)] [] := by
        intro d
        induction d with
        | zero =>
          intro k x f z s1 hi hk hx hf
          omega
        | succ d ih =>
          intro k x f z s1 hi hk hx hf
          refine g_iload cx dX6_bears_40 5 rfl ?_
          refine g_if_lt (tgt := 83) cx dX6_bears_42 (by decide) (fun c_3 => ?_) (fun c_3 => ?_)
          · refine g_aload_n cx dX6_bears_83 0 rfl ?_
            refine g_get (C := RX6) (T := TX6) (N := 16) (v := .ref (a 1)) cx iwX6_bears_X6 0 0 rfl rfl (by decide) lkX6_bears_7 rfl dX6_bears_84 ?_
            refine g_iconst (v := 5) cx dX6_bears_87 (by decide) ?_
            refine g_iload_n cx dX6_bears_88 3 rfl ?_
            refine g_iast (ws' := (mW E a c (h.1, s1, h.2.2.1, h.2.2.2.1, h.2.2.2.2.1, h.2.2.2.2.2.1, h.2.2.2.2.2.2))) cx 1 rfl rfl (by first | assumption | (unfold vp_in; decide +kernel)) dX6_bears_89 (congrArg (fun f => List.set (mW E a ((c.1.1, c.1.2.1, c.1.2.2.1, c.1.2.2.2.1, c.1.2.2.2.2.1, z, c.1.2.2.2.2.2.2.1, c.1.2.2.2.2.2.2.2.1, c.1.2.2.2.2.2.2.2.2.1, c.1.2.2.2.2.2.2.2.2.2.1, c.1.2.2.2.2.2.2.2.2.2.2), c.2.1, c.2.2.1, c.2.2.2.1, c.2.2.2.2.1, c.2.2.2.2.2.1, c.2.2.2.2.2.2.1, c.2.2.2.2.2.2.2.1, c.2.2.2.2.2.2.2.2) (h.1, s1, h.2.2.1, h.2.2.2.1, h.2.2.2.2.1, h.2.2.2.2.2.1, h.2.2.2.2.2.2)) 1 (a 1, .inl (gI E, 39, .inl f))) (eu_5 (c.1.1, c.1.2.1, c.1.2.2.1, c.1.2.2.2.1, c.1.2.2.2.2.1, z, c.1.2.2.2.2.2.2.1, c.1.2.2.2.2.2.2.2.1, c.1.2.2.2.2.2.2.2.2.1, c.1.2.2.2.2.2.2.2.2.2.1, c.1.2.2.2.2.2.2.2.2.2.2) c.1.2.2.2.2.2.1)) ?_
            refine g_iload cx dX6_bears_90 4 rfl ?_
            refine g_if_ge (tgt := 104) cx dX6_bears_92 (by decide) (fun c_4 => ?_) (fun c_4 => ?_)
            · refine g_iload cx dX6_bears_104 4 rfl ?_
              exact g_iret cx gr (Nat.zero_le _) (Nat.zero_le _) dX6_bears_106 (mleaf (by rw [sp_bears, if_neg c_1, if_neg c_2, hNc]; exact fo_k hf c_4))
            · refine g_aload_n cx dX6_bears_95 0 rfl ?_
              refine g_ldc cx m1X6_bears_c158 dX6_bears_96 ?_
              refine g_VSi (rest := []) (As := [.int (-1000000004)]) cx hYX6_finds gX6_bears_X6_finds (c_X6_finds l E a c (h.1, s1, h.2.2.1, h.2.2.2.1, h.2.2.2.2.1, h.2.2.2.2.2.1, h.2.2.2.2.2.2) (-1000000004) (by unfold vp_in; decide +kernel)) rfl rfl rfl ⟨Nat.le_of_ble_eq_true rfl, Nat.le_of_ble_eq_true rfl⟩ rfl rfl (Nat.le_of_ble_eq_true rfl) ⟨Nat.le_of_ble_eq_true rfl, Nat.le_of_ble_eq_true rfl⟩ dX6_bears_98 (fun r w1 hp => ?_)
              obtain ⟨rfl, rfl⟩ := hp
              refine g_goto (tgt := 106) cx dX6_bears_101 (by decide) ?_
              exact g_iret cx gr (Nat.zero_le _) (Nat.zero_le _) dX6_bears_106 (mleaf (by rw [sp_bears, if_neg c_1, if_neg c_2, hNc]; exact fo_n hf c_4 (by rw [show k = 0 from brs_0 hx hk c_3]; rfl)))
          · refine g_iload cx dX6_bears_45 4 rfl ?_
            refine g_if_ge (tgt := 83) cx dX6_bears_47 (by decide) (fun c_5 => ?_) (fun c_5 => ?_)
            · refine g_aload_n cx dX6_bears_83 0 rfl ?_
              refine g_get (C := RX6) (T := TX6) (N := 16) (v := .ref (a 1)) cx iwX6_bears_X6 0 0 rfl rfl (by decide) lkX6_bears_7 rfl dX6_bears_84 ?_
              refine g_iconst (v := 5) cx dX6_bears_87 (by decide) ?_
              refine g_iload_n cx dX6_bears_88 3 rfl ?_
              refine g_iast (ws' := (mW E a c (h.1, s1, h.2.2.1, h.2.2.2.1, h.2.2.2.2.1, h.2.2.2.2.2.1, h.2.2.2.2.2.2))) cx 1 rfl rfl (by first | assumption | (unfold vp_in; decide +kernel)) dX6_bears_89 (congrArg (fun f => List.set (mW E a ((c.1.1, c.1.2.1, c.1.2.2.1, c.1.2.2.2.1, c.1.2.2.2.2.1, z, c.1.2.2.2.2.2.2.1, c.1.2.2.2.2.2.2.2.1, c.1.2.2.2.2.2.2.2.2.1, c.1.2.2.2.2.2.2.2.2.2.1, c.1.2.2.2.2.2.2.2.2.2.2), c.2.1, c.2.2.1, c.2.2.2.1, c.2.2.2.2.1, c.2.2.2.2.2.1, c.2.2.2.2.2.2.1, c.2.2.2.2.2.2.2.1, c.2.2.2.2.2.2.2.2) (h.1, s1, h.2.2.1, h.2.2.2.1, h.2.2.2.2.1, h.2.2.2.2.2.1, h.2.2.2.2.2.2)) 1 (a 1, .inl (gI E, 39, .inl f))) (eu_5 (c.1.1, c.1.2.1, c.1.2.2.1, c.1.2.2.2.1, c.1.2.2.2.2.1, z, c.1.2.2.2.2.2.2.1, c.1.2.2.2.2.2.2.2.1, c.1.2.2.2.2.2.2.2.2.1, c.1.2.2.2.2.2.2.2.2.2.1, c.1.2.2.2.2.2.2.2.2.2.2) c.1.2.2.2.2.2.1)) ?_
              refine g_iload cx dX6_bears_90 4 rfl ?_
              refine g_if_ge (tgt := 104) cx dX6_bears_92 (by decide) (fun c_6 => ?_) (fun c_6 => absurd (c_5) c_6)
              refine g_iload cx dX6_bears_104 4 rfl ?_
              exact g_iret cx gr (Nat.zero_le _) (Nat.zero_le _) dX6_bears_106 (mleaf (by rw [sp_bears, if_neg c_1, if_neg c_2, hNc]; exact fo_k hf c_6))
            · obtain ⟨j, rfl⟩ : ∃ j, k = j + 1 := by
                rcases k with _ | k
                · exact absurd (by rw [hx]; decide) c_3
                · exact ⟨k, rfl⟩
              have hxj : x = nI j := by rw [hx, nI_pred]
              refine g_aload_n cx dX6_bears_50 0 rfl ?_
              refine g_get (C := RX6) (T := TX6) (N := 16) (v := .ref (a 1)) cx iwX6_bears_X6 0 0 rfl rfl (by decide) lkX6_bears_7 rfl dX6_bears_51 ?_
              refine g_iconst (v := 5) cx dX6_bears_54 (by decide) ?_
              refine g_iload cx dX6_bears_55 5 rfl ?_
              refine g_iast (ws' := (mW E a ((c.1.1, c.1.2.1, c.1.2.2.1, c.1.2.2.2.1, c.1.2.2.2.2.1, x, c.1.2.2.2.2.2.2.1, c.1.2.2.2.2.2.2.2.1, c.1.2.2.2.2.2.2.2.2.1, c.1.2.2.2.2.2.2.2.2.2.1, c.1.2.2.2.2.2.2.2.2.2.2), c.2.1, c.2.2.1, c.2.2.2.1, c.2.2.2.2.1, c.2.2.2.2.2.1, c.2.2.2.2.2.2.1, c.2.2.2.2.2.2.2.1, c.2.2.2.2.2.2.2.2) (h.1, s1, h.2.2.1, h.2.2.2.1, h.2.2.2.2.1, h.2.2.2.2.2.1, h.2.2.2.2.2.2))) cx 1 rfl rfl (by first | assumption | (unfold vp_in; decide +kernel)) dX6_bears_57 (congrArg (fun f => List.set (mW E a ((c.1.1, c.1.2.1, c.1.2.2.1, c.1.2.2.2.1, c.1.2.2.2.2.1, z, c.1.2.2.2.2.2.2.1, c.1.2.2.2.2.2.2.2.1, c.1.2.2.2.2.2.2.2.2.1, c.1.2.2.2.2.2.2.2.2.2.1, c.1.2.2.2.2.2.2.2.2.2.2), c.2.1, c.2.2.1, c.2.2.2.1, c.2.2.2.2.1, c.2.2.2.2.2.1, c.2.2.2.2.2.2.1, c.2.2.2.2.2.2.2.1, c.2.2.2.2.2.2.2.2) (h.1, s1, h.2.2.1, h.2.2.2.1, h.2.2.2.2.1, h.2.2.2.2.2.1, h.2.2.2.2.2.2)) 1 (a 1, .inl (gI E, 39, .inl f))) (eu_5 (c.1.1, c.1.2.1, c.1.2.2.1, c.1.2.2.2.1, c.1.2.2.2.2.1, z, c.1.2.2.2.2.2.2.1, c.1.2.2.2.2.2.2.2.1, c.1.2.2.2.2.2.2.2.2.1, c.1.2.2.2.2.2.2.2.2.2.1, c.1.2.2.2.2.2.2.2.2.2.2) x)) ?_
              refine g_aload_n cx dX6_bears_58 0 rfl ?_
              refine g_bipush (v := 6) cx dX6_bears_59 (by decide) ?_
              refine g_iload_n cx dX6_bears_61 1 rfl ?_
              refine g_VSi (rest := []) (As := [.int 6, .int (nI N)]) cx hYX6_behind gX6_bears_X6_behind (c_X6_behind l E a ((c.1.1, c.1.2.1, c.1.2.2.1, c.1.2.2.2.1, c.1.2.2.2.2.1, x, c.1.2.2.2.2.2.2.1, c.1.2.2.2.2.2.2.2.1, c.1.2.2.2.2.2.2.2.2.1, c.1.2.2.2.2.2.2.2.2.2.1, c.1.2.2.2.2.2.2.2.2.2.2), c.2.1, c.2.2.1, c.2.2.2.1, c.2.2.2.2.1, c.2.2.2.2.2.1, c.2.2.2.2.2.2.1, c.2.2.2.2.2.2.2.1, c.2.2.2.2.2.2.2.2) (h.1, s1, h.2.2.1, h.2.2.2.1, h.2.2.2.2.1, h.2.2.2.2.2.1, h.2.2.2.2.2.2) 6 N hok.1.1 (by omega) (by unfold vp_in; decide +kernel)) rfl rfl rfl ⟨Nat.le_of_ble_eq_true rfl, Nat.le_of_ble_eq_true rfl⟩ rfl rfl (Nat.le_of_ble_eq_true rfl) ⟨Nat.le_of_ble_eq_true rfl, Nat.le_of_ble_eq_true rfl⟩ dX6_bears_62 (fun r w1 hp => ?_)
              obtain ⟨rfl, rfl⟩ := hp
              refine g_iload_n cx dX6_bears_65 2 rfl ?_
              refine g_icmp_lt (tgt := 74) cx dX6_bears_66 (by decide) (fun c_7 => ?_) (fun c_7 => ?_)
              · refine g_iconst (v := (-1)) cx dX6_bears_74 (by decide) ?_
                refine g_istore (lv' := [(4, .int (-1)), (0, .ref (a 0)), (1, .int (nI N)), (2, .int v0), (3, .int c.1.2.2.2.2.2.1), (5, .int x)]) cx dX6_bears_75 (by decide) rfl ?_
                refine g_iinc (v := x + (-1)) (lv' := [(5, .int (x + (-1))), (4, .int (-1)), (0, .ref (a 0)), (1, .int (nI N)), (2, .int v0), (3, .int c.1.2.2.2.2.2.1)]) cx dX6_bears_77 5 rfl rfl (by decide) rfl ?_
                refine g_goto (tgt := 40) cx dX6_bears_80 (by decide) ?_
                exact g_lv [2, 3, 4, 5, 1, 0] rfl (ih j (x + (-1)) (-1) x (c.1.1, c.1.2.1, c.1.2.2.1, c.1.2.2.2.1, c.1.2.2.2.2.1, x, c.1.2.2.2.2.2.2.1, c.1.2.2.2.2.2.2.2.1, c.1.2.2.2.2.2.2.2.2.1, c.1.2.2.2.2.2.2.2.2.2.1, c.1.2.2.2.2.2.2.2.2.2.2) (by omega) (by omega) (by rw [hxj]; exact sub1 j) (Or.inl ⟨rfl, by rw [fo_l hf c_5, brst, if_neg (by rw [beB, put_5, ← hxj, decide_eq_true_eq]; exact fun q => absurd c_7 (Int32.not_lt.mpr q))]⟩))
              · refine g_iload cx dX6_bears_69 5 rfl ?_
                refine g_goto (tgt := 75) cx dX6_bears_71 (by decide) ?_
                refine g_istore (lv' := [(4, .int x), (0, .ref (a 0)), (1, .int (nI N)), (2, .int v0), (3, .int c.1.2.2.2.2.2.1), (5, .int x)]) cx dX6_bears_75 (by decide) rfl ?_
                refine g_iinc (v := x + (-1)) (lv' := [(5, .int (x + (-1))), (4, .int x), (0, .ref (a 0)), (1, .int (nI N)), (2, .int v0), (3, .int c.1.2.2.2.2.2.1)]) cx dX6_bears_77 5 rfl rfl (by decide) rfl ?_
                refine g_goto (tgt := 40) cx dX6_bears_80 (by decide) ?_
                exact g_lv [2, 3, 4, 5, 1, 0] rfl (ih j (x + (-1)) x x (c.1.1, c.1.2.1, c.1.2.2.1, c.1.2.2.2.1, c.1.2.2.2.2.1, x, c.1.2.2.2.2.2.2.1, c.1.2.2.2.2.2.2.2.1, c.1.2.2.2.2.2.2.2.2.1, c.1.2.2.2.2.2.2.2.2.2.1, c.1.2.2.2.2.2.2.2.2.2.2) (by omega) (by omega) (by rw [hxj]; exact sub1 j) (Or.inr ⟨by rw [hxj]; exact nI_pos' (by omega), by rw [fo_l hf c_5, brst, if_pos (by rw [beB, put_5, ← hxj, decide_eq_true_eq]; exact Int32.not_lt.mp c_7), hxj]⟩))
      exact g_lv [3, 4, 5, 2, 1, 0] rfl (LP40 101 100 99 (-1) _ _ (by omega) (by omega) (by decide) (Or.inl ⟨rfl, rfl⟩))
    · refine g_aload_n cx dX6_bears_19 0 rfl ?_
      refine g_ldc cx m1X6_bears_c45 dX6_bears_20 ?_
      refine g_VSi (rest := []) (As := [.int (-1000000001)]) cx hYX6_finds gX6_bears_X6_finds (c_X6_finds l E a c h (-1000000001) (by unfold vp_in; decide +kernel)) rfl rfl rfl ⟨Nat.le_of_ble_eq_true rfl, Nat.le_of_ble_eq_true rfl⟩ rfl rfl (Nat.le_of_ble_eq_true rfl) ⟨Nat.le_of_ble_eq_true rfl, Nat.le_of_ble_eq_true rfl⟩ dX6_bears_22 (fun r w1 hp => ?_)
      obtain ⟨rfl, rfl⟩ := hp
      exact g_iret cx gr (Nat.zero_le _) (Nat.zero_le _) dX6_bears_25 (mleaf (by first | (simp only [sp_bears, tKind, tMood, tPen, tAte, tHour, tTray, tAt, tRang, tCrack, tTak, tWay, cB, c_1, c_2, if_true, if_false]; done) | (simp only [sp_bears, tKind, tMood, tPen, tAte, tHour, tTray, tAt, tRang, tCrack, tTak, tWay, cB, c_1, c_2, if_true, if_false] <;> rfl) | (simp [sp_bears, tKind, tMood, tPen, tAte, tHour, tTray, tAt, tRang, tCrack, tTak, tWay, cB, c_1, c_2] <;> rfl)))

abbrev rmX6_saddest : Room := { frames := 7, cells := 0, slots := 0, locals := 158 }
theorem hYX6_saddest : gY yX6_saddest wsX6_saddest cX6_saddest 4 (some .int) 1 := ⟨⟨_, rfl⟩, by decide +kernel, by decide +kernel, by decide +kernel⟩
theorem m1X6_saddest_c45 : Cond.constant RX6 45 (-1000000001) ∈ wsX6_saddest := by decide +kernel
set_option maxRecDepth 100000 in
set_option maxHeartbeats 4000000 in
theorem c_X6_saddest (l : Launch) (E : gE) (a : Nat → Nat) (c : Cor) (h : Mar) (n0 : Int32) (hok : cOk c) : cti l yX6_saddest wsX6_saddest rmX6_saddest E [.ref (a 0), .int n0] (mW E a c h) (fun r w => ∃ h', r = (sp_saddest c n0).1 ∧ w = mW E a (sp_saddest c n0).2 h') := by
  refine mt_i (cc := cX6_saddest) (maxL := 4) (ret := some .int) (lv0 := [(0, .ref (a 0)), (1, .int n0)]) (by decide) rfl rfl (Nat.le_of_ble_eq_true rfl) (fun X cx gr hI => ?_)
  refine g_iload_n cx dX6_saddest_0 1 rfl ?_
  refine g_SPi (rest := []) (As := [.int n0]) cx hYX6_isAhead gX6_saddest_X6_isAhead (c_X6_isAhead l E n0 ) ⟨Nat.le_of_ble_eq_true rfl, Nat.le_of_ble_eq_true rfl⟩ rfl rfl (Nat.le_of_ble_eq_true rfl) ⟨Nat.le_of_ble_eq_true rfl, Nat.le_of_ble_eq_true rfl⟩ dX6_saddest_1 ?_
  refine g_if_ne (tgt := 14) cx dX6_saddest_4 (by decide) (fun c_1 => ?_) (fun c_1 => ?_)
  · obtain ⟨N, hN, rfl⟩ := isW_nI 200 c_1 (by decide)
    have hNc : (nI N).toNatClampNeg = N := nI_clamp (by omega)
    refine g_aload_n cx dX6_saddest_14 0 rfl ?_
    refine g_VSv (rest := []) (As := []) cx hYX6_laysAside gX6_saddest_X6_laysAside (c_X6_laysAside l E a c h  ) rfl rfl rfl ⟨Nat.le_of_ble_eq_true rfl, Nat.le_of_ble_eq_true rfl⟩ rfl rfl (Nat.le_of_ble_eq_true rfl) ⟨Nat.le_of_ble_eq_true rfl, Nat.le_of_ble_eq_true rfl⟩ dX6_saddest_15 (fun w1 hp => ?_)
    obtain rfl := hp
    refine g_aload_n cx dX6_saddest_18 0 rfl ?_
    refine g_iload_n cx dX6_saddest_19 1 rfl ?_
    refine g_VSv (rest := []) (As := [.int (nI N)]) cx hYX6_hoursGo gX6_saddest_X6_hoursGo (c_X6_hoursGo l E a c (h.1, c.1, h.2.2.1, h.2.2.2.1, h.2.2.2.2.1, h.2.2.2.2.2.1, h.2.2.2.2.2.2) N hok.1.1 (by omega)) rfl rfl rfl ⟨Nat.le_of_ble_eq_true rfl, Nat.le_of_ble_eq_true rfl⟩ rfl rfl (Nat.le_of_ble_eq_true rfl) ⟨Nat.le_of_ble_eq_true rfl, Nat.le_of_ble_eq_true rfl⟩ dX6_saddest_20 (fun w1 hp => ?_)
    obtain rfl := hp
    refine g_iconst (v := 0) cx dX6_saddest_23 (by decide) ?_
    refine g_istore_n (lv' := [(2, .int 0), (0, .ref (a 0)), (1, .int (nI N))]) cx dX6_saddest_24 (by decide) rfl ?_
    refine g_iconst (v := 1) cx dX6_saddest_25 (by decide) ?_
    refine g_istore_n (lv' := [(3, .int 1), (2, .int 0), (0, .ref (a 0)), (1, .int (nI N))]) cx dX6_saddest_26 (by decide) rfl ?_
    have LP27 : ∀ (d : Nat) (i : Nat) (x : Int32) (y : Int32) (q : Nat), i + d = 9 → i ≤ 8 → 1 ≤ i → x = nI i → y = nI q → q < 8 → sadL (goHs N c.1).2.2.2.2.2.2.2.2.1 7 1 0 = sadL (goHs N c.1).2.2.2.2.2.2.2.2.1 (8 - i) i q → gG X 0 0 (mW E a ((goHs N c.1), c.2.1, c.2.2.1, c.2.2.2.1, c.2.2.2.2.1, c.2.2.2.2.2.1, c.2.2.2.2.2.2.1, c.2.2.2.2.2.2.2.1, c.2.2.2.2.2.2.2.2) (h.1, c.1, h.2.2.1, h.2.2.2.1, h.2.2.2.2.1, h.2.2.2.2.2.1, h.2.2.2.2.2.2)) 27 [(0, .ref (a 0)), (2, .int y), (3, .int x)] [] := by
      intro d
      induction d with
      | zero =>
        intro i x y q hi hiN hi1 hx hy hq hs
        omega
      | succ d ih =>
        intro i x y q hi hiN hi1 hx hy hq hs
        refine g_iload_n cx dX6_saddest_27 2 rfl ?_
        refine g_bipush (v := 8) cx dX6_saddest_28 (by decide) ?_
        refine g_icmp_ge (tgt := 60) cx dX6_saddest_30 (by decide) (fun c_2 => ?_) (fun c_2 => ?_)
        · refine g_aload_n cx dX6_saddest_60 0 rfl ?_
          refine g_iload_n cx dX6_saddest_61 1 rfl ?_
          refine g_VSi (rest := []) (As := [.int y]) cx hYX6_takesBack gX6_saddest_X6_takesBack (c_X6_takesBack l E a ((goHs N c.1), c.2.1, c.2.2.1, c.2.2.2.1, c.2.2.2.2.1, c.2.2.2.2.2.1, c.2.2.2.2.2.2.1, c.2.2.2.2.2.2.2.1, c.2.2.2.2.2.2.2.2) (h.1, c.1, h.2.2.1, h.2.2.2.1, h.2.2.2.2.1, h.2.2.2.2.2.1, h.2.2.2.2.2.2) y ) rfl rfl rfl ⟨Nat.le_of_ble_eq_true rfl, Nat.le_of_ble_eq_true rfl⟩ rfl rfl (Nat.le_of_ble_eq_true rfl) ⟨Nat.le_of_ble_eq_true rfl, Nat.le_of_ble_eq_true rfl⟩ dX6_saddest_62 (fun r w1 hp => ?_)
          obtain ⟨hr, rfl⟩ := hp
          rw [hr]
          exact g_iret cx gr (Nat.zero_le _) (Nat.zero_le _) dX6_saddest_65 (mleaf (by rw [sp_saddest, if_neg c_1, hNc, hs, show 8 - i = 0 by have := ge_of 8 hx c_2 (by omega) (by decide); omega, hy]; rfl))
        · refine g_aload_n cx dX6_saddest_33 0 rfl ?_
          refine g_iload_n cx dX6_saddest_34 2 rfl ?_
          refine g_iconst (v := 1) cx dX6_saddest_35 (by decide) ?_
          refine g_VSi (rest := []) (As := [.int x, .int 1]) cx hYX6_its gX6_saddest_X6_its (c_X6_its1 l E a ((goHs N c.1), c.2.1, c.2.2.1, c.2.2.2.1, c.2.2.2.2.1, c.2.2.2.2.2.1, c.2.2.2.2.2.2.1, c.2.2.2.2.2.2.2.1, c.2.2.2.2.2.2.2.2) (h.1, c.1, h.2.2.1, h.2.2.2.1, h.2.2.2.2.1, h.2.2.2.2.2.1, h.2.2.2.2.2.2) x (vp_of_nI hx (lt_of 8 hx c_2 (by omega) (by decide)) (by decide))) rfl rfl rfl ⟨Nat.le_of_ble_eq_true rfl, Nat.le_of_ble_eq_true rfl⟩ rfl rfl (Nat.le_of_ble_eq_true rfl) ⟨Nat.le_of_ble_eq_true rfl, Nat.le_of_ble_eq_true rfl⟩ dX6_saddest_36 (fun r w1 hp => ?_)
          obtain ⟨rfl, rfl⟩ := hp
          refine g_aload_n cx dX6_saddest_39 0 rfl ?_
          refine g_iload_n cx dX6_saddest_40 1 rfl ?_
          refine g_iconst (v := 1) cx dX6_saddest_41 (by decide) ?_
          refine g_VSi (rest := [.int (((goHs N c.1).2.2.2.2.2.2.2.2.1) x.toNatClampNeg)]) (As := [.int y, .int 1]) cx hYX6_its gX6_saddest_X6_its (c_X6_its1 l E a ((goHs N c.1), c.2.1, c.2.2.1, c.2.2.2.1, c.2.2.2.2.1, c.2.2.2.2.2.1, c.2.2.2.2.2.2.1, c.2.2.2.2.2.2.2.1, c.2.2.2.2.2.2.2.2) (h.1, c.1, h.2.2.1, h.2.2.2.1, h.2.2.2.2.1, h.2.2.2.2.2.1, h.2.2.2.2.2.2) y (vp_of_nI hy hq (by decide))) rfl rfl rfl ⟨Nat.le_of_ble_eq_true rfl, Nat.le_of_ble_eq_true rfl⟩ rfl rfl (Nat.le_of_ble_eq_true rfl) ⟨Nat.le_of_ble_eq_true rfl, Nat.le_of_ble_eq_true rfl⟩ dX6_saddest_42 (fun r w1 hp => ?_)
          obtain ⟨rfl, rfl⟩ := hp
          refine g_icmp_ge (tgt := 52) cx dX6_saddest_45 (by decide) (fun c_3 => ?_) (fun c_3 => ?_)
          · refine g_iload_n cx dX6_saddest_52 1 rfl ?_
            refine g_istore_n (lv' := [(2, .int y), (0, .ref (a 0)), (3, .int x)]) cx dX6_saddest_53 (by decide) rfl ?_
            refine g_iinc (v := x + 1) (lv' := [(3, .int (x + 1)), (2, .int y), (0, .ref (a 0))]) cx dX6_saddest_54 2 rfl rfl (by decide) rfl ?_
            refine g_goto (tgt := 27) cx dX6_saddest_57 (by decide) ?_
            exact g_lv [2, 1, 0] rfl (ih (i + 1) (x + 1) y q (by omega) (by have := (lt_of 8 hx c_2 (by omega) (by decide)); omega) (by omega) (by rw [hx]; exact nI_1 i) hy hq (by rw [hs, show 8 - i = (8 - (i + 1)) + 1 by have := (lt_of 8 hx c_2 (by omega) (by decide)); omega, sadL, if_pos (by rw [hx, hy, nI_clamp (by omega), nI_clamp (by omega)] at c_3; exact c_3)]))
          · refine g_iload_n cx dX6_saddest_48 2 rfl ?_
            refine g_goto (tgt := 53) cx dX6_saddest_49 (by decide) ?_
            refine g_istore_n (lv' := [(2, .int x), (0, .ref (a 0)), (3, .int x)]) cx dX6_saddest_53 (by decide) rfl ?_
            refine g_iinc (v := x + 1) (lv' := [(3, .int (x + 1)), (2, .int x), (0, .ref (a 0))]) cx dX6_saddest_54 2 rfl rfl (by decide) rfl ?_
            refine g_goto (tgt := 27) cx dX6_saddest_57 (by decide) ?_
            exact g_lv [2, 1, 0] rfl (ih (i + 1) (x + 1) x i (by omega) (by have := (lt_of 8 hx c_2 (by omega) (by decide)); omega) (by omega) (by rw [hx]; exact nI_1 i) hx (lt_of 8 hx c_2 (by omega) (by decide)) (by rw [hs, show 8 - i = (8 - (i + 1)) + 1 by have := (lt_of 8 hx c_2 (by omega) (by decide)); omega, sadL, if_neg (by rw [hx, hy, nI_clamp (by omega), nI_clamp (by omega)] at c_3; exact c_3)]))
    exact g_lv [2, 1, 0] rfl (LP27 8 1 1 0 0 (by omega) (by omega) (by omega) rfl rfl (by omega) rfl)
  · refine g_aload_n cx dX6_saddest_7 0 rfl ?_
    refine g_ldc cx m1X6_saddest_c45 dX6_saddest_8 ?_
    refine g_VSi (rest := []) (As := [.int (-1000000001)]) cx hYX6_finds gX6_saddest_X6_finds (c_X6_finds l E a c h (-1000000001) (by unfold vp_in; decide +kernel)) rfl rfl rfl ⟨Nat.le_of_ble_eq_true rfl, Nat.le_of_ble_eq_true rfl⟩ rfl rfl (Nat.le_of_ble_eq_true rfl) ⟨Nat.le_of_ble_eq_true rfl, Nat.le_of_ble_eq_true rfl⟩ dX6_saddest_10 (fun r w1 hp => ?_)
    obtain ⟨rfl, rfl⟩ := hp
    exact g_iret cx gr (Nat.zero_le _) (Nat.zero_le _) dX6_saddest_13 (mleaf (by first | (simp only [sp_saddest, tKind, tMood, tPen, tAte, tHour, tTray, tAt, tRang, tCrack, tTak, tWay, cB, c_1, if_true, if_false]; done) | (simp only [sp_saddest, tKind, tMood, tPen, tAte, tHour, tTray, tAt, tRang, tCrack, tTak, tWay, cB, c_1, if_true, if_false] <;> rfl) | (simp [sp_saddest, tKind, tMood, tPen, tAte, tHour, tTray, tAt, tRang, tCrack, tTak, tWay, cB, c_1] <;> rfl)))

abbrev rmX6_swap : Room := { frames := 8, cells := 0, slots := 0, locals := 179 }
theorem hYX6_swap : gY yX6_swap wsX6_swap cX6_swap 7 (some .int) 1 := ⟨⟨_, rfl⟩, by decide +kernel, by decide +kernel, by decide +kernel⟩
theorem m1X6_swap_c158 : Cond.constant RX6 158 (-1000000004) ∈ wsX6_swap := by decide +kernel
theorem m1X6_swap_c45 : Cond.constant RX6 45 (-1000000001) ∈ wsX6_swap := by decide +kernel
set_option maxRecDepth 100000 in
set_option maxHeartbeats 4000000 in
theorem c_X6_swap (l : Launch) (E : gE) (a : Nat → Nat) (c : Cor) (h : Mar) (n0 : Int32) (hok : cOk c) : cti l yX6_swap wsX6_swap rmX6_swap E [.ref (a 0), .int n0] (mW E a c h) (fun r w => ∃ h', r = (sp_swap c n0).1 ∧ w = mW E a (sp_swap c n0).2 h') := by
  refine mt_i (cc := cX6_swap) (maxL := 7) (ret := some .int) (lv0 := [(0, .ref (a 0)), (1, .int n0)]) (by decide) rfl rfl (Nat.le_of_ble_eq_true rfl) (fun X cx gr hI => ?_)
  refine g_iload_n cx dX6_swap_0 1 rfl ?_
  refine g_SPi (rest := []) (As := [.int n0]) cx hYX6_isSoon gX6_swap_X6_isSoon (c_X6_isSoon l E n0 ) ⟨Nat.le_of_ble_eq_true rfl, Nat.le_of_ble_eq_true rfl⟩ rfl rfl (Nat.le_of_ble_eq_true rfl) ⟨Nat.le_of_ble_eq_true rfl, Nat.le_of_ble_eq_true rfl⟩ dX6_swap_1 ?_
  refine g_if_ne (tgt := 14) cx dX6_swap_4 (by decide) (fun c_1 => ?_) (fun c_1 => ?_)
  · obtain ⟨N, hN1, hN, rfl⟩ := isW_nI1 60 c_1 (by decide)
    have hNc : (nI N).toNatClampNeg = N := nI_clamp (by omega)
    refine g_iconst (v := (-1)) cx dX6_swap_14 (by decide) ?_
    refine g_istore_n (lv' := [(2, .int (-1)), (0, .ref (a 0)), (1, .int (nI N))]) cx dX6_swap_15 (by decide) rfl ?_
    refine g_aload_n cx dX6_swap_16 1 rfl ?_
    refine g_iload_n cx dX6_swap_17 2 rfl ?_
    refine g_VSi (rest := []) (As := [.int (nI N)]) cx hYX6_moodsIn gX6_swap_X6_moodsIn (c_X6_moodsIn l E a c h N hok.1.1 (by omega)) rfl rfl rfl ⟨Nat.le_of_ble_eq_true rfl, Nat.le_of_ble_eq_true rfl⟩ rfl rfl (Nat.le_of_ble_eq_true rfl) ⟨Nat.le_of_ble_eq_true rfl, Nat.le_of_ble_eq_true rfl⟩ dX6_swap_18 (fun r w1 hp => ?_)
    obtain ⟨rfl, rfl⟩ := hp
    refine g_istore_n (lv' := [(3, .int (sumN (goHs N c.1).2.2.2.2.2.2.2.2.1 8)), (2, .int (-1)), (0, .ref (a 0)), (1, .int (nI N))]) cx dX6_swap_21 (by decide) rfl ?_
    refine g_iconst (v := 0) cx dX6_swap_22 (by decide) ?_
    refine g_istore (lv' := [(4, .int 0), (3, .int (sumN (goHs N c.1).2.2.2.2.2.2.2.2.1 8)), (2, .int (-1)), (0, .ref (a 0)), (1, .int (nI N))]) cx dX6_swap_23 (by decide) rfl ?_
    have LP25 : ∀ (d1 : Nat) (i : Nat) (x : Int32) (b : Int32) (y : Int32) (s1 : Ter), i + d1 = 9 → i ≤ 8 → x = nI i → swO c.1 N 8 0 (-1, sumN (goHs N c.1).2.2.2.2.2.2.2.2.1 8) = swO c.1 N (8 - i) i (b, y) → gG X 0 0 (mW E a c (h.1, s1, h.2.2.1, h.2.2.2.1, h.2.2.2.2.1, h.2.2.2.2.2.1, h.2.2.2.2.2.2)) 25 [(0, .ref (a 0)), (1, .int (nI N)), (2, .int b), (3, .int y), (4, .int x)] [] := by
      intro d1
      induction d1 with
      | zero =>
        intro i x b y s1 hi hiN hx hs
        omega
      | succ d1 ih1 =>
        intro i x b y s1 hi hiN hx hs
        refine g_iload cx dX6_swap_25 4 rfl ?_
        refine g_bipush (v := 8) cx dX6_swap_27 (by decide) ?_
        refine g_icmp_ge (tgt := 112) cx dX6_swap_29 (by decide) (fun c_2 => ?_) (fun c_2 => ?_)
        · refine g_iload_n cx dX6_swap_112 2 rfl ?_
          refine g_if_ge (tgt := 125) cx dX6_swap_113 (by decide) (fun c_3 => ?_) (fun c_3 => ?_)
          · refine g_iload_n cx dX6_swap_125 2 rfl ?_
            exact g_iret cx gr (Nat.zero_le _) (Nat.zero_le _) dX6_swap_126 (mleaf (by rw [sp_swap, if_neg c_1, hNc]; show cN (swO c.1 N 8 0 (-1, sumN (goHs N c.1).2.2.2.2.2.2.2.2.1 8)).1 c = _; rw [hs, show 8 - i = 0 by have := ge_of 8 hx c_2 (by omega) (by decide); omega]; show cN b c = _; rw [cN, if_pos c_3]))
          · refine g_aload_n cx dX6_swap_116 0 rfl ?_
            refine g_ldc cx m1X6_swap_c158 dX6_swap_117 ?_
            refine g_VSi (rest := []) (As := [.int (-1000000004)]) cx hYX6_finds gX6_swap_X6_finds (c_X6_finds l E a c (h.1, s1, h.2.2.1, h.2.2.2.1, h.2.2.2.2.1, h.2.2.2.2.2.1, h.2.2.2.2.2.2) (-1000000004) (by unfold vp_in; decide +kernel)) rfl rfl rfl ⟨Nat.le_of_ble_eq_true rfl, Nat.le_of_ble_eq_true rfl⟩ rfl rfl (Nat.le_of_ble_eq_true rfl) ⟨Nat.le_of_ble_eq_true rfl, Nat.le_of_ble_eq_true rfl⟩ dX6_swap_119 (fun r w1 hp => ?_)
            obtain ⟨rfl, rfl⟩ := hp
            refine g_goto (tgt := 126) cx dX6_swap_122 (by decide) ?_
            exact g_iret cx gr (Nat.zero_le _) (Nat.zero_le _) dX6_swap_126 (mleaf (by rw [sp_swap, if_neg c_1, hNc]; show cN (swO c.1 N 8 0 (-1, sumN (goHs N c.1).2.2.2.2.2.2.2.2.1 8)).1 c = _; rw [hs, show 8 - i = 0 by have := ge_of 8 hx c_2 (by omega) (by decide); omega]; show cN b c = _; rw [cN, if_neg c_3]; rfl))
        · refine g_iload cx dX6_swap_32 4 rfl ?_
          refine g_iconst (v := 1) cx dX6_swap_34 (by decide) ?_
          refine g_iadd cx dX6_swap_35 ?_
          refine g_istore (lv' := [(5, .int (x + 1)), (0, .ref (a 0)), (1, .int (nI N)), (2, .int b), (3, .int y), (4, .int x)]) cx dX6_swap_36 (by decide) rfl ?_
          have LP38 : ∀ (d2 : Nat) (j : Nat) (z : Int32) (b2 : Int32) (y2 : Int32) (s2 : Ter), j + d2 = 9 → j ≤ 8 → i < j → z = nI j → swO c.1 N 8 0 (-1, sumN (goHs N c.1).2.2.2.2.2.2.2.2.1 8) = swO c.1 N (7 - i) (i + 1) (swI c.1 N i (8 - j) j (b2, y2)) → gG X 0 0 (mW E a c (h.1, s2, h.2.2.1, h.2.2.2.1, h.2.2.2.2.1, h.2.2.2.2.2.1, h.2.2.2.2.2.2)) 38 [(0, .ref (a 0)), (1, .int (nI N)), (2, .int b2), (3, .int y2), (4, .int x), (5, .int z)] [] := by
            intro d2
            induction d2 with
            | zero =>
              intro j z b2 y2 s2 hj hjN hij hz hs2
              omega
            | succ d2 ih2 =>
              intro j z b2 y2 s2 hj hjN hij hz hs2
              have hi8 := lt_of 8 hx c_2 (by omega) (by decide)
              refine g_iload cx dX6_swap_38 5 rfl ?_
              refine g_bipush (v := 8) cx dX6_swap_40 (by decide) ?_
              refine g_icmp_ge (tgt := 106) cx dX6_swap_42 (by decide) (fun c_4 => ?_) (fun c_4 => ?_)
              · refine g_iinc (v := x + 1) (lv' := [(4, .int (x + 1)), (0, .ref (a 0)), (1, .int (nI N)), (2, .int b2), (3, .int y2), (5, .int z)]) cx dX6_swap_106 4 rfl rfl (by decide) rfl ?_
                refine g_goto (tgt := 25) cx dX6_swap_109 (by decide) ?_
                exact g_lv [1, 2, 3, 4, 0] rfl (ih1 (i + 1) (x + 1) b2 y2 s2 (by omega) (by omega) (by rw [hx]; exact nI_1 i) (by rw [hs2, show 8 - j = 0 by have := ge_of 8 hz c_4 (by omega) (by decide); omega, show 7 - i = 8 - (i + 1) by omega]; rfl))
              · refine g_aload_n cx dX6_swap_45 0 rfl ?_
                refine g_iload cx dX6_swap_46 4 rfl ?_
                refine g_iload cx dX6_swap_48 5 rfl ?_
                refine g_VSv (rest := []) (As := [.int x, .int z]) cx hYX6_moves gX6_swap_X6_moves (c_X6_moves l E a c (h.1, s2, h.2.2.1, h.2.2.2.1, h.2.2.2.2.1, h.2.2.2.2.2.1, h.2.2.2.2.2.2) x z (vp_of_nI hx hi8 (by decide)) (vp_of_nI hz (lt_of 8 hz c_4 (by omega) (by decide)) (by decide)) (by rw [hx, hz, nI_eq (by omega) (by omega)]; omega)) rfl rfl rfl ⟨Nat.le_of_ble_eq_true rfl, Nat.le_of_ble_eq_true rfl⟩ rfl rfl (Nat.le_of_ble_eq_true rfl) ⟨Nat.le_of_ble_eq_true rfl, Nat.le_of_ble_eq_true rfl⟩ dX6_swap_50 (fun w1 hp => ?_)
                obtain rfl := hp
                refine g_aload_n cx dX6_swap_53 0 rfl ?_
                refine g_iload_n cx dX6_swap_54 1 rfl ?_
                refine g_VSi (rest := []) (As := [.int (nI N)]) cx hYX6_moodsIn gX6_swap_X6_moodsIn (c_X6_moodsIn l E a ((chFam c.1 x z), c.2.1, c.2.2.1, c.2.2.2.1, c.2.2.2.2.1, c.2.2.2.2.2.1, c.2.2.2.2.2.2.1, c.2.2.2.2.2.2.2.1, c.2.2.2.2.2.2.2.2) (h.1, s2, h.2.2.1, h.2.2.2.1, h.2.2.2.2.1, h.2.2.2.2.2.1, h.2.2.2.2.2.2) N hok.1.1 (by omega)) rfl rfl rfl ⟨Nat.le_of_ble_eq_true rfl, Nat.le_of_ble_eq_true rfl⟩ rfl rfl (Nat.le_of_ble_eq_true rfl) ⟨Nat.le_of_ble_eq_true rfl, Nat.le_of_ble_eq_true rfl⟩ dX6_swap_55 (fun r w1 hp => ?_)
                obtain ⟨rfl, rfl⟩ := hp
                refine g_istore (lv' := [(6, .int (sumN (goHs N (chFam c.1 x z)).2.2.2.2.2.2.2.2.1 8)), (0, .ref (a 0)), (1, .int (nI N)), (2, .int b2), (3, .int y2), (4, .int x), (5, .int z)]) cx dX6_swap_58 (by decide) rfl ?_
                refine g_aload_n cx dX6_swap_60 1 rfl ?_
                refine g_iload cx dX6_swap_61 5 rfl ?_
                refine g_iload cx dX6_swap_63 6 rfl ?_
                refine g_VSv (rest := []) (As := [.int x, .int z]) cx hYX6_moves gX6_swap_X6_moves (c_X6_moves l E a ((chFam c.1 x z), c.2.1, c.2.2.1, c.2.2.2.1, c.2.2.2.2.1, c.2.2.2.2.2.1, c.2.2.2.2.2.2.1, c.2.2.2.2.2.2.2.1, c.2.2.2.2.2.2.2.2) (h.1, (chFam c.1 x z), h.2.2.1, h.2.2.2.1, h.2.2.2.2.1, h.2.2.2.2.2.1, h.2.2.2.2.2.2) x z (vp_of_nI hx hi8 (by decide)) (vp_of_nI hz (lt_of 8 hz c_4 (by omega) (by decide)) (by decide)) (by rw [hx, hz, nI_eq (by omega) (by omega)]; omega)) rfl rfl rfl ⟨Nat.le_of_ble_eq_true rfl, Nat.le_of_ble_eq_true rfl⟩ rfl rfl (Nat.le_of_ble_eq_true rfl) ⟨Nat.le_of_ble_eq_true rfl, Nat.le_of_ble_eq_true rfl⟩ dX6_swap_65 (fun w1 hp => ?_)
                obtain rfl := hp
                refine g_w (ws' := (mW E a c (h.1, (chFam c.1 x z), h.2.2.1, h.2.2.2.1, h.2.2.2.2.1, h.2.2.2.2.2.1, h.2.2.2.2.2.2))) (congrArg (fun T : Ter => (mW E a (T, c.2.1, c.2.2.1, c.2.2.2.1, c.2.2.2.2.1, c.2.2.2.2.2.1, c.2.2.2.2.2.2.1, c.2.2.2.2.2.2.2.1, c.2.2.2.2.2.2.2.2) (h.1, (chFam c.1 x z), h.2.2.1, h.2.2.2.1, h.2.2.2.2.1, h.2.2.2.2.2.1, h.2.2.2.2.2.2))) (by rw [hx, hz]; exact ch_ch hi8 (lt_of 8 hz c_4 (by omega) (by decide)))) ?_
                refine g_iload cx dX6_swap_68 0 rfl ?_
                refine g_iload_n cx dX6_swap_70 4 rfl ?_
                refine g_icmp_le (tgt := 85) cx dX6_swap_71 (by decide) (fun c_5 => ?_) (fun c_5 => ?_)
                · refine g_iload_n cx dX6_swap_85 3 rfl ?_
                  refine g_istore_n (lv' := [(2, .int b2), (6, .int (sumN (goHs N (chFam c.1 x z)).2.2.2.2.2.2.2.2.1 8)), (0, .ref (a 0)), (1, .int (nI N)), (3, .int y2), (4, .int x), (5, .int z)]) cx dX6_swap_86 (by decide) rfl ?_
                  refine g_iload cx dX6_swap_87 1 rfl ?_
                  refine g_iload_n cx dX6_swap_89 4 rfl ?_
                  refine g_icmp_le (tgt := 98) cx dX6_swap_90 (by decide) (fun c_6 => ?_) (fun c_6 => absurd (c_5) c_6)
                  refine g_iload_n cx dX6_swap_98 4 rfl ?_
                  refine g_istore_n (lv' := [(3, .int y2), (2, .int b2), (6, .int (sumN (goHs N (chFam c.1 x z)).2.2.2.2.2.2.2.2.1 8)), (0, .ref (a 0)), (1, .int (nI N)), (4, .int x), (5, .int z)]) cx dX6_swap_99 (by decide) rfl ?_
                  refine g_iinc (v := z + 1) (lv' := [(5, .int (z + 1)), (3, .int y2), (2, .int b2), (6, .int (sumN (goHs N (chFam c.1 x z)).2.2.2.2.2.2.2.2.1 8)), (0, .ref (a 0)), (1, .int (nI N)), (4, .int x)]) cx dX6_swap_100 6 rfl rfl (by decide) rfl ?_
                  refine g_goto (tgt := 38) cx dX6_swap_103 (by decide) ?_
                  exact g_lv [4, 5, 2, 1, 6, 0] rfl (ih2 (j + 1) (z + 1) b2 y2 (chFam c.1 x z) (by omega) (by have := (lt_of 8 hz c_4 (by omega) (by decide)); omega) (by omega) (by rw [hz]; exact nI_1 j) (by rw [hs2, show 8 - j = (8 - (j + 1)) + 1 by have := (lt_of 8 hz c_4 (by omega) (by decide)); omega, swI, swS, if_pos (by rw [hx, hz] at c_5; exact c_5)]))
                · refine g_bipush (v := 10) cx dX6_swap_74 (by decide) ?_
                  refine g_iload cx dX6_swap_76 5 rfl ?_
                  refine g_imul cx dX6_swap_78 ?_
                  refine g_iload cx dX6_swap_79 6 rfl ?_
                  refine g_iadd cx dX6_swap_81 ?_
                  refine g_goto (tgt := 86) cx dX6_swap_82 (by decide) ?_
                  refine g_istore_n (lv' := [(2, .int ((10 * x) + z)), (6, .int (sumN (goHs N (chFam c.1 x z)).2.2.2.2.2.2.2.2.1 8)), (0, .ref (a 0)), (1, .int (nI N)), (3, .int y2), (4, .int x), (5, .int z)]) cx dX6_swap_86 (by decide) rfl ?_
                  refine g_iload cx dX6_swap_87 1 rfl ?_
                  refine g_iload_n cx dX6_swap_89 4 rfl ?_
                  refine g_icmp_le (tgt := 98) cx dX6_swap_90 (by decide) (fun c_7 => absurd c_7 (c_5)) (fun c_7 => ?_)
                  refine g_iload cx dX6_swap_93 1 rfl ?_
                  refine g_goto (tgt := 99) cx dX6_swap_95 (by decide) ?_
                  refine g_istore_n (lv' := [(3, .int (sumN (goHs N (chFam c.1 x z)).2.2.2.2.2.2.2.2.1 8)), (2, .int ((10 * x) + z)), (6, .int (sumN (goHs N (chFam c.1 x z)).2.2.2.2.2.2.2.2.1 8)), (0, .ref (a 0)), (1, .int (nI N)), (4, .int x), (5, .int z)]) cx dX6_swap_99 (by decide) rfl ?_
                  refine g_iinc (v := z + 1) (lv' := [(5, .int (z + 1)), (3, .int (sumN (goHs N (chFam c.1 x z)).2.2.2.2.2.2.2.2.1 8)), (2, .int ((10 * x) + z)), (6, .int (sumN (goHs N (chFam c.1 x z)).2.2.2.2.2.2.2.2.1 8)), (0, .ref (a 0)), (1, .int (nI N)), (4, .int x)]) cx dX6_swap_100 6 rfl rfl (by decide) rfl ?_
                  refine g_goto (tgt := 38) cx dX6_swap_103 (by decide) ?_
                  exact g_lv [4, 5, 2, 1, 6, 0] rfl (ih2 (j + 1) (z + 1) ((10 * x) + z) (sumN (goHs N (chFam c.1 x z)).2.2.2.2.2.2.2.2.1 8) (chFam c.1 x z) (by omega) (by have := (lt_of 8 hz c_4 (by omega) (by decide)); omega) (by omega) (by rw [hz]; exact nI_1 j) (by rw [hs2, show 8 - j = (8 - (j + 1)) + 1 by have := (lt_of 8 hz c_4 (by omega) (by decide)); omega, swI, swS, if_neg (by rw [hx, hz] at c_5; exact c_5), hx, hz]))
          have hi8 := lt_of 8 hx c_2 (by omega) (by decide)
          exact g_lv [1, 2, 3, 4, 5, 0] rfl (LP38 (8 - i) (i + 1) (x + 1) b y s1 (by omega) (by omega) (by omega) (by rw [hx]; exact nI_1 i) (by rw [hs, show 8 - i = (7 - i) + 1 by omega, swO, show 8 - (i + 1) = 7 - i by omega]))
    exact g_lv [3, 4, 2, 1, 0] rfl (LP25 9 0 0 (-1) _ _ (by omega) (by omega) rfl rfl)
  · refine g_aload_n cx dX6_swap_7 0 rfl ?_
    refine g_ldc cx m1X6_swap_c45 dX6_swap_8 ?_
    refine g_VSi (rest := []) (As := [.int (-1000000001)]) cx hYX6_finds gX6_swap_X6_finds (c_X6_finds l E a c h (-1000000001) (by unfold vp_in; decide +kernel)) rfl rfl rfl ⟨Nat.le_of_ble_eq_true rfl, Nat.le_of_ble_eq_true rfl⟩ rfl rfl (Nat.le_of_ble_eq_true rfl) ⟨Nat.le_of_ble_eq_true rfl, Nat.le_of_ble_eq_true rfl⟩ dX6_swap_10 (fun r w1 hp => ?_)
    obtain ⟨rfl, rfl⟩ := hp
    exact g_iret cx gr (Nat.zero_le _) (Nat.zero_le _) dX6_swap_13 (mleaf (by first | (simp only [sp_swap, tKind, tMood, tPen, tAte, tHour, tTray, tAt, tRang, tCrack, tTak, tWay, cB, c_1, if_true, if_false]; done) | (simp only [sp_swap, tKind, tMood, tPen, tAte, tHour, tTray, tAt, tRang, tCrack, tTak, tWay, cB, c_1, if_true, if_false] <;> rfl) | (simp [sp_swap, tKind, tMood, tPen, tAte, tHour, tTray, tAt, tRang, tCrack, tTak, tWay, cB, c_1] <;> rfl)))
