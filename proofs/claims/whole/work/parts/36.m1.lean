theorem ge_l2 {x : Int32} {i : Nat} (hx : x = nI i) (c : x ≤ 200) (hi : i < 2 ^ 31) : i ≤ 200 := by
  rw [hx] at c
  exact (nI_leI hi (by decide)).mp c
theorem gt_l2 {x : Int32} {i : Nat} (hx : x = nI i) (c : ¬ x ≤ 200) (hi : i < 2 ^ 31) : 200 < i := by
  rcases Nat.lt_or_ge 200 i with h | h
  · exact h
  · exact absurd (by rw [hx]; exact (nI_leI hi (by decide)).mpr h) c

abbrev rmX6_firstAs : Room := { frames := 6, cells := 0, slots := 0, locals := 136 }
theorem hYX6_firstAs : gY yX6_firstAs wsX6_firstAs cX6_firstAs 5 (some .int) 2 := ⟨⟨_, rfl⟩, by decide +kernel, by decide +kernel, by decide +kernel⟩
theorem m1X6_firstAs_c158 : Cond.constant RX6 158 (-1000000004) ∈ wsX6_firstAs := by decide +kernel
theorem iwX6_firstAs_X6 : ∀ w ∈ u_ws RX6 TX6 16, w ∈ wsX6_firstAs := by decide +kernel
theorem lkX6_firstAs_7 : Cond.fieldLink RX6 7 "MuffinBellsModel" "s" "[I" ∈ wsX6_firstAs := by decide +kernel
set_option maxRecDepth 100000 in
set_option maxHeartbeats 4000000 in
theorem c_X6_firstAs (l : Launch) (E : gE) (a : Nat → Nat) (c : Cor) (h : Mar) (w0 : Int32) (v0 : Int32) (hat : vp_in (tAt c.1) 8) (hw : vp_in w0 39) : cti l yX6_firstAs wsX6_firstAs rmX6_firstAs E [.ref (a 0), .int w0, .int v0] (mW E a c h) (fun r w => ∃ h', r = (cF w0.toNatClampNeg v0 c).1 ∧ w = mW E a (cF w0.toNatClampNeg v0 c).2 h') := by
  refine mt_i (cc := cX6_firstAs) (maxL := 5) (ret := some .int) (lv0 := [(0, .ref (a 0)), (1, .int w0), (2, .int v0)]) (by decide) rfl rfl (Nat.le_of_ble_eq_true rfl) (fun X cx gr hI => ?_)
  refine g_aload_n cx dX6_firstAs_0 0 rfl ?_
  refine g_VSv (rest := []) (As := []) cx hYX6_laysAside gX6_firstAs_X6_laysAside (c_X6_laysAside l E a c h  ) rfl rfl rfl ⟨Nat.le_of_ble_eq_true rfl, Nat.le_of_ble_eq_true rfl⟩ rfl rfl (Nat.le_of_ble_eq_true rfl) ⟨Nat.le_of_ble_eq_true rfl, Nat.le_of_ble_eq_true rfl⟩ dX6_firstAs_1 (fun w1 hp => ?_)
  obtain rfl := hp
  refine g_iconst (v := 0) cx dX6_firstAs_4 (by decide) ?_
  refine g_istore_n (lv' := [(3, .int 0), (0, .ref (a 0)), (1, .int w0), (2, .int v0)]) cx dX6_firstAs_5 (by decide) rfl ?_
  have LP6 : ∀ (d : Nat) (i : Nat) (x : Int32) (u : Ter), i + d = 202 → i ≤ 201 → x = nI i → fstAs w0.toNatClampNeg v0 201 c.1 = i + fstAs w0.toNatClampNeg v0 (201 - i) u → vp_in (tAt u) 8 → gG X 0 0 (mW E a (u, c.2.1, c.2.2.1, c.2.2.2.1, c.2.2.2.2.1, c.2.2.2.2.2.1, c.2.2.2.2.2.2.1, c.2.2.2.2.2.2.2.1, c.2.2.2.2.2.2.2.2) (h.1, c.1, h.2.2.1, h.2.2.2.1, h.2.2.2.2.1, h.2.2.2.2.2.1, h.2.2.2.2.2.2)) 6 [(0, .ref (a 0)), (1, .int w0), (2, .int v0), (3, .int x)] [] := by
    intro d
    induction d with
    | zero =>
      intro i x u hi hiN hx hf hat
      omega
    | succ d ih =>
      intro i x u hi hiN hx hf hat
      refine g_iload_n cx dX6_firstAs_6 3 rfl ?_
      refine g_sipush (v := 200) cx dX6_firstAs_7 (by decide) ?_
      refine g_icmp_gt (tgt := 33) cx dX6_firstAs_10 (by decide) (fun c_1 => ?_) (fun c_1 => ?_)
      · refine g_aload_n cx dX6_firstAs_33 0 rfl ?_
        refine g_iload_n cx dX6_firstAs_34 3 rfl ?_
        refine g_VSi (rest := []) (As := [.int x]) cx hYX6_takesBack gX6_firstAs_X6_takesBack (c_X6_takesBack l E a (u, c.2.1, c.2.2.1, c.2.2.2.1, c.2.2.2.2.1, c.2.2.2.2.2.1, c.2.2.2.2.2.2.1, c.2.2.2.2.2.2.2.1, c.2.2.2.2.2.2.2.2) (h.1, c.1, h.2.2.1, h.2.2.2.1, h.2.2.2.2.1, h.2.2.2.2.2.1, h.2.2.2.2.2.2) x ) rfl rfl rfl ⟨Nat.le_of_ble_eq_true rfl, Nat.le_of_ble_eq_true rfl⟩ rfl rfl (Nat.le_of_ble_eq_true rfl) ⟨Nat.le_of_ble_eq_true rfl, Nat.le_of_ble_eq_true rfl⟩ dX6_firstAs_35 (fun r w1 hp => ?_)
        obtain ⟨hr, rfl⟩ := hp
        rw [hr]
        refine g_istore (lv' := [(4, .int x), (0, .ref (a 0)), (1, .int w0), (2, .int v0), (3, .int x)]) cx dX6_firstAs_38 (by decide) rfl ?_
        refine g_iload cx dX6_firstAs_40 0 rfl ?_
        refine g_sipush (v := 200) cx dX6_firstAs_42 (by decide) ?_
        refine g_icmp_le (tgt := 57) cx dX6_firstAs_45 (by decide) (fun c_2 => absurd c_2 ((fun q => by have h1 := gt_of 200 hx c_1 (by omega) (by decide); have h2 := ge_l2 hx q (by omega); omega))) (fun c_2 => ?_)
        refine g_aload_n cx dX6_firstAs_48 1 rfl ?_
        refine g_ldc cx m1X6_firstAs_c158 dX6_firstAs_49 ?_
        refine g_VSi (rest := []) (As := [.int (-1000000004)]) cx hYX6_finds gX6_firstAs_X6_finds (c_X6_finds l E a c (h.1, c.1, h.2.2.1, h.2.2.2.1, h.2.2.2.2.1, h.2.2.2.2.2.1, h.2.2.2.2.2.2) (-1000000004) (by unfold vp_in; decide +kernel)) rfl rfl rfl ⟨Nat.le_of_ble_eq_true rfl, Nat.le_of_ble_eq_true rfl⟩ rfl rfl (Nat.le_of_ble_eq_true rfl) ⟨Nat.le_of_ble_eq_true rfl, Nat.le_of_ble_eq_true rfl⟩ dX6_firstAs_51 (fun r w1 hp => ?_)
        obtain ⟨rfl, rfl⟩ := hp
        refine g_goto (tgt := 59) cx dX6_firstAs_54 (by decide) ?_
        exact g_iret cx gr (Nat.zero_le _) (Nat.zero_le _) dX6_firstAs_59 (mleaf (cF_n hf (by have := gt_of 200 hx c_1 (by omega) (by decide); omega)))
      · refine g_aload_n cx dX6_firstAs_13 0 rfl ?_
        refine g_get (C := RX6) (T := TX6) (N := 16) (v := .ref (a 1)) cx iwX6_firstAs_X6 0 0 rfl rfl (by decide) lkX6_firstAs_7 rfl dX6_firstAs_14 ?_
        refine g_iload_n cx dX6_firstAs_17 1 rfl ?_
        refine g_iald cx 1 rfl rfl hw dX6_firstAs_18 ?_
        refine g_iload_n cx dX6_firstAs_19 2 rfl ?_
        refine g_icmp_eq (tgt := 33) cx dX6_firstAs_20 (by decide) (fun c_3 => ?_) (fun c_3 => ?_)
        · refine g_aload_n cx dX6_firstAs_33 0 rfl ?_
          refine g_iload_n cx dX6_firstAs_34 3 rfl ?_
          refine g_VSi (rest := []) (As := [.int x]) cx hYX6_takesBack gX6_firstAs_X6_takesBack (c_X6_takesBack l E a (u, c.2.1, c.2.2.1, c.2.2.2.1, c.2.2.2.2.1, c.2.2.2.2.2.1, c.2.2.2.2.2.2.1, c.2.2.2.2.2.2.2.1, c.2.2.2.2.2.2.2.2) (h.1, c.1, h.2.2.1, h.2.2.2.1, h.2.2.2.2.1, h.2.2.2.2.2.1, h.2.2.2.2.2.2) x ) rfl rfl rfl ⟨Nat.le_of_ble_eq_true rfl, Nat.le_of_ble_eq_true rfl⟩ rfl rfl (Nat.le_of_ble_eq_true rfl) ⟨Nat.le_of_ble_eq_true rfl, Nat.le_of_ble_eq_true rfl⟩ dX6_firstAs_35 (fun r w1 hp => ?_)
          obtain ⟨hr, rfl⟩ := hp
          rw [hr]
          refine g_istore (lv' := [(4, .int x), (0, .ref (a 0)), (1, .int w0), (2, .int v0), (3, .int x)]) cx dX6_firstAs_38 (by decide) rfl ?_
          refine g_iload cx dX6_firstAs_40 0 rfl ?_
          refine g_sipush (v := 200) cx dX6_firstAs_42 (by decide) ?_
          refine g_icmp_le (tgt := 57) cx dX6_firstAs_45 (by decide) (fun c_4 => ?_) (fun c_4 => absurd ((by rw [hx]; exact (nI_leI (by omega) (by decide)).mpr (le_of 200 hx c_1 (by omega) (by decide)))) c_4)
          refine g_iload cx dX6_firstAs_57 0 rfl ?_
          exact g_iret cx gr (Nat.zero_le _) (Nat.zero_le _) dX6_firstAs_59 (mleaf (by rw [hx]; exact cF_k hf (le_of 200 hx c_1 (by omega) (by decide)) c_3))
        · refine g_aload_n cx dX6_firstAs_23 0 rfl ?_
          refine g_VSv (rest := []) (As := []) cx hYX6_hour gX6_firstAs_X6_hour (c_X6_hour l E a (u, c.2.1, c.2.2.1, c.2.2.2.1, c.2.2.2.2.1, c.2.2.2.2.2.1, c.2.2.2.2.2.2.1, c.2.2.2.2.2.2.2.1, c.2.2.2.2.2.2.2.2) (h.1, c.1, h.2.2.1, h.2.2.2.1, h.2.2.2.2.1, h.2.2.2.2.2.1, h.2.2.2.2.2.2)  hat) rfl rfl rfl ⟨Nat.le_of_ble_eq_true rfl, Nat.le_of_ble_eq_true rfl⟩ rfl rfl (Nat.le_of_ble_eq_true rfl) ⟨Nat.le_of_ble_eq_true rfl, Nat.le_of_ble_eq_true rfl⟩ dX6_firstAs_24 (fun w1 hp => ?_)
          obtain rfl := hp
          refine g_iinc (v := x + 1) (lv' := [(3, .int (x + 1)), (0, .ref (a 0)), (1, .int w0), (2, .int v0)]) cx dX6_firstAs_27 3 rfl rfl (by decide) rfl ?_
          refine g_goto (tgt := 6) cx dX6_firstAs_30 (by decide) ?_
          exact g_lv [1, 2, 3, 0] rfl (ih (i + 1) (x + 1) (goHour u) (by omega) (by have := le_of 200 hx c_1 (by omega) (by decide); omega) (by rw [hx]; exact nI_1 i) (cF_s hf (le_of 200 hx c_1 (by omega) (by decide)) c_3) (goHour_at hat))
  exact g_lv [1, 2, 3, 0] rfl (LP6 202 0 0 c.1 (by omega) (by omega) rfl (Nat.zero_add _).symm hat)

theorem tPut_put (t : Ter) (k : Nat) (v w : Int32) : tPut (tPut t k v) k w = tPut t k w := by
  unfold tPut
  rw [enc_dec]
  congr 1
  funext j
  unfold upd
  by_cases h : j = k
  · rw [if_pos h, if_pos h]
  · rw [if_neg h, if_neg h, if_neg h]
theorem tPut_self (t : Ter) (k : Nat) : tPut t k (enc t k) = t := by
  have e : upd (enc t) k (enc t k) = enc t := by
    funext j
    unfold upd
    by_cases h : j = k
    · rw [if_pos h, h]
    · rw [if_neg h]
  unfold tPut
  rw [e, dec_enc]
/-- what is weighed, something being v: something on N hours, or (q below 0) all moods together -/
def mbV (t : Ter) (w q : Int32) (N v : Nat) : Int32 := if 0 ≤ q then enc (goHs N (tPut t w.toNatClampNeg (nI v))) q.toNatClampNeg else sumN (tMood (goHs N (tPut t w.toNatClampNeg (nI v)))) 8

theorem mb_leaf {E : gE} {a : Nat → Nat} {c : Cor} {h1 : Mar} {u : Ter} {w0 q0 b y : Int32} {N K i : Nat} (hup : ∀ v, tPut u w0.toNatClampNeg v = tPut c.1 w0.toNatClampNeg v) (hb : (b, y) = bst (mbV c.1 w0 q0 N) i) (hi : i = K) : ∃ h', b = (bst (mbV c.1 w0 q0 N) K).1 ∧ mW E a (tPut u w0.toNatClampNeg (enc c.1 w0.toNatClampNeg), c.2) h1 = mW E a c h' := by
  subst hi
  refine ⟨h1, by rw [← hb], ?_⟩
  rw [hup, tPut_self]

abbrev rmX6_mostBy : Room := { frames := 8, cells := 0, slots := 0, locals := 180 }
theorem hYX6_mostBy : gY yX6_mostBy wsX6_mostBy cX6_mostBy 10 (some .int) 4 := ⟨⟨_, rfl⟩, by decide +kernel, by decide +kernel, by decide +kernel⟩
theorem iwX6_mostBy_X6 : ∀ w ∈ u_ws RX6 TX6 16, w ∈ wsX6_mostBy := by decide +kernel
theorem lkX6_mostBy_7 : Cond.fieldLink RX6 7 "MuffinBellsModel" "s" "[I" ∈ wsX6_mostBy := by decide +kernel
set_option maxRecDepth 100000 in
set_option maxHeartbeats 4000000 in
theorem c_X6_mostBy (l : Launch) (E : gE) (a : Nat → Nat) (c : Cor) (h : Mar) (w0 : Int32) (H : Nat) (q0 : Int32) (N : Nat) (hatp : ∀ v, v ≤ H → vp_in (tAt (tPut c.1 w0.toNatClampNeg (nI v))) 8) (hw : vp_in w0 39) (hH : H < 1000) (hN : N < 2 ^ 31) (hq : 0 ≤ q0 → vp_in q0 39) (K : Nat) (hK : K = H + 1) : cti l yX6_mostBy wsX6_mostBy rmX6_mostBy E [.ref (a 0), .int w0, .int (nI H), .int q0, .int (nI N)] (mW E a c h) (fun r w => ∃ h', r = (bst (mbV c.1 w0 q0 N) K).1 ∧ w = mW E a c h') := by
  refine mt_i (cc := cX6_mostBy) (maxL := 10) (ret := some .int) (lv0 := [(0, .ref (a 0)), (1, .int w0), (2, .int (nI H)), (3, .int q0), (4, .int (nI N))]) (by decide) rfl rfl (Nat.le_of_ble_eq_true rfl) (fun X cx gr hI => ?_)
  refine g_aload_n cx dX6_mostBy_0 0 rfl ?_
  refine g_get (C := RX6) (T := TX6) (N := 16) (v := .ref (a 1)) cx iwX6_mostBy_X6 0 0 rfl rfl (by decide) lkX6_mostBy_7 rfl dX6_mostBy_1 ?_
  refine g_iload_n cx dX6_mostBy_4 1 rfl ?_
  refine g_iald cx 1 rfl rfl hw dX6_mostBy_5 ?_
  refine g_istore (lv' := [(5, .int ((enc c.1) (w0.toNatClampNeg))), (0, .ref (a 0)), (1, .int w0), (2, .int (nI H)), (3, .int q0), (4, .int (nI N))]) cx dX6_mostBy_6 (by decide) rfl ?_
  refine g_iconst (v := 0) cx dX6_mostBy_8 (by decide) ?_
  refine g_istore (lv' := [(6, .int 0), (5, .int ((enc c.1) (w0.toNatClampNeg))), (0, .ref (a 0)), (1, .int w0), (2, .int (nI H)), (3, .int q0), (4, .int (nI N))]) cx dX6_mostBy_9 (by decide) rfl ?_
  refine g_iconst (v := (-1)) cx dX6_mostBy_11 (by decide) ?_
  refine g_istore (lv' := [(7, .int (-1)), (6, .int 0), (5, .int ((enc c.1) (w0.toNatClampNeg))), (0, .ref (a 0)), (1, .int w0), (2, .int (nI H)), (3, .int q0), (4, .int (nI N))]) cx dX6_mostBy_12 (by decide) rfl ?_
  refine g_iconst (v := 0) cx dX6_mostBy_14 (by decide) ?_
  refine g_istore (lv' := [(8, .int 0), (7, .int (-1)), (6, .int 0), (5, .int ((enc c.1) (w0.toNatClampNeg))), (0, .ref (a 0)), (1, .int w0), (2, .int (nI H)), (3, .int q0), (4, .int (nI N))]) cx dX6_mostBy_15 (by decide) rfl ?_
  have LP17 : ∀ (d : Nat) (i : Nat) (x : Int32) (b : Int32) (y : Int32) (u : Ter) (s1 : Ter), i + d = H + 2 → i ≤ H + 1 → x = nI i → (b, y) = bst (mbV c.1 w0 q0 N) i → (∀ v, tPut u w0.toNatClampNeg v = tPut c.1 w0.toNatClampNeg v) → gG X 0 0 (mW E a (u, c.2.1, c.2.2.1, c.2.2.2.1, c.2.2.2.2.1, c.2.2.2.2.2.1, c.2.2.2.2.2.2.1, c.2.2.2.2.2.2.2.1, c.2.2.2.2.2.2.2.2) (h.1, s1, h.2.2.1, h.2.2.2.1, h.2.2.2.2.1, h.2.2.2.2.2.1, h.2.2.2.2.2.2)) 17 [(0, .ref (a 0)), (1, .int w0), (2, .int (nI H)), (3, .int q0), (4, .int (nI N)), (5, .int (enc c.1 w0.toNatClampNeg)), (6, .int b), (7, .int y), (8, .int x)] [] := by
    intro d
    induction d with
    | zero =>
      intro i x b y u s1 hi hiN hx hb hup
      omega
    | succ d ih =>
      intro i x b y u s1 hi hiN hx hb hup
      refine g_iload cx dX6_mostBy_17 8 rfl ?_
      refine g_iload_n cx dX6_mostBy_19 2 rfl ?_
      refine g_icmp_gt (tgt := 91) cx dX6_mostBy_20 (by decide) (fun c_1 => ?_) (fun c_1 => ?_)
      · refine g_aload_n cx dX6_mostBy_91 0 rfl ?_
        refine g_get (C := RX6) (T := TX6) (N := 16) (v := .ref (a 1)) cx iwX6_mostBy_X6 0 0 rfl rfl (by decide) lkX6_mostBy_7 rfl dX6_mostBy_92 ?_
        refine g_iload_n cx dX6_mostBy_95 1 rfl ?_
        refine g_iload cx dX6_mostBy_96 5 rfl ?_
        refine g_iast (ws' := (mW E a ((tPut u w0.toNatClampNeg (enc c.1 w0.toNatClampNeg)), c.2.1, c.2.2.1, c.2.2.2.1, c.2.2.2.2.1, c.2.2.2.2.2.1, c.2.2.2.2.2.2.1, c.2.2.2.2.2.2.2.1, c.2.2.2.2.2.2.2.2) (h.1, s1, h.2.2.1, h.2.2.2.1, h.2.2.2.2.1, h.2.2.2.2.2.1, h.2.2.2.2.2.2))) cx 1 rfl rfl hw dX6_mostBy_98 (congrArg (fun f => List.set (mW E a (u, c.2.1, c.2.2.1, c.2.2.2.1, c.2.2.2.2.1, c.2.2.2.2.2.1, c.2.2.2.2.2.2.1, c.2.2.2.2.2.2.2.1, c.2.2.2.2.2.2.2.2) (h.1, s1, h.2.2.1, h.2.2.2.1, h.2.2.2.2.1, h.2.2.2.2.2.1, h.2.2.2.2.2.2)) 1 (a 1, .inl (gI E, 39, .inl f))) (enc_put u w0.toNatClampNeg (enc c.1 w0.toNatClampNeg))) ?_
        refine g_iload cx dX6_mostBy_99 6 rfl ?_
        exact g_iret cx gr (Nat.zero_le _) (Nat.zero_le _) dX6_mostBy_101 (mb_leaf (K := K) hup hb (by have := gt_of H hx c_1 (by omega) (by omega); omega))
      · refine g_aload_n cx dX6_mostBy_23 0 rfl ?_
        refine g_get (C := RX6) (T := TX6) (N := 16) (v := .ref (a 1)) cx iwX6_mostBy_X6 0 0 rfl rfl (by decide) lkX6_mostBy_7 rfl dX6_mostBy_24 ?_
        refine g_iload_n cx dX6_mostBy_27 1 rfl ?_
        refine g_iload cx dX6_mostBy_28 8 rfl ?_
        refine g_iast (ws' := (mW E a ((tPut u w0.toNatClampNeg x), c.2.1, c.2.2.1, c.2.2.2.1, c.2.2.2.2.1, c.2.2.2.2.2.1, c.2.2.2.2.2.2.1, c.2.2.2.2.2.2.2.1, c.2.2.2.2.2.2.2.2) (h.1, s1, h.2.2.1, h.2.2.2.1, h.2.2.2.2.1, h.2.2.2.2.2.1, h.2.2.2.2.2.2))) cx 1 rfl rfl hw dX6_mostBy_30 (congrArg (fun f => List.set (mW E a (u, c.2.1, c.2.2.1, c.2.2.2.1, c.2.2.2.2.1, c.2.2.2.2.2.1, c.2.2.2.2.2.2.1, c.2.2.2.2.2.2.2.1, c.2.2.2.2.2.2.2.2) (h.1, s1, h.2.2.1, h.2.2.2.1, h.2.2.2.2.1, h.2.2.2.2.2.1, h.2.2.2.2.2.2)) 1 (a 1, .inl (gI E, 39, .inl f))) (enc_put u w0.toNatClampNeg x)) ?_
        refine g_iload_n cx dX6_mostBy_31 3 rfl ?_
        refine g_if_ge (tgt := 44) cx dX6_mostBy_32 (by decide) (fun c_2 => ?_) (fun c_2 => ?_)
        · refine g_aload_n cx dX6_mostBy_44 0 rfl ?_
          refine g_iload_n cx dX6_mostBy_45 3 rfl ?_
          refine g_iload cx dX6_mostBy_46 4 rfl ?_
          refine g_VSi (rest := []) (As := [.int q0, .int (nI N)]) cx hYX6_behind gX6_mostBy_X6_behind (c_X6_behind l E a ((tPut u w0.toNatClampNeg x), c.2.1, c.2.2.1, c.2.2.2.1, c.2.2.2.2.1, c.2.2.2.2.2.1, c.2.2.2.2.2.2.1, c.2.2.2.2.2.2.2.1, c.2.2.2.2.2.2.2.2) (h.1, s1, h.2.2.1, h.2.2.2.1, h.2.2.2.2.1, h.2.2.2.2.2.1, h.2.2.2.2.2.2) q0 N (by rw [hup, hx]; exact hatp i (le_of H hx c_1 (by omega) (by omega))) hN (hq c_2)) rfl rfl rfl ⟨Nat.le_of_ble_eq_true rfl, Nat.le_of_ble_eq_true rfl⟩ rfl rfl (Nat.le_of_ble_eq_true rfl) ⟨Nat.le_of_ble_eq_true rfl, Nat.le_of_ble_eq_true rfl⟩ dX6_mostBy_48 (fun r w1 hp => ?_)
          obtain ⟨rfl, rfl⟩ := hp
          refine g_istore (lv' := [(9, .int (enc (goHs N (tPut u w0.toNatClampNeg x)) q0.toNatClampNeg)), (0, .ref (a 0)), (1, .int w0), (2, .int (nI H)), (3, .int q0), (4, .int (nI N)), (5, .int (enc c.1 w0.toNatClampNeg)), (6, .int b), (7, .int y), (8, .int x)]) cx dX6_mostBy_51 (by decide) rfl ?_
          refine g_iload cx dX6_mostBy_53 0 rfl ?_
          refine g_iload cx dX6_mostBy_55 8 rfl ?_
          refine g_icmp_le (tgt := 65) cx dX6_mostBy_57 (by decide) (fun c_3 => ?_) (fun c_3 => ?_)
          · refine g_iload cx dX6_mostBy_65 7 rfl ?_
            refine g_istore (lv' := [(6, .int b), (9, .int (enc (goHs N (tPut u w0.toNatClampNeg x)) q0.toNatClampNeg)), (0, .ref (a 0)), (1, .int w0), (2, .int (nI H)), (3, .int q0), (4, .int (nI N)), (5, .int (enc c.1 w0.toNatClampNeg)), (7, .int y), (8, .int x)]) cx dX6_mostBy_67 (by decide) rfl ?_
            refine g_iload cx dX6_mostBy_69 1 rfl ?_
            refine g_iload cx dX6_mostBy_71 8 rfl ?_
            refine g_icmp_le (tgt := 81) cx dX6_mostBy_73 (by decide) (fun c_4 => ?_) (fun c_4 => absurd (c_3) c_4)
            refine g_iload cx dX6_mostBy_81 8 rfl ?_
            refine g_istore (lv' := [(7, .int y), (6, .int b), (9, .int (enc (goHs N (tPut u w0.toNatClampNeg x)) q0.toNatClampNeg)), (0, .ref (a 0)), (1, .int w0), (2, .int (nI H)), (3, .int q0), (4, .int (nI N)), (5, .int (enc c.1 w0.toNatClampNeg)), (8, .int x)]) cx dX6_mostBy_83 (by decide) rfl ?_
            refine g_iinc (v := x + 1) (lv' := [(8, .int (x + 1)), (7, .int y), (6, .int b), (9, .int (enc (goHs N (tPut u w0.toNatClampNeg x)) q0.toNatClampNeg)), (0, .ref (a 0)), (1, .int w0), (2, .int (nI H)), (3, .int q0), (4, .int (nI N)), (5, .int (enc c.1 w0.toNatClampNeg))]) cx dX6_mostBy_85 9 rfl rfl (by decide) rfl ?_
            refine g_goto (tgt := 17) cx dX6_mostBy_88 (by decide) ?_
            exact g_lv [4, 5, 6, 7, 8, 9, 2, 1, 0] rfl (ih (i + 1) (x + 1) b y (tPut u w0.toNatClampNeg x) (tPut u w0.toNatClampNeg x) (by omega) (by have := (le_of H hx c_1 (by omega) (by omega)); omega) (by rw [hx]; exact nI_1 i) (bst_le hb (by rw [mbV, if_pos c_2, hup, hx]) c_3) (fun v => by rw [tPut_put, hup]))
          · refine g_iload cx dX6_mostBy_60 9 rfl ?_
            refine g_goto (tgt := 67) cx dX6_mostBy_62 (by decide) ?_
            refine g_istore (lv' := [(6, .int x), (9, .int (enc (goHs N (tPut u w0.toNatClampNeg x)) q0.toNatClampNeg)), (0, .ref (a 0)), (1, .int w0), (2, .int (nI H)), (3, .int q0), (4, .int (nI N)), (5, .int (enc c.1 w0.toNatClampNeg)), (7, .int y), (8, .int x)]) cx dX6_mostBy_67 (by decide) rfl ?_
            refine g_iload cx dX6_mostBy_69 1 rfl ?_
            refine g_iload cx dX6_mostBy_71 8 rfl ?_
            refine g_icmp_le (tgt := 81) cx dX6_mostBy_73 (by decide) (fun c_5 => absurd c_5 (c_3)) (fun c_5 => ?_)
            refine g_iload cx dX6_mostBy_76 1 rfl ?_
            refine g_goto (tgt := 83) cx dX6_mostBy_78 (by decide) ?_
            refine g_istore (lv' := [(7, .int (enc (goHs N (tPut u w0.toNatClampNeg x)) q0.toNatClampNeg)), (6, .int x), (9, .int (enc (goHs N (tPut u w0.toNatClampNeg x)) q0.toNatClampNeg)), (0, .ref (a 0)), (1, .int w0), (2, .int (nI H)), (3, .int q0), (4, .int (nI N)), (5, .int (enc c.1 w0.toNatClampNeg)), (8, .int x)]) cx dX6_mostBy_83 (by decide) rfl ?_
            refine g_iinc (v := x + 1) (lv' := [(8, .int (x + 1)), (7, .int (enc (goHs N (tPut u w0.toNatClampNeg x)) q0.toNatClampNeg)), (6, .int x), (9, .int (enc (goHs N (tPut u w0.toNatClampNeg x)) q0.toNatClampNeg)), (0, .ref (a 0)), (1, .int w0), (2, .int (nI H)), (3, .int q0), (4, .int (nI N)), (5, .int (enc c.1 w0.toNatClampNeg))]) cx dX6_mostBy_85 9 rfl rfl (by decide) rfl ?_
            refine g_goto (tgt := 17) cx dX6_mostBy_88 (by decide) ?_
            exact g_lv [4, 5, 6, 7, 8, 9, 2, 1, 0] rfl (ih (i + 1) (x + 1) x (enc (goHs N (tPut u w0.toNatClampNeg x)) q0.toNatClampNeg) (tPut u w0.toNatClampNeg x) (tPut u w0.toNatClampNeg x) (by omega) (by have := (le_of H hx c_1 (by omega) (by omega)); omega) (by rw [hx]; exact nI_1 i) (bst_gt hb (by rw [mbV, if_pos c_2, hup, hx]) c_3 hx) (fun v => by rw [tPut_put, hup]))
        · refine g_aload_n cx dX6_mostBy_35 0 rfl ?_
          refine g_iload cx dX6_mostBy_36 4 rfl ?_
          refine g_VSi (rest := []) (As := [.int (nI N)]) cx hYX6_moodsIn gX6_mostBy_X6_moodsIn (c_X6_moodsIn l E a ((tPut u w0.toNatClampNeg x), c.2.1, c.2.2.1, c.2.2.2.1, c.2.2.2.2.1, c.2.2.2.2.2.1, c.2.2.2.2.2.2.1, c.2.2.2.2.2.2.2.1, c.2.2.2.2.2.2.2.2) (h.1, s1, h.2.2.1, h.2.2.2.1, h.2.2.2.2.1, h.2.2.2.2.2.1, h.2.2.2.2.2.2) N (by rw [hup, hx]; exact hatp i (le_of H hx c_1 (by omega) (by omega))) hN) rfl rfl rfl ⟨Nat.le_of_ble_eq_true rfl, Nat.le_of_ble_eq_true rfl⟩ rfl rfl (Nat.le_of_ble_eq_true rfl) ⟨Nat.le_of_ble_eq_true rfl, Nat.le_of_ble_eq_true rfl⟩ dX6_mostBy_38 (fun r w1 hp => ?_)
          obtain ⟨rfl, rfl⟩ := hp
          refine g_goto (tgt := 51) cx dX6_mostBy_41 (by decide) ?_
          refine g_istore (lv' := [(9, .int (sumN (goHs N (tPut u w0.toNatClampNeg x)).2.2.2.2.2.2.2.2.1 8)), (0, .ref (a 0)), (1, .int w0), (2, .int (nI H)), (3, .int q0), (4, .int (nI N)), (5, .int (enc c.1 w0.toNatClampNeg)), (6, .int b), (7, .int y), (8, .int x)]) cx dX6_mostBy_51 (by decide) rfl ?_
          refine g_iload cx dX6_mostBy_53 0 rfl ?_
          refine g_iload cx dX6_mostBy_55 8 rfl ?_
          refine g_icmp_le (tgt := 65) cx dX6_mostBy_57 (by decide) (fun c_6 => ?_) (fun c_6 => ?_)
          · refine g_iload cx dX6_mostBy_65 7 rfl ?_
            refine g_istore (lv' := [(6, .int b), (9, .int (sumN (goHs N (tPut u w0.toNatClampNeg x)).2.2.2.2.2.2.2.2.1 8)), (0, .ref (a 0)), (1, .int w0), (2, .int (nI H)), (3, .int q0), (4, .int (nI N)), (5, .int (enc c.1 w0.toNatClampNeg)), (7, .int y), (8, .int x)]) cx dX6_mostBy_67 (by decide) rfl ?_
            refine g_iload cx dX6_mostBy_69 1 rfl ?_
            refine g_iload cx dX6_mostBy_71 8 rfl ?_
            refine g_icmp_le (tgt := 81) cx dX6_mostBy_73 (by decide) (fun c_7 => ?_) (fun c_7 => absurd (c_6) c_7)
            refine g_iload cx dX6_mostBy_81 8 rfl ?_
            refine g_istore (lv' := [(7, .int y), (6, .int b), (9, .int (sumN (goHs N (tPut u w0.toNatClampNeg x)).2.2.2.2.2.2.2.2.1 8)), (0, .ref (a 0)), (1, .int w0), (2, .int (nI H)), (3, .int q0), (4, .int (nI N)), (5, .int (enc c.1 w0.toNatClampNeg)), (8, .int x)]) cx dX6_mostBy_83 (by decide) rfl ?_
            refine g_iinc (v := x + 1) (lv' := [(8, .int (x + 1)), (7, .int y), (6, .int b), (9, .int (sumN (goHs N (tPut u w0.toNatClampNeg x)).2.2.2.2.2.2.2.2.1 8)), (0, .ref (a 0)), (1, .int w0), (2, .int (nI H)), (3, .int q0), (4, .int (nI N)), (5, .int (enc c.1 w0.toNatClampNeg))]) cx dX6_mostBy_85 9 rfl rfl (by decide) rfl ?_
            refine g_goto (tgt := 17) cx dX6_mostBy_88 (by decide) ?_
            exact g_lv [4, 5, 6, 7, 8, 9, 2, 1, 0] rfl (ih (i + 1) (x + 1) b y (tPut u w0.toNatClampNeg x) (tPut u w0.toNatClampNeg x) (by omega) (by have := (le_of H hx c_1 (by omega) (by omega)); omega) (by rw [hx]; exact nI_1 i) (bst_le hb (by rw [mbV, if_neg c_2, hup, hx]) c_6) (fun v => by rw [tPut_put, hup]))
          · refine g_iload cx dX6_mostBy_60 9 rfl ?_
            refine g_goto (tgt := 67) cx dX6_mostBy_62 (by decide) ?_
            refine g_istore (lv' := [(6, .int x), (9, .int (sumN (goHs N (tPut u w0.toNatClampNeg x)).2.2.2.2.2.2.2.2.1 8)), (0, .ref (a 0)), (1, .int w0), (2, .int (nI H)), (3, .int q0), (4, .int (nI N)), (5, .int (enc c.1 w0.toNatClampNeg)), (7, .int y), (8, .int x)]) cx dX6_mostBy_67 (by decide) rfl ?_
            refine g_iload cx dX6_mostBy_69 1 rfl ?_
            refine g_iload cx dX6_mostBy_71 8 rfl ?_
            refine g_icmp_le (tgt := 81) cx dX6_mostBy_73 (by decide) (fun c_8 => absurd c_8 (c_6)) (fun c_8 => ?_)
            refine g_iload cx dX6_mostBy_76 1 rfl ?_
            refine g_goto (tgt := 83) cx dX6_mostBy_78 (by decide) ?_
            refine g_istore (lv' := [(7, .int (sumN (goHs N (tPut u w0.toNatClampNeg x)).2.2.2.2.2.2.2.2.1 8)), (6, .int x), (9, .int (sumN (goHs N (tPut u w0.toNatClampNeg x)).2.2.2.2.2.2.2.2.1 8)), (0, .ref (a 0)), (1, .int w0), (2, .int (nI H)), (3, .int q0), (4, .int (nI N)), (5, .int (enc c.1 w0.toNatClampNeg)), (8, .int x)]) cx dX6_mostBy_83 (by decide) rfl ?_
            refine g_iinc (v := x + 1) (lv' := [(8, .int (x + 1)), (7, .int (sumN (goHs N (tPut u w0.toNatClampNeg x)).2.2.2.2.2.2.2.2.1 8)), (6, .int x), (9, .int (sumN (goHs N (tPut u w0.toNatClampNeg x)).2.2.2.2.2.2.2.2.1 8)), (0, .ref (a 0)), (1, .int w0), (2, .int (nI H)), (3, .int q0), (4, .int (nI N)), (5, .int (enc c.1 w0.toNatClampNeg))]) cx dX6_mostBy_85 9 rfl rfl (by decide) rfl ?_
            refine g_goto (tgt := 17) cx dX6_mostBy_88 (by decide) ?_
            exact g_lv [4, 5, 6, 7, 8, 9, 2, 1, 0] rfl (ih (i + 1) (x + 1) x (sumN (goHs N (tPut u w0.toNatClampNeg x)).2.2.2.2.2.2.2.2.1 8) (tPut u w0.toNatClampNeg x) (tPut u w0.toNatClampNeg x) (by omega) (by have := (le_of H hx c_1 (by omega) (by omega)); omega) (by rw [hx]; exact nI_1 i) (bst_gt hb (by rw [mbV, if_neg c_2, hup, hx]) c_6 hx) (fun v => by rw [tPut_put, hup]))
  exact g_lv [4, 5, 6, 7, 8, 3, 2, 1, 0] rfl (LP17 (H + 2) 0 0 0 (-1) c.1 h.2.1 (by omega) (by omega) rfl rfl (fun v => rfl))
