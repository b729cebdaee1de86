/-! the text's items go forward -/
theorem tkE_gt {b : Nat → Int32} {T P : Nat} (h : P < T) : P < tkE b T P := by
  unfold tkE
  rw [if_neg (by omega)]
  by_cases h2 : isW (b P) 97 122 = 0
  · rw [if_pos h2]
    by_cases h3 : isW (b P) 48 57 = 0
    · rw [if_pos h3]; omega
    · rw [if_neg h3]; exact (skA_gt h).mpr h3
  · rw [if_neg h2]; exact (skA_gt h).mpr h2
theorem nxP_ge {b : Nat → Int32} {T P : Nat} : P ≤ nxP b T P := Nat.le_trans tkE_ge (skA_ge b 32 32 T _)
theorem nxP_gt {b : Nat → Int32} {T P : Nat} (h : P < T) : P < nxP b T P := Nat.lt_of_lt_of_le (tkE_gt h) (skA_ge b 32 32 T _)
theorem nm_ge {b : Nat → Int32} {T P : Nat} (M nu : Int32) : nxP b T P ≤ (nmN b T P M nu).2.1 := by
  unfold nmN
  split
  · split
    · exact nxP_ge
    · exact Nat.le_refl _
  · exact Nat.le_refl _
theorem pcT_ge {b : Nat → Int32} {T P : Nat} {nu : Int32} {t : Ter} {h : Int32} : P ≤ (pcT b T P nu t h).2.1 := by
  unfold pcT
  split
  · exact Nat.le_refl _
  · split
    · exact Nat.le_trans nxP_ge (nm_ge _ _)
    · exact Nat.le_trans nxP_ge (nm_ge _ _)
theorem mdT_ge {b : Nat → Int32} {T P : Nat} {nu : Int32} {t : Ter} {h : Int32} : P ≤ (mdT b T P nu t h).2.1 := by
  unfold mdT
  split
  · exact pcT_ge
  · split
    · exact Nat.le_trans nxP_ge (nm_ge _ _)
    · exact Nat.le_trans (Nat.le_trans nxP_ge (nm_ge _ _)) pcT_ge
theorem hsT_ge {b : Nat → Int32} {T P : Nat} {nu : Int32} {t : Ter} {k : Int32} : nxP b T P ≤ (hsT b T P nu t k).2.1 := by
  unfold hsT
  split
  · exact nm_ge _ _
  · exact Nat.le_trans (nm_ge _ _) mdT_ge
theorem mnT_ge {b : Nat → Int32} {T P : Nat} {nu : Int32} {t : Ter} : nxP b T P ≤ (mnT b T P nu t).2.1 := by
  unfold mnT
  split
  · exact nm_ge _ _
  · split
    · exact nm_ge _ _
    · exact Nat.le_trans (nm_ge _ _) nxP_ge
theorem trT_ge {b : Nat → Int32} {T P : Nat} {nu : Int32} {t : Ter} : nxP b T P ≤ (trT b T P nu t).2.1 := by
  unfold trT
  split
  · exact nm_ge _ _
  · exact nm_ge _ _
theorem ckT_ge {b : Nat → Int32} {T P : Nat} {nu : Int32} {t : Ter} : nxP b T P ≤ (ckT b T P nu t).2.1 := by
  unfold ckT
  split
  · exact nm_ge _ _
  · exact nm_ge _ _
theorem wd_out {b : Nat → Int32} {T P i : Nat} (h : T ≤ P) : wdB b T P i = 0 := by
  have e : srt b T P = 0 := by unfold srt; rw [if_pos h]
  unfold wdB
  rw [e, if_neg (by decide)]
theorem kn_out {b : Nat → Int32} {T P : Nat} (hT : T ≤ 120) (hP : P ≤ T) (h : T ≤ P) : knF b T P 6 0 = -1 := by
  have e : whR b T P = 0 := by unfold whR; rw [bt_out h]; rfl
  rw [kn_c hT hP, e]
  decide
theorem it_in {b : Nat → Int32} {T P : Nat} {nu : Int32} {t : Ter} (hT : T ≤ 120) (hP : P ≤ T) (h : ¬ (itT b T P nu t).1 = 0) : P < T := by
  by_cases q : T ≤ P
  · exact absurd (by rw [itT, if_pos (kn_out hT hP q), if_pos (wd_out q), if_pos (wd_out q), if_pos (wd_out q)]) h
  · omega
theorem it_gt {b : Nat → Int32} {T P : Nat} {nu : Int32} {t : Ter} (hT : T ≤ 120) (hP : P ≤ T) (h : ¬ (itT b T P nu t).1 = 0) : P < (itT b T P nu t).2.1 := by
  have h1 := nxP_gt (b := b) (it_in hT hP h)
  refine Nat.lt_of_lt_of_le h1 ?_
  unfold itT at h ⊢
  by_cases q0 : knF b T P 6 0 = -1
  · rw [if_pos q0] at h ⊢
    by_cases q1 : wdB b T P 0 = 0
    · rw [if_pos q1] at h ⊢
      by_cases q2 : wdB b T P 1 = 0
      · rw [if_pos q2] at h ⊢
        by_cases q3 : wdB b T P 2 = 0
        · rw [if_pos q3] at h; exact absurd rfl h
        · rw [if_neg q3]; exact ckT_ge
      · rw [if_neg q2]; exact trT_ge
    · rw [if_neg q1]; exact mnT_ge
  · rw [if_neg q0]; exact hsT_ge
def ag2 (X Y : Int32 × Nat × Int32 × Ter) : Prop := X.1 = Y.1 ∧ X.2.2.2 = Y.2.2.2
theorem ag2_t {X Y Z : Int32 × Nat × Int32 × Ter} (h : ag2 X Y) (k : ag2 Y Z) : ag2 X Z := ⟨h.1.trans k.1, h.2.trans k.2⟩
/-- behind an item that was told: what stands there, and the rest -/
def tlM (b : Nat → Int32) (T n k Q : Nat) (nu : Int32) (u : Ter) : Int32 × Nat × Int32 × Ter := if srt b T Q = 0 then (nI k, Q, nu, u) else if srt b T Q = 3 then tlL b T n (k + 1) (nxP b T Q) nu u else (-1 - nI Q, Q, nu, u)
theorem tlM_i (b : Nat → Int32) (T n k Q : Nat) (nu nu' : Int32) (u : Ter) : ag2 (tlM b T n k Q nu u) (tlM b T n k Q nu' u) := by
  unfold tlM
  by_cases h2 : srt b T Q = 0
  · rw [if_pos h2, if_pos h2]; exact ⟨rfl, rfl⟩
  · rw [if_neg h2, if_neg h2]
    by_cases h3 : srt b T Q = 3
    · rw [if_pos h3, if_pos h3]; exact tlL_i b T n (k + 1) _ nu nu' u
    · rw [if_neg h3, if_neg h3]; exact ⟨rfl, rfl⟩
theorem tlL_f {b : Nat → Int32} {T n k P : Nat} {nu : Int32} {t : Ter} (h : (itT b T P nu t).1 = 0) : (tlL b T (n + 1) k P nu t).1 = -1 - nI (itT b T P nu t).2.1 := by
  rw [tlL, if_pos h]
theorem tlL_s {b : Nat → Int32} {T n k P : Nat} {nu : Int32} {t : Ter} (h : ¬ (itT b T P nu t).1 = 0) (nu' : Int32) : ag2 (tlL b T (n + 1) k P nu t) (tlM b T n k (itT b T P nu t).2.1 nu' (itT b T P nu t).2.2.2) := by
  refine ag2_t ?_ (tlM_i b T n k (itT b T P nu t).2.1 (itT b T P nu t).2.2.1 nu' (itT b T P nu t).2.2.2)
  rw [tlL, if_neg h, tlM]
  exact ⟨rfl, rfl⟩
theorem srt_59 {b : Nat → Int32} {T Q : Nat} (h : btA b T Q = 59) : ¬ T ≤ Q ∧ srt b T Q = 3 := by
  obtain ⟨q, r⟩ := bt_is (by decide) h
  refine ⟨q, ?_⟩
  unfold srt
  rw [if_neg q, r, if_pos (by decide), if_pos (by decide), if_pos rfl]
theorem tlM_c {b : Nat → Int32} {T n k Q : Nat} {nu : Int32} {u : Ter} (h : btA b T Q = 59) : tlM b T n k Q nu u = tlL b T n (k + 1) (nxP b T Q) nu u := by
  have e := (srt_59 h).2
  rw [tlM, e, if_neg (by decide), if_pos rfl]
theorem tlM_e {b : Nat → Int32} {T n k Q : Nat} {nu : Int32} {u : Ter} (h : T ≤ Q) : tlM b T n k Q nu u = (nI k, Q, nu, u) := by
  have e : srt b T Q = 0 := by unfold srt; rw [if_pos h]
  rw [tlM, if_pos e]
theorem tlM_x {b : Nat → Int32} {T n k Q : Nat} {nu : Int32} {u : Ter} (h : ¬ T ≤ Q) (h59 : ¬ btA b T Q = 59) : (tlM b T n k Q nu u).1 = -1 - nI Q := by
  rw [bt_in h] at h59
  have e0 : ¬ srt b T Q = 0 := by
    unfold srt
    rw [if_neg h]
    repeat' split
    all_goals decide
  have e3 : ¬ srt b T Q = 3 := by
    unfold srt
    rw [if_neg h, if_neg h59]
    repeat' split
    all_goals decide
  rw [tlM, if_neg e0, if_neg e3]
theorem ng_lt {Q : Nat} (h : Q ≤ 120) : (-1 - nI Q : Int32) < 0 := by
  have e : (-1 - nI Q : Int32).toInt = -1 - (Q : Int) := by
    rw [Int32.toInt_sub, nI_toInt (by omega), show (-1 : Int32).toInt = -1 from rfl, Int.bmod_eq_of_le (by omega) (by omega)]
  rw [fc_lt, e, show (0 : Int32).toInt = 0 from rfl]
  omega
theorem te_b {c : Cor} {b : Nat → Int32} {T Q : Nat} {nu : Int32} {p : Ter} (hTc : c.2.2.2.2.1 = nI T) (hT : T ≤ 120) (hb : b = c.2.2.2.1) (hQ : Q ≤ T) (e : (tlL b T 120 1 (tkS b T 0) nu c.1).1 = -1 - nI Q) (hp : p = c.1) : sp_terrace c = (-1 - nI Q, p, c.2.1, c.2.2.1, b, 0, c.2.2.2.2.2) := by
  rw [hb] at e
  rw [hb, hp, ← e]
  exact tt_b hTc hT (by rw [e]; exact ng_lt (by omega))
theorem te_k {c : Cor} {b : Nat → Int32} {T k : Nat} {nu x : Int32} {u : Ter} {Y : Int32 × Nat × Int32 × Ter} (hTc : c.2.2.2.2.1 = nI T) (hT : T ≤ 120) (hb : b = c.2.2.2.1) (hk : k ≤ 121) (hx : x = nI k) (e : ag2 (tlL b T 120 1 (tkS b T 0) nu c.1) Y) (e1 : Y.1 = nI k) (e2 : Y.2.2.2 = u) : sp_terrace c = (x, u, c.2.1, c.2.2.1, b, 0, c.2.2.2.2.2) := by
  obtain ⟨a1, a2⟩ := e
  rw [e1] at a1
  rw [e2] at a2
  rw [hb] at a1 a2
  have hn : ¬ (tlL c.2.2.2.1 T 120 1 (tkS c.2.2.2.1 T 0) nu c.1).1 < 0 := by rw [a1]; exact nI_pos (by omega)
  rw [tt_k hTc hT hn, a1, a2, hx, hb]

abbrev rmX6_terrace : Room := { frames := 8, cells := 0, slots := 0, locals := 184 }
theorem hYX6_terrace : gY yX6_terrace wsX6_terrace cX6_terrace 2 (some .int) 0 := ⟨⟨_, rfl⟩, by decide +kernel, by decide +kernel, by decide +kernel⟩
theorem iwX6_terrace_X6 : ∀ w ∈ u_ws RX6 TX6 16, w ∈ wsX6_terrace := by decide +kernel
theorem lkX6_terrace_201 : Cond.fieldLink RX6 201 "MuffinBellsModel" "isWrong" "Z" ∈ wsX6_terrace := by decide +kernel
theorem lkX6_terrace_186 : Cond.fieldLink RX6 186 "MuffinBellsModel" "to" "I" ∈ wsX6_terrace := by decide +kernel
theorem lkX6_terrace_173 : Cond.fieldLink RX6 173 "MuffinBellsModel" "taped" "I" ∈ wsX6_terrace := by decide +kernel
theorem lkX6_terrace_189 : Cond.fieldLink RX6 189 "MuffinBellsModel" "from" "I" ∈ wsX6_terrace := by decide +kernel
set_option maxRecDepth 100000 in
set_option maxHeartbeats 4000000 in
theorem c_X6_terrace (l : Launch) (E : gE) (a : Nat → Nat) (c : Cor) (h : Mar) (hok : cOk c) : cti l yX6_terrace wsX6_terrace rmX6_terrace E [.ref (a 0)] (mW E a c h) (fun r w => ∃ h', r = (sp_terrace c).1 ∧ w = mW E a (sp_terrace c).2 h') := by
  refine mt_i (cc := cX6_terrace) (maxL := 2) (ret := some .int) (lv0 := [(0, .ref (a 0))]) (by decide) rfl rfl (Nat.le_of_ble_eq_true rfl) (fun X cx gr hI => ?_)
  refine g_aload_n cx dX6_terrace_0 0 rfl ?_
  refine g_VSv (rest := []) (As := []) cx hYX6_saves gX6_terrace_X6_saves (c_X6_saves l E a c h  ) rfl rfl rfl ⟨Nat.le_of_ble_eq_true rfl, Nat.le_of_ble_eq_true rfl⟩ rfl rfl (Nat.le_of_ble_eq_true rfl) ⟨Nat.le_of_ble_eq_true rfl, Nat.le_of_ble_eq_true rfl⟩ dX6_terrace_1 (fun w1 hp => ?_)
  obtain rfl := hp
  obtain ⟨T, hT, hTc⟩ := tl_nI hok
  obtain ⟨b, hb⟩ : ∃ b, b = c.2.2.2.1 := ⟨_, rfl⟩
  obtain ⟨h, hh⟩ : ∃ h2 : Mar, h2 = (c.1, h.2.1, h.2.2.1, h.2.2.2.1, h.2.2.2.2.1, h.2.2.2.2.2.1, h.2.2.2.2.2.2) := ⟨_, rfl⟩
  have hh1 : h.1 = c.1 := by rw [hh]
  refine g_w (show _ = (mW E a (c.1, c.2.1, c.2.2.1, b, nI T, c.2.2.2.2.2.1, c.2.2.2.2.2.2.1, c.2.2.2.2.2.2.2.1, c.2.2.2.2.2.2.2.2) h) from by rw [hb, ← hTc, hh]) ?_
  refine g_aload_n cx dX6_terrace_4 0 rfl ?_
  refine g_iconst (v := 0) cx dX6_terrace_5 (by decide) ?_
  refine g_put (C := RX6) (T := TX6) (N := 16) (ws' := (mW E a (c.1, c.2.1, c.2.2.1, b, nI T, c.2.2.2.2.2.1, c.2.2.2.2.2.2.1, c.2.2.2.2.2.2.2.1, c.2.2.2.2.2.2.2.2) (h.1, h.2.1, h.2.2.1, h.2.2.2.1, h.2.2.2.2.1, 0, h.2.2.2.2.2.2))) cx iwX6_terrace_X6 tyX6 tyX6_ok nmX6 0 11 rfl rfl (by decide) lkX6_terrace_201 rfl rfl rfl (Nat.le_of_ble_eq_true rfl) dX6_terrace_6 rfl ?_
  refine g_aload_n cx dX6_terrace_9 0 rfl ?_
  refine g_iconst (v := 0) cx dX6_terrace_10 (by decide) ?_
  refine g_put (C := RX6) (T := TX6) (N := 16) (ws' := (mW E a (c.1, c.2.1, c.2.2.1, b, nI T, c.2.2.2.2.2.1, c.2.2.2.2.2.2.1, c.2.2.2.2.2.2.2.1, c.2.2.2.2.2.2.2.2) (h.1, h.2.1, h.2.2.1, 0, h.2.2.2.2.1, 0, h.2.2.2.2.2.2))) cx iwX6_terrace_X6 tyX6 tyX6_ok nmX6 0 9 rfl rfl (by decide) lkX6_terrace_186 rfl rfl rfl (Nat.le_of_ble_eq_true rfl) dX6_terrace_11 rfl ?_
  refine g_w (show _ = (mW E a (c.1, c.2.1, c.2.2.1, b, nI T, c.2.2.2.2.2.1, c.2.2.2.2.2.2.1, c.2.2.2.2.2.2.2.1, c.2.2.2.2.2.2.2.2) (h.1, h.2.1, h.2.2.1, nI 0, h.2.2.2.2.1, 0, h.2.2.2.2.2.2)) from rfl) ?_
  refine g_aload_n cx dX6_terrace_14 0 rfl ?_
  refine g_VSv (rest := []) (As := []) cx hYX6_token gX6_terrace_X6_token (c_X6_token l E a c h b T c.1 h.2.2.2.2.1 0 h.2.2.1 0 hT (Nat.zero_le T)) rfl rfl rfl ⟨Nat.le_of_ble_eq_true rfl, Nat.le_of_ble_eq_true rfl⟩ rfl rfl (Nat.le_of_ble_eq_true rfl) ⟨Nat.le_of_ble_eq_true rfl, Nat.le_of_ble_eq_true rfl⟩ dX6_terrace_15 (fun w1 hp => ?_)
  obtain rfl := hp
  refine g_iconst (v := 1) cx dX6_terrace_18 (by decide) ?_
  refine g_istore_n (lv' := [(1, .int 1), (0, .ref (a 0))]) cx dX6_terrace_19 (by decide) rfl ?_
  refine g_aload_n cx dX6_terrace_20 1 rfl ?_
  refine g_VSv (rest := []) (As := []) cx hYX6_item gX6_terrace_X6_item (c_X6_item l E a c h b T c.1 (tkS b T 0) h.2.2.2.2.1 hT (skA_le b 32 32 (Nat.zero_le T))) rfl rfl rfl ⟨Nat.le_of_ble_eq_true rfl, Nat.le_of_ble_eq_true rfl⟩ rfl rfl (Nat.le_of_ble_eq_true rfl) ⟨Nat.le_of_ble_eq_true rfl, Nat.le_of_ble_eq_true rfl⟩ dX6_terrace_21 (fun w1 hp => ?_)
  rcases hp with ⟨hn_1, v_2, t_3, rfl⟩ | ⟨hn_1, v_2, rfl⟩
  · replace hn_1 : (itT b T (tkS b T 0) h.2.2.2.2.1 c.1).1 = 0 := hn_1
    refine g_w (show _ = (mW E a (t_3, c.2.1, c.2.2.1, b, nI T, c.2.2.2.2.2.1, c.2.2.2.2.2.2.1, c.2.2.2.2.2.2.2.1, c.2.2.2.2.2.2.2.2) (h.1, h.2.1, nI (itT b T (tkS b T 0) h.2.2.2.2.1 c.1).2.1, nI (tkE b T (itT b T (tkS b T 0) h.2.2.2.2.1 c.1).2.1), v_2, 1, h.2.2.2.2.2.2)) from rfl) ?_
    refine g_aload_n cx dX6_terrace_24 1 rfl ?_
    refine g_get (C := RX6) (T := TX6) (N := 16) (v := .int 1) cx iwX6_terrace_X6 0 11 rfl rfl (by decide) lkX6_terrace_201 rfl dX6_terrace_25 ?_
    refine g_if_ne (tgt := 59) cx dX6_terrace_28 (by decide) (fun c_4 => ?_) (fun c_4 => absurd c_4 (by decide))
    refine g_aload_n cx dX6_terrace_59 1 rfl ?_
    refine g_aload_n cx dX6_terrace_60 1 rfl ?_
    refine g_get (C := RX6) (T := TX6) (N := 16) (v := .int 1) cx iwX6_terrace_X6 0 11 rfl rfl (by decide) lkX6_terrace_201 rfl dX6_terrace_61 ?_
    refine g_if_ne (tgt := 78) cx dX6_terrace_64 (by decide) (fun c_5 => ?_) (fun c_5 => absurd c_5 (by decide))
    refine g_iconst (v := 1) cx dX6_terrace_78 (by decide) ?_
    refine g_goto (tgt := 83) cx dX6_terrace_79 (by decide) ?_
    refine g_put (C := RX6) (T := TX6) (N := 16) (ws' := (mW E a (t_3, c.2.1, c.2.2.1, b, nI T, c.2.2.2.2.2.1, c.2.2.2.2.2.2.1, c.2.2.2.2.2.2.2.1, c.2.2.2.2.2.2.2.2) (h.1, h.2.1, nI (itT b T (tkS b T 0) h.2.2.2.2.1 c.1).2.1, nI (tkE b T (itT b T (tkS b T 0) h.2.2.2.2.1 c.1).2.1), v_2, 1, h.2.2.2.2.2.2))) cx iwX6_terrace_X6 tyX6 tyX6_ok nmX6 0 11 rfl rfl (by decide) lkX6_terrace_201 rfl rfl rfl (Nat.le_of_ble_eq_true rfl) dX6_terrace_83 rfl ?_
    refine g_aload_n cx dX6_terrace_86 1 rfl ?_
    refine g_get (C := RX6) (T := TX6) (N := 16) (v := .int 1) cx iwX6_terrace_X6 0 11 rfl rfl (by decide) lkX6_terrace_201 rfl dX6_terrace_87 ?_
    refine g_if_eq (tgt := 97) cx dX6_terrace_90 (by decide) (fun c_6 => absurd c_6 (by decide)) (fun c_6 => ?_)
    refine g_aload_n cx dX6_terrace_93 1 rfl ?_
    refine g_VSv (rest := []) (As := []) cx hYX6_putsBack gX6_terrace_X6_putsBack (c_X6_putsBack l E a (t_3, c.2.1, c.2.2.1, b, nI T, c.2.2.2.2.2.1, c.2.2.2.2.2.2.1, c.2.2.2.2.2.2.2.1, c.2.2.2.2.2.2.2.2) (h.1, h.2.1, nI (itT b T (tkS b T 0) h.2.2.2.2.1 c.1).2.1, nI (tkE b T (itT b T (tkS b T 0) h.2.2.2.2.1 c.1).2.1), v_2, 1, h.2.2.2.2.2.2)  ) rfl rfl rfl ⟨Nat.le_of_ble_eq_true rfl, Nat.le_of_ble_eq_true rfl⟩ rfl rfl (Nat.le_of_ble_eq_true rfl) ⟨Nat.le_of_ble_eq_true rfl, Nat.le_of_ble_eq_true rfl⟩ dX6_terrace_94 (fun w1 hp => ?_)
    obtain rfl := hp
    refine g_aload_n cx dX6_terrace_97 1 rfl ?_
    refine g_iconst (v := 0) cx dX6_terrace_98 (by decide) ?_
    refine g_put (C := RX6) (T := TX6) (N := 16) (ws' := (mW E a (h.1, c.2.1, c.2.2.1, b, 0, c.2.2.2.2.2.1, c.2.2.2.2.2.2.1, c.2.2.2.2.2.2.2.1, c.2.2.2.2.2.2.2.2) (h.1, h.2.1, nI (itT b T (tkS b T 0) h.2.2.2.2.1 c.1).2.1, nI (tkE b T (itT b T (tkS b T 0) h.2.2.2.2.1 c.1).2.1), v_2, 1, h.2.2.2.2.2.2))) cx iwX6_terrace_X6 tyX6 tyX6_ok nmX6 0 7 rfl rfl (by decide) lkX6_terrace_173 rfl rfl rfl (Nat.le_of_ble_eq_true rfl) dX6_terrace_99 rfl ?_
    refine g_aload_n cx dX6_terrace_102 1 rfl ?_
    refine g_get (C := RX6) (T := TX6) (N := 16) (v := .int 1) cx iwX6_terrace_X6 0 11 rfl rfl (by decide) lkX6_terrace_201 rfl dX6_terrace_103 ?_
    refine g_if_eq (tgt := 118) cx dX6_terrace_106 (by decide) (fun c_7 => absurd c_7 (by decide)) (fun c_7 => ?_)
    refine g_iconst (v := (-1)) cx dX6_terrace_109 (by decide) ?_
    refine g_aload_n cx dX6_terrace_110 1 rfl ?_
    refine g_get (C := RX6) (T := TX6) (N := 16) (v := .int (nI (itT b T (tkS b T 0) h.2.2.2.2.1 c.1).2.1)) cx iwX6_terrace_X6 0 8 rfl rfl (by decide) lkX6_terrace_189 rfl dX6_terrace_111 ?_
    refine g_isub cx dX6_terrace_114 ?_
    refine g_goto (tgt := 119) cx dX6_terrace_115 (by decide) ?_
    exact g_iret cx gr (Nat.zero_le _) (Nat.zero_le _) dX6_terrace_119 (mleaf (te_b hTc hT hb (itT_le (skA_le b 32 32 (Nat.zero_le T))) (tlL_f (n := 119) hn_1) hh1))
  · replace hn_1 : ¬ (itT b T (tkS b T 0) h.2.2.2.2.1 c.1).1 = 0 := hn_1
    refine g_w (show _ = (mW E a (((itT b T (tkS b T 0) h.2.2.2.2.1 c.1).2.2.2), c.2.1, c.2.2.1, b, nI T, c.2.2.2.2.2.1, c.2.2.2.2.2.2.1, c.2.2.2.2.2.2.2.1, c.2.2.2.2.2.2.2.2) (h.1, h.2.1, nI (itT b T (tkS b T 0) h.2.2.2.2.1 c.1).2.1, nI (tkE b T (itT b T (tkS b T 0) h.2.2.2.2.1 c.1).2.1), v_2, 0, h.2.2.2.2.2.2)) from rfl) ?_
    refine g_aload_n cx dX6_terrace_24 1 rfl ?_
    refine g_get (C := RX6) (T := TX6) (N := 16) (v := .int 0) cx iwX6_terrace_X6 0 11 rfl rfl (by decide) lkX6_terrace_201 rfl dX6_terrace_25 ?_
    refine g_if_ne (tgt := 59) cx dX6_terrace_28 (by decide) (fun c_8 => absurd (rfl) c_8) (fun c_8 => ?_)
    have LP31 : ∀ (d : Nat) (k : Nat) (x : Int32) (Q : Nat) (mu : Int32) (u : Ter), k + d = 121 → k ≤ Q → Q ≤ T → x = nI k → ag2 (tlL b T 120 1 (tkS b T 0) h.2.2.2.2.1 c.1) (tlM b T (120 - k) k Q mu u) → gG X 0 0 (mW E a (u, c.2.1, c.2.2.1, b, nI T, c.2.2.2.2.2.1, c.2.2.2.2.2.2.1, c.2.2.2.2.2.2.2.1, c.2.2.2.2.2.2.2.2) (h.1, h.2.1, nI Q, nI (tkE b T Q), mu, 0, h.2.2.2.2.2.2)) 31 [(0, .ref (a 0)), (1, .int x)] [] := by
      intro d
      induction d with
      | zero =>
        intro k x Q mu u hd9 hk hQ hx hs
        omega
      | succ d ih =>
        intro k x Q mu u hd9 hk hQ hx hs
        refine g_aload_n cx dX6_terrace_31 0 rfl ?_
        refine g_aload_n cx dX6_terrace_32 0 rfl ?_
        refine g_get (C := RX6) (T := TX6) (N := 16) (v := .int (nI Q)) cx iwX6_terrace_X6 0 8 rfl rfl (by decide) lkX6_terrace_189 rfl dX6_terrace_33 ?_
        refine g_VSi (rest := []) (As := [.int (nI Q)]) cx hYX6_byteAt gX6_terrace_X6_byteAt (c_X6_byteAt l E a (u, c.2.1, c.2.2.1, b, nI T, c.2.2.2.2.2.1, c.2.2.2.2.2.2.1, c.2.2.2.2.2.2.2.1, c.2.2.2.2.2.2.2.2) (h.1, h.2.1, nI Q, nI (tkE b T Q), mu, 0, h.2.2.2.2.2.2) b T Q hT hQ) rfl rfl rfl ⟨Nat.le_of_ble_eq_true rfl, Nat.le_of_ble_eq_true rfl⟩ rfl rfl (Nat.le_of_ble_eq_true rfl) ⟨Nat.le_of_ble_eq_true rfl, Nat.le_of_ble_eq_true rfl⟩ dX6_terrace_36 (fun r w1 hp => ?_)
        obtain ⟨rfl, rfl⟩ := hp
        refine g_bipush (v := 59) cx dX6_terrace_39 (by decide) ?_
        refine g_icmp_ne (tgt := 59) cx dX6_terrace_41 (by decide) (fun c_9 => ?_) (fun c_9 => ?_)
        · refine g_aload_n cx dX6_terrace_59 0 rfl ?_
          refine g_aload_n cx dX6_terrace_60 0 rfl ?_
          refine g_get (C := RX6) (T := TX6) (N := 16) (v := .int 0) cx iwX6_terrace_X6 0 11 rfl rfl (by decide) lkX6_terrace_201 rfl dX6_terrace_61 ?_
          refine g_if_ne (tgt := 78) cx dX6_terrace_64 (by decide) (fun c_10 => absurd (rfl) c_10) (fun c_10 => ?_)
          refine g_aload_n cx dX6_terrace_67 0 rfl ?_
          refine g_get (C := RX6) (T := TX6) (N := 16) (v := .int (nI Q)) cx iwX6_terrace_X6 0 8 rfl rfl (by decide) lkX6_terrace_189 rfl dX6_terrace_68 ?_
          refine g_aload_n cx dX6_terrace_71 0 rfl ?_
          refine g_get (C := RX6) (T := TX6) (N := 16) (v := .int (nI T)) cx iwX6_terrace_X6 0 7 rfl rfl (by decide) lkX6_terrace_173 rfl dX6_terrace_72 ?_
          refine g_icmp_ge (tgt := 82) cx dX6_terrace_75 (by decide) (fun c_11 => ?_) (fun c_11 => ?_)
          · refine g_iconst (v := 0) cx dX6_terrace_82 (by decide) ?_
            refine g_put (C := RX6) (T := TX6) (N := 16) (ws' := (mW E a (u, c.2.1, c.2.2.1, b, nI T, c.2.2.2.2.2.1, c.2.2.2.2.2.2.1, c.2.2.2.2.2.2.2.1, c.2.2.2.2.2.2.2.2) (h.1, h.2.1, nI Q, nI (tkE b T Q), mu, 0, h.2.2.2.2.2.2))) cx iwX6_terrace_X6 tyX6 tyX6_ok nmX6 0 11 rfl rfl (by decide) lkX6_terrace_201 rfl rfl rfl (Nat.le_of_ble_eq_true rfl) dX6_terrace_83 rfl ?_
            refine g_aload_n cx dX6_terrace_86 0 rfl ?_
            refine g_get (C := RX6) (T := TX6) (N := 16) (v := .int 0) cx iwX6_terrace_X6 0 11 rfl rfl (by decide) lkX6_terrace_201 rfl dX6_terrace_87 ?_
            refine g_if_eq (tgt := 97) cx dX6_terrace_90 (by decide) (fun c_12 => ?_) (fun c_12 => absurd (rfl) c_12)
            refine g_aload_n cx dX6_terrace_97 0 rfl ?_
            refine g_iconst (v := 0) cx dX6_terrace_98 (by decide) ?_
            refine g_put (C := RX6) (T := TX6) (N := 16) (ws' := (mW E a (u, c.2.1, c.2.2.1, b, 0, c.2.2.2.2.2.1, c.2.2.2.2.2.2.1, c.2.2.2.2.2.2.2.1, c.2.2.2.2.2.2.2.2) (h.1, h.2.1, nI Q, nI (tkE b T Q), mu, 0, h.2.2.2.2.2.2))) cx iwX6_terrace_X6 tyX6 tyX6_ok nmX6 0 7 rfl rfl (by decide) lkX6_terrace_173 rfl rfl rfl (Nat.le_of_ble_eq_true rfl) dX6_terrace_99 rfl ?_
            refine g_aload_n cx dX6_terrace_102 0 rfl ?_
            refine g_get (C := RX6) (T := TX6) (N := 16) (v := .int 0) cx iwX6_terrace_X6 0 11 rfl rfl (by decide) lkX6_terrace_201 rfl dX6_terrace_103 ?_
            refine g_if_eq (tgt := 118) cx dX6_terrace_106 (by decide) (fun c_13 => ?_) (fun c_13 => absurd (rfl) c_13)
            refine g_iload_n cx dX6_terrace_118 1 rfl ?_
            exact g_iret cx gr (Nat.zero_le _) (Nat.zero_le _) dX6_terrace_119 (mleaf (te_k hTc hT hb (by omega) hx hs (by rw [tlM_e ((nI_leI (by omega) (by omega)).mp c_11)]) (by rw [tlM_e ((nI_leI (by omega) (by omega)).mp c_11)])))
          · refine g_iconst (v := 1) cx dX6_terrace_78 (by decide) ?_
            refine g_goto (tgt := 83) cx dX6_terrace_79 (by decide) ?_
            refine g_put (C := RX6) (T := TX6) (N := 16) (ws' := (mW E a (u, c.2.1, c.2.2.1, b, nI T, c.2.2.2.2.2.1, c.2.2.2.2.2.2.1, c.2.2.2.2.2.2.2.1, c.2.2.2.2.2.2.2.2) (h.1, h.2.1, nI Q, nI (tkE b T Q), mu, 1, h.2.2.2.2.2.2))) cx iwX6_terrace_X6 tyX6 tyX6_ok nmX6 0 11 rfl rfl (by decide) lkX6_terrace_201 rfl rfl rfl (Nat.le_of_ble_eq_true rfl) dX6_terrace_83 rfl ?_
            refine g_aload_n cx dX6_terrace_86 0 rfl ?_
            refine g_get (C := RX6) (T := TX6) (N := 16) (v := .int 1) cx iwX6_terrace_X6 0 11 rfl rfl (by decide) lkX6_terrace_201 rfl dX6_terrace_87 ?_
            refine g_if_eq (tgt := 97) cx dX6_terrace_90 (by decide) (fun c_14 => absurd c_14 (by decide)) (fun c_14 => ?_)
            refine g_aload_n cx dX6_terrace_93 0 rfl ?_
            refine g_VSv (rest := []) (As := []) cx hYX6_putsBack gX6_terrace_X6_putsBack (c_X6_putsBack l E a (u, c.2.1, c.2.2.1, b, nI T, c.2.2.2.2.2.1, c.2.2.2.2.2.2.1, c.2.2.2.2.2.2.2.1, c.2.2.2.2.2.2.2.2) (h.1, h.2.1, nI Q, nI (tkE b T Q), mu, 1, h.2.2.2.2.2.2)  ) rfl rfl rfl ⟨Nat.le_of_ble_eq_true rfl, Nat.le_of_ble_eq_true rfl⟩ rfl rfl (Nat.le_of_ble_eq_true rfl) ⟨Nat.le_of_ble_eq_true rfl, Nat.le_of_ble_eq_true rfl⟩ dX6_terrace_94 (fun w1 hp => ?_)
            obtain rfl := hp
            refine g_aload_n cx dX6_terrace_97 0 rfl ?_
            refine g_iconst (v := 0) cx dX6_terrace_98 (by decide) ?_
            refine g_put (C := RX6) (T := TX6) (N := 16) (ws' := (mW E a (h.1, c.2.1, c.2.2.1, b, 0, c.2.2.2.2.2.1, c.2.2.2.2.2.2.1, c.2.2.2.2.2.2.2.1, c.2.2.2.2.2.2.2.2) (h.1, h.2.1, nI Q, nI (tkE b T Q), mu, 1, h.2.2.2.2.2.2))) cx iwX6_terrace_X6 tyX6 tyX6_ok nmX6 0 7 rfl rfl (by decide) lkX6_terrace_173 rfl rfl rfl (Nat.le_of_ble_eq_true rfl) dX6_terrace_99 rfl ?_
            refine g_aload_n cx dX6_terrace_102 0 rfl ?_
            refine g_get (C := RX6) (T := TX6) (N := 16) (v := .int 1) cx iwX6_terrace_X6 0 11 rfl rfl (by decide) lkX6_terrace_201 rfl dX6_terrace_103 ?_
            refine g_if_eq (tgt := 118) cx dX6_terrace_106 (by decide) (fun c_15 => absurd c_15 (by decide)) (fun c_15 => ?_)
            refine g_iconst (v := (-1)) cx dX6_terrace_109 (by decide) ?_
            refine g_aload_n cx dX6_terrace_110 0 rfl ?_
            refine g_get (C := RX6) (T := TX6) (N := 16) (v := .int (nI Q)) cx iwX6_terrace_X6 0 8 rfl rfl (by decide) lkX6_terrace_189 rfl dX6_terrace_111 ?_
            refine g_isub cx dX6_terrace_114 ?_
            refine g_goto (tgt := 119) cx dX6_terrace_115 (by decide) ?_
            exact g_iret cx gr (Nat.zero_le _) (Nat.zero_le _) dX6_terrace_119 (mleaf (te_b hTc hT hb hQ (hs.1.trans (tlM_x (fun q => c_11 ((nI_leI (by omega) (by omega)).mpr q)) c_9)) hh1))
        · refine g_aload_n cx dX6_terrace_44 0 rfl ?_
          refine g_iconst (v := 1) cx dX6_terrace_45 (by decide) ?_
          refine g_VSv (rest := []) (As := [.int 1]) cx hYX6_must gX6_terrace_X6_must (c_X6_must_1 l E a c h b T u Q mu hT hQ) rfl rfl rfl ⟨Nat.le_of_ble_eq_true rfl, Nat.le_of_ble_eq_true rfl⟩ rfl rfl (Nat.le_of_ble_eq_true rfl) ⟨Nat.le_of_ble_eq_true rfl, Nat.le_of_ble_eq_true rfl⟩ dX6_terrace_46 (fun w1 hp => ?_)
          obtain rfl := hp
          refine g_aload_n cx dX6_terrace_49 0 rfl ?_
          refine g_VSv (rest := []) (As := []) cx hYX6_item gX6_terrace_X6_item (c_X6_item l E a c h b T u (nxP b T Q) mu hT (nxP_le hQ)) rfl rfl rfl ⟨Nat.le_of_ble_eq_true rfl, Nat.le_of_ble_eq_true rfl⟩ rfl rfl (Nat.le_of_ble_eq_true rfl) ⟨Nat.le_of_ble_eq_true rfl, Nat.le_of_ble_eq_true rfl⟩ dX6_terrace_50 (fun w1 hp => ?_)
          rcases hp with ⟨hn_16, v_17, t_18, rfl⟩ | ⟨hn_16, v_17, rfl⟩
          · replace hn_16 : (itT b T (nxP b T Q) mu u).1 = 0 := hn_16
            refine g_w (show _ = (mW E a (t_18, c.2.1, c.2.2.1, b, nI T, c.2.2.2.2.2.1, c.2.2.2.2.2.2.1, c.2.2.2.2.2.2.2.1, c.2.2.2.2.2.2.2.2) (h.1, h.2.1, nI (itT b T (nxP b T Q) mu u).2.1, nI (tkE b T (itT b T (nxP b T Q) mu u).2.1), v_17, 1, h.2.2.2.2.2.2)) from rfl) ?_
            refine g_iinc (v := x + 1) (lv' := [(1, .int (x + 1)), (0, .ref (a 0))]) cx dX6_terrace_53 1 rfl rfl (by decide) rfl ?_
            refine g_goto (tgt := 24) cx dX6_terrace_56 (by decide) ?_
            refine g_aload_n cx dX6_terrace_24 1 rfl ?_
            refine g_get (C := RX6) (T := TX6) (N := 16) (v := .int 1) cx iwX6_terrace_X6 0 11 rfl rfl (by decide) lkX6_terrace_201 rfl dX6_terrace_25 ?_
            refine g_if_ne (tgt := 59) cx dX6_terrace_28 (by decide) (fun c_19 => ?_) (fun c_19 => absurd c_19 (by decide))
            refine g_aload_n cx dX6_terrace_59 1 rfl ?_
            refine g_aload_n cx dX6_terrace_60 1 rfl ?_
            refine g_get (C := RX6) (T := TX6) (N := 16) (v := .int 1) cx iwX6_terrace_X6 0 11 rfl rfl (by decide) lkX6_terrace_201 rfl dX6_terrace_61 ?_
            refine g_if_ne (tgt := 78) cx dX6_terrace_64 (by decide) (fun c_20 => ?_) (fun c_20 => absurd c_20 (by decide))
            refine g_iconst (v := 1) cx dX6_terrace_78 (by decide) ?_
            refine g_goto (tgt := 83) cx dX6_terrace_79 (by decide) ?_
            refine g_put (C := RX6) (T := TX6) (N := 16) (ws' := (mW E a (t_18, c.2.1, c.2.2.1, b, nI T, c.2.2.2.2.2.1, c.2.2.2.2.2.2.1, c.2.2.2.2.2.2.2.1, c.2.2.2.2.2.2.2.2) (h.1, h.2.1, nI (itT b T (nxP b T Q) mu u).2.1, nI (tkE b T (itT b T (nxP b T Q) mu u).2.1), v_17, 1, h.2.2.2.2.2.2))) cx iwX6_terrace_X6 tyX6 tyX6_ok nmX6 0 11 rfl rfl (by decide) lkX6_terrace_201 rfl rfl rfl (Nat.le_of_ble_eq_true rfl) dX6_terrace_83 rfl ?_
            refine g_aload_n cx dX6_terrace_86 1 rfl ?_
            refine g_get (C := RX6) (T := TX6) (N := 16) (v := .int 1) cx iwX6_terrace_X6 0 11 rfl rfl (by decide) lkX6_terrace_201 rfl dX6_terrace_87 ?_
            refine g_if_eq (tgt := 97) cx dX6_terrace_90 (by decide) (fun c_21 => absurd c_21 (by decide)) (fun c_21 => ?_)
            refine g_aload_n cx dX6_terrace_93 1 rfl ?_
            refine g_VSv (rest := []) (As := []) cx hYX6_putsBack gX6_terrace_X6_putsBack (c_X6_putsBack l E a (t_18, c.2.1, c.2.2.1, b, nI T, c.2.2.2.2.2.1, c.2.2.2.2.2.2.1, c.2.2.2.2.2.2.2.1, c.2.2.2.2.2.2.2.2) (h.1, h.2.1, nI (itT b T (nxP b T Q) mu u).2.1, nI (tkE b T (itT b T (nxP b T Q) mu u).2.1), v_17, 1, h.2.2.2.2.2.2)  ) rfl rfl rfl ⟨Nat.le_of_ble_eq_true rfl, Nat.le_of_ble_eq_true rfl⟩ rfl rfl (Nat.le_of_ble_eq_true rfl) ⟨Nat.le_of_ble_eq_true rfl, Nat.le_of_ble_eq_true rfl⟩ dX6_terrace_94 (fun w1 hp => ?_)
            obtain rfl := hp
            refine g_aload_n cx dX6_terrace_97 1 rfl ?_
            refine g_iconst (v := 0) cx dX6_terrace_98 (by decide) ?_
            refine g_put (C := RX6) (T := TX6) (N := 16) (ws' := (mW E a (h.1, c.2.1, c.2.2.1, b, 0, c.2.2.2.2.2.1, c.2.2.2.2.2.2.1, c.2.2.2.2.2.2.2.1, c.2.2.2.2.2.2.2.2) (h.1, h.2.1, nI (itT b T (nxP b T Q) mu u).2.1, nI (tkE b T (itT b T (nxP b T Q) mu u).2.1), v_17, 1, h.2.2.2.2.2.2))) cx iwX6_terrace_X6 tyX6 tyX6_ok nmX6 0 7 rfl rfl (by decide) lkX6_terrace_173 rfl rfl rfl (Nat.le_of_ble_eq_true rfl) dX6_terrace_99 rfl ?_
            refine g_aload_n cx dX6_terrace_102 1 rfl ?_
            refine g_get (C := RX6) (T := TX6) (N := 16) (v := .int 1) cx iwX6_terrace_X6 0 11 rfl rfl (by decide) lkX6_terrace_201 rfl dX6_terrace_103 ?_
            refine g_if_eq (tgt := 118) cx dX6_terrace_106 (by decide) (fun c_22 => absurd c_22 (by decide)) (fun c_22 => ?_)
            refine g_iconst (v := (-1)) cx dX6_terrace_109 (by decide) ?_
            refine g_aload_n cx dX6_terrace_110 1 rfl ?_
            refine g_get (C := RX6) (T := TX6) (N := 16) (v := .int (nI (itT b T (nxP b T Q) mu u).2.1)) cx iwX6_terrace_X6 0 8 rfl rfl (by decide) lkX6_terrace_189 rfl dX6_terrace_111 ?_
            refine g_isub cx dX6_terrace_114 ?_
            refine g_goto (tgt := 119) cx dX6_terrace_115 (by decide) ?_
            exact g_iret cx gr (Nat.zero_le _) (Nat.zero_le _) dX6_terrace_119 (mleaf (te_b hTc hT hb (itT_le (nxP_le hQ)) (hs.1.trans (by rw [tlM_c c_9, show 120 - k = (120 - (k + 1)) + 1 by have := (srt_59 c_9).1; omega]; exact tlL_f hn_16)) hh1))
          · replace hn_16 : ¬ (itT b T (nxP b T Q) mu u).1 = 0 := hn_16
            refine g_w (show _ = (mW E a (((itT b T (nxP b T Q) mu u).2.2.2), c.2.1, c.2.2.1, b, nI T, c.2.2.2.2.2.1, c.2.2.2.2.2.2.1, c.2.2.2.2.2.2.2.1, c.2.2.2.2.2.2.2.2) (h.1, h.2.1, nI (itT b T (nxP b T Q) mu u).2.1, nI (tkE b T (itT b T (nxP b T Q) mu u).2.1), v_17, 0, h.2.2.2.2.2.2)) from rfl) ?_
            refine g_iinc (v := x + 1) (lv' := [(1, .int (x + 1)), (0, .ref (a 0))]) cx dX6_terrace_53 1 rfl rfl (by decide) rfl ?_
            refine g_goto (tgt := 24) cx dX6_terrace_56 (by decide) ?_
            refine g_aload_n cx dX6_terrace_24 1 rfl ?_
            refine g_get (C := RX6) (T := TX6) (N := 16) (v := .int 0) cx iwX6_terrace_X6 0 11 rfl rfl (by decide) lkX6_terrace_201 rfl dX6_terrace_25 ?_
            refine g_if_ne (tgt := 59) cx dX6_terrace_28 (by decide) (fun c_23 => absurd (rfl) c_23) (fun c_23 => ?_)
            exact g_lv [1, 0] rfl (ih (k + 1) (x + 1) (itT b T (nxP b T Q) mu u).2.1 v_17 (itT b T (nxP b T Q) mu u).2.2.2 (by omega) (by have h1 := it_gt hT (nxP_le hQ) hn_16; have h2 := nxP_ge (b := b) (T := T) (P := Q); omega) (itT_le (nxP_le hQ)) (by rw [hx]; exact nI_1 k) (ag2_t hs (by rw [tlM_c c_9, show 120 - k = (120 - (k + 1)) + 1 by have := (srt_59 c_9).1; omega]; exact tlL_s hn_16 v_17)))
    exact g_lv [1, 0] rfl (LP31 120 1 1 (itT b T (tkS b T 0) h.2.2.2.2.1 c.1).2.1 v_2 (itT b T (tkS b T 0) h.2.2.2.2.1 c.1).2.2.2 (by omega) (Nat.lt_of_le_of_lt (Nat.zero_le _) (it_gt hT (skA_le b 32 32 (Nat.zero_le T)) hn_1)) (itT_le (skA_le b 32 32 (Nat.zero_le T))) rfl (tlL_s hn_1 v_2))
