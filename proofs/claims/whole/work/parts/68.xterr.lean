theorem nm_ok {b : Nat → Int32} {T P : Nat} {M nu : Int32} (nu' : Int32) (h : ¬ (nmN b T P M nu).1 = 0) : nmN b T P M nu = nmN b T P M nu' := by
  unfold nmN at h ⊢
  by_cases q : srt b T (nxP b T P) = 2
  · rw [if_pos q, if_pos q]
  · rw [if_neg q] at h
    exact absurd rfl h
theorem nm_i1 {b : Nat → Int32} {T P : Nat} {M : Int32} (nu nu' : Int32) : (nmN b T P M nu).1 = (nmN b T P M nu').1 := by
  unfold nmN
  by_cases q : srt b T (nxP b T P) = 2
  · rw [if_pos q, if_pos q]
  · rw [if_neg q, if_neg q]
theorem nm_i2 {b : Nat → Int32} {T P : Nat} {M : Int32} (nu nu' : Int32) : (nmN b T P M nu).2.1 = (nmN b T P M nu').2.1 := by
  unfold nmN
  by_cases q : srt b T (nxP b T P) = 2
  · rw [if_pos q, if_pos q]
  · rw [if_neg q, if_neg q]
def ag (X Y : Int32 × Nat × Int32 × Ter) : Prop := X.1 = Y.1 ∧ X.2.1 = Y.2.1 ∧ X.2.2.2 = Y.2.2.2
theorem ag_r (X : Int32 × Nat × Int32 × Ter) : ag X X := ⟨rfl, rfl, rfl⟩
theorem pcT_i (b : Nat → Int32) (T P : Nat) (nu nu' : Int32) (t : Ter) (h : Int32) : ag (pcT b T P nu t h) (pcT b T P nu' t h) := by
  unfold pcT
  by_cases q : wdB b T P 4 = 0
  · rw [if_pos q, if_pos q]; exact ⟨rfl, rfl, rfl⟩
  · rw [if_neg q, if_neg q]
    by_cases q2 : (nmN b T P 999 nu).1 = 0
    · rw [if_pos q2, if_pos ((nm_i1 nu' nu).trans q2)]; exact ⟨rfl, nm_i2 nu nu', rfl⟩
    · rw [← nm_ok nu' q2]; exact ag_r _
theorem mdT_i (b : Nat → Int32) (T P : Nat) (nu nu' : Int32) (t : Ter) (h : Int32) : ag (mdT b T P nu t h) (mdT b T P nu' t h) := by
  unfold mdT
  by_cases q : wdB b T P 3 = 0
  · rw [if_pos q, if_pos q]; exact pcT_i b T P nu nu' t h
  · rw [if_neg q, if_neg q]
    by_cases q2 : (nmN b T P 20 nu).1 = 0
    · rw [if_pos q2, if_pos ((nm_i1 nu' nu).trans q2)]; exact ⟨rfl, nm_i2 nu nu', rfl⟩
    · rw [← nm_ok nu' q2]; exact ag_r _
theorem hsT_i (b : Nat → Int32) (T P : Nat) (nu nu' : Int32) (t : Ter) (k : Int32) : ag (hsT b T P nu t k) (hsT b T P nu' t k) := by
  unfold hsT
  by_cases q2 : (nmN b T P 7 nu).1 = 0
  · rw [if_pos q2, if_pos ((nm_i1 nu' nu).trans q2)]; exact ⟨rfl, nm_i2 nu nu', rfl⟩
  · rw [← nm_ok nu' q2]; exact ag_r _
theorem mnT_i (b : Nat → Int32) (T P : Nat) (nu nu' : Int32) (t : Ter) : ag (mnT b T P nu t) (mnT b T P nu' t) := by
  unfold mnT
  by_cases q2 : (nmN b T P 7 nu).1 = 0
  · rw [if_pos q2, if_pos ((nm_i1 nu' nu).trans q2)]; exact ⟨rfl, nm_i2 nu nu', rfl⟩
  · rw [← nm_ok nu' q2]; exact ag_r _
theorem trT_i (b : Nat → Int32) (T P : Nat) (nu nu' : Int32) (t : Ter) : ag (trT b T P nu t) (trT b T P nu' t) := by
  unfold trT
  by_cases q2 : (nmN b T P 999 nu).1 = 0
  · rw [if_pos q2, if_pos ((nm_i1 nu' nu).trans q2)]; exact ⟨rfl, nm_i2 nu nu', rfl⟩
  · rw [← nm_ok nu' q2]; exact ag_r _
theorem ckT_i (b : Nat → Int32) (T P : Nat) (nu nu' : Int32) (t : Ter) : ag (ckT b T P nu t) (ckT b T P nu' t) := by
  unfold ckT
  by_cases q2 : (nmN b T P 99 nu).1 = 0
  · rw [if_pos q2, if_pos ((nm_i1 nu' nu).trans q2)]; exact ⟨rfl, nm_i2 nu nu', rfl⟩
  · rw [← nm_ok nu' q2]; exact ag_r _
theorem itT_i (b : Nat → Int32) (T P : Nat) (nu nu' : Int32) (t : Ter) : ag (itT b T P nu t) (itT b T P nu' t) := by
  unfold itT
  by_cases q0 : knF b T P 6 0 = -1
  · rw [if_pos q0, if_pos q0]
    by_cases q1 : wdB b T P 0 = 0
    · rw [if_pos q1, if_pos q1]
      by_cases q2 : wdB b T P 1 = 0
      · rw [if_pos q2, if_pos q2]
        by_cases q3 : wdB b T P 2 = 0
        · rw [if_pos q3, if_pos q3]; exact ⟨rfl, rfl, rfl⟩
        · rw [if_neg q3, if_neg q3]; exact ckT_i b T P nu nu' t
      · rw [if_neg q2, if_neg q2]; exact trT_i b T P nu nu' t
    · rw [if_neg q1, if_neg q1]; exact mnT_i b T P nu nu' t
  · rw [if_neg q0, if_neg q0]; exact hsT_i b T P nu nu' t _
theorem tlL_i (b : Nat → Int32) (T : Nat) : ∀ (n k P : Nat) (nu nu' : Int32) (t : Ter), (tlL b T n k P nu t).1 = (tlL b T n k P nu' t).1 ∧ (tlL b T n k P nu t).2.2.2 = (tlL b T n k P nu' t).2.2.2
  | 0, k, P, nu, nu', t => ⟨rfl, rfl⟩
  | n + 1, k, P, nu, nu', t => by
    obtain ⟨e1, e2, e3⟩ := itT_i b T P nu nu' t
    have h1' : (itT b T P nu' t).1 = (itT b T P nu t).1 := e1.symm
    have h2' : (itT b T P nu' t).2.1 = (itT b T P nu t).2.1 := e2.symm
    have h3' : (itT b T P nu' t).2.2.2 = (itT b T P nu t).2.2.2 := e3.symm
    rw [tlL, tlL, h1', h2', h3']
    by_cases h1 : (itT b T P nu t).1 = 0
    · rw [if_pos h1, if_pos h1]; exact ⟨rfl, e3⟩
    · rw [if_neg h1, if_neg h1]
      by_cases h2 : srt b T (itT b T P nu t).2.1 = 0
      · rw [if_pos h2, if_pos h2]; exact ⟨rfl, e3⟩
      · rw [if_neg h2, if_neg h2]
        by_cases h3 : srt b T (itT b T P nu t).2.1 = 3
        · rw [if_pos h3, if_pos h3]
          exact tlL_i b T n (k + 1) _ _ _ _
        · rw [if_neg h3, if_neg h3]; exact ⟨rfl, e3⟩
/-- the text that the tape holds, told to the terrace -/
abbrev ttT (c : Cor) (T : Nat) : Int32 × Nat × Int32 × Ter := tlL c.2.2.2.1 T 120 1 (tkS c.2.2.2.1 T 0) 0 c.1
def sp_terrace (c : Cor) : Int32 × Cor := if (ttT c c.2.2.2.2.1.toNatClampNeg).1 < 0 then ((ttT c c.2.2.2.2.1.toNatClampNeg).1, c.1, c.2.1, c.2.2.1, c.2.2.2.1, 0, c.2.2.2.2.2) else ((ttT c c.2.2.2.2.1.toNatClampNeg).1, (ttT c c.2.2.2.2.1.toNatClampNeg).2.2.2, c.2.1, c.2.2.1, c.2.2.2.1, 0, c.2.2.2.2.2)
theorem tt_b {c : Cor} {T : Nat} {nu : Int32} (hT : c.2.2.2.2.1 = nI T) (hT1 : T ≤ 120) (h : (tlL c.2.2.2.1 T 120 1 (tkS c.2.2.2.1 T 0) nu c.1).1 < 0) : sp_terrace c = ((tlL c.2.2.2.1 T 120 1 (tkS c.2.2.2.1 T 0) nu c.1).1, c.1, c.2.1, c.2.2.1, c.2.2.2.1, 0, c.2.2.2.2.2) := by
  obtain ⟨e1, e2⟩ := tlL_i c.2.2.2.1 T 120 1 (tkS c.2.2.2.1 T 0) nu 0 c.1
  rw [e1] at h ⊢
  rw [sp_terrace, hT, nI_clamp (by omega), if_pos h]
theorem tt_k {c : Cor} {T : Nat} {nu : Int32} (hT : c.2.2.2.2.1 = nI T) (hT1 : T ≤ 120) (h : ¬ (tlL c.2.2.2.1 T 120 1 (tkS c.2.2.2.1 T 0) nu c.1).1 < 0) : sp_terrace c = ((tlL c.2.2.2.1 T 120 1 (tkS c.2.2.2.1 T 0) nu c.1).1, (tlL c.2.2.2.1 T 120 1 (tkS c.2.2.2.1 T 0) nu c.1).2.2.2, c.2.1, c.2.2.1, c.2.2.2.1, 0, c.2.2.2.2.2) := by
  obtain ⟨e1, e2⟩ := tlL_i c.2.2.2.1 T 120 1 (tkS c.2.2.2.1 T 0) nu 0 c.1
  rw [e1] at h ⊢
  rw [e2, sp_terrace, hT, nI_clamp (by omega), if_neg h]

abbrev rmX5_terrace : Room := { frames := 8, cells := 0, slots := 0, locals := 174 }
theorem hYX5_terrace : gY yX5_terrace wsX5_terrace cX5_terrace 2 (some .int) 0 := ⟨⟨_, rfl⟩, by decide +kernel, by decide +kernel, by decide +kernel⟩
theorem iwX5_terrace_X5 : ∀ w ∈ u_ws RX5 TX5 8, w ∈ wsX5_terrace := by decide +kernel
theorem lkX5_terrace_16 : Cond.fieldLink RX5 16 "MuffinBells" "trial" "LMuffinBells$Terrace;" ∈ wsX5_terrace := by decide +kernel
theorem lkX5_terrace_10 : Cond.fieldLink RX5 10 "MuffinBells" "present" "LMuffinBells$Terrace;" ∈ wsX5_terrace := by decide +kernel
theorem lkX5_terrace_38 : Cond.fieldLink RX5 38 "MuffinBells" "text" "LMuffinBells$TerraceText;" ∈ wsX5_terrace := by decide +kernel
theorem lkX5_terrace_29 : Cond.fieldLink RX5 29 "MuffinBells" "tape" "LMuffinBells$Tape;" ∈ wsX5_terrace := by decide +kernel
theorem iwX5_terrace_X2 : ∀ w ∈ u_ws RX2 TX2 2, w ∈ wsX5_terrace := by decide +kernel
theorem lkX5_terrace_184 : Cond.fieldLink RX5 184 "MuffinBells$Tape" "length" "I" ∈ wsX5_terrace := by decide +kernel
set_option maxRecDepth 100000 in
set_option maxHeartbeats 4000000 in
theorem c_X5_terrace (l : Launch) (E : gE) (a : Nat → Nat) (c : Cor) (g : Gar) (hok : cOk c) : cti l yX5_terrace wsX5_terrace rmX5_terrace E [.ref (a 0)] (xW E a c g) (fun r w => ∃ g', r = (sp_terrace c).1 ∧ w = xW E a (sp_terrace c).2 g') := by
  refine mt_i (cc := cX5_terrace) (maxL := 2) (ret := some .int) (lv0 := [(0, .ref (a 0))]) (by decide) rfl rfl (Nat.le_of_ble_eq_true rfl) (fun X cx gr hI => ?_)
  refine g_aload_n cx dX5_terrace_0 0 rfl ?_
  refine g_get (C := RX5) (T := TX5) (N := 8) (v := .ref (a 6)) cx iwX5_terrace_X5 0 1 rfl rfl (by decide) lkX5_terrace_16 rfl dX5_terrace_1 ?_
  refine g_aload_n cx dX5_terrace_4 0 rfl ?_
  refine g_get (C := RX5) (T := TX5) (N := 8) (v := .ref (a 1)) cx iwX5_terrace_X5 0 0 rfl rfl (by decide) lkX5_terrace_10 rfl dX5_terrace_5 ?_
  refine g_XBtp cx gX5_terrace_X3_become ⟨Nat.le_of_ble_eq_true rfl, Nat.le_of_ble_eq_true rfl⟩ (Nat.le_of_ble_eq_true rfl) dX5_terrace_8 ?_ (Nat.zero_le _) (Nat.zero_le _)
  obtain ⟨T, hT1, hT⟩ := tl_nI hok
  refine g_aload_n cx dX5_terrace_11 0 rfl ?_
  refine g_get (C := RX5) (T := TX5) (N := 8) (v := .ref (a 18)) cx iwX5_terrace_X5 0 5 rfl rfl (by decide) lkX5_terrace_38 rfl dX5_terrace_12 ?_
  refine g_aload_n cx dX5_terrace_15 0 rfl ?_
  refine g_get (C := RX5) (T := TX5) (N := 8) (v := .ref (a 6)) cx iwX5_terrace_X5 0 1 rfl rfl (by decide) lkX5_terrace_16 rfl dX5_terrace_16 ?_
  refine g_Vi (rest := []) (As := [.ref (a 6)]) (wr := ([0, 1, 2, 3, 4, 5, 11, 12, 13, 14, 15, 19, 20, 21, 22, 23, 24, 25, 26, 27, 28].filterMap (fun q9 => (xW E a c (c.1, g.2.1, g.2.2.1, g.2.2.2.1, g.2.2.2.2))[q9]?))) cx hYX4_tellTo gX5_terrace_X4_tellTo (c_X4_tellTo l E (fun i => if i = 0 then a 18 else if i < 3 then a (15 + i) else a (3 + i)) c.2.2.2.1 T g.2.1 g.2.2.1 g.2.2.2.1 g.2.2.2.2 c.1 c.2.2.2.2.1 hT1 hT) rfl rfl rfl [18, 16, 17, 6, 7, 8, 9, 10] [0, 1, 2, 3, 4, 5, 11, 12, 13, 14, 15, 19, 20, 21, 22, 23, 24, 25, 26, 27, 28] rfl rfl rfl rfl (by decide) ⟨Nat.le_of_ble_eq_true rfl, Nat.le_of_ble_eq_true rfl⟩ rfl rfl (Nat.le_of_ble_eq_true rfl) ⟨Nat.le_of_ble_eq_true rfl, Nat.le_of_ble_eq_true rfl⟩ dX5_terrace_19 (fun r w1 hp => ?_)
  obtain ⟨X9, hX9, hr, rfl⟩ := hp
  rw [hr]
  refine g_ws (ws' := (xW E a (c.1, c.2.1, c.2.2.1, c.2.2.2.1, nI T, c.2.2.2.2.2.1, c.2.2.2.2.2.2.1, c.2.2.2.2.2.2.2.1, c.2.2.2.2.2.2.2.2) (X9.2.2.2, srt c.2.2.2.1 T X9.2.1, nI X9.2.1, nI (tkE c.2.2.2.1 T X9.2.1), X9.2.2.1))) [0, 1, 2, 3, 4, 5, 24, 25, 26, 27, 28, 6, 7, 8, 9, 10, 22, 23, 21, 11, 12, 13, 14, 15, 16, 17, 18, 19, 20] rfl rfl ?_
  refine g_istore_n (lv' := [(1, .int X9.1), (0, .ref (a 0))]) cx dX5_terrace_22 (by decide) rfl ?_
  refine g_aload_n cx dX5_terrace_23 1 rfl ?_
  refine g_get (C := RX5) (T := TX5) (N := 8) (v := .ref (a 16)) cx iwX5_terrace_X5 0 4 rfl rfl (by decide) lkX5_terrace_29 rfl dX5_terrace_24 ?_
  refine g_iconst (v := 0) cx dX5_terrace_27 (by decide) ?_
  refine g_put (C := RX2) (T := TX2) (N := 2) (ws' := (xW E a (c.1, c.2.1, c.2.2.1, c.2.2.2.1, 0, c.2.2.2.2.2.1, c.2.2.2.2.2.2.1, c.2.2.2.2.2.2.2.1, c.2.2.2.2.2.2.2.2) (X9.2.2.2, srt c.2.2.2.1 T X9.2.1, nI X9.2.1, nI (tkE c.2.2.2.1 T X9.2.1), X9.2.2.1))) cx iwX5_terrace_X2 tyX2 tyX2_ok nmX2 16 1 rfl rfl (by decide) lkX5_terrace_184 rfl rfl rfl (Nat.le_of_ble_eq_true rfl) dX5_terrace_28 rfl ?_
  refine g_iload_n cx dX5_terrace_31 0 rfl ?_
  refine g_if_lt (tgt := 46) cx dX5_terrace_32 (by decide) (fun c_1 => ?_) (fun c_1 => ?_)
  · refine g_iload_n cx dX5_terrace_46 0 rfl ?_
    exact g_iret cx gr (Nat.zero_le _) (Nat.zero_le _) dX5_terrace_47 (xleaf (by subst hX9; exact tt_b hT hT1 c_1))
  · refine g_aload_n cx dX5_terrace_35 1 rfl ?_
    refine g_get (C := RX5) (T := TX5) (N := 8) (v := .ref (a 1)) cx iwX5_terrace_X5 0 0 rfl rfl (by decide) lkX5_terrace_10 rfl dX5_terrace_36 ?_
    refine g_aload_n cx dX5_terrace_39 1 rfl ?_
    refine g_get (C := RX5) (T := TX5) (N := 8) (v := .ref (a 6)) cx iwX5_terrace_X5 0 1 rfl rfl (by decide) lkX5_terrace_16 rfl dX5_terrace_40 ?_
    refine g_XBpt cx gX5_terrace_X3_become ⟨Nat.le_of_ble_eq_true rfl, Nat.le_of_ble_eq_true rfl⟩ (Nat.le_of_ble_eq_true rfl) dX5_terrace_43 ?_ (Nat.zero_le _) (Nat.zero_le _)
    refine g_iload_n cx dX5_terrace_46 0 rfl ?_
    exact g_iret cx gr (Nat.zero_le _) (Nat.zero_le _) dX5_terrace_47 (xleaf (by subst hX9; exact tt_k hT hT1 c_1))
