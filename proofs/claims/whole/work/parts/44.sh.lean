abbrev rmJ7_fill_d0a16 : Room := { frames := 0, cells := 0, slots := 0, locals := 0 }
theorem hYJ7_fill_d0a16 : gY yJ7_fill_d0a16 wsJ7_fill_d0a16 cJ7_fill_d0a16 5 (none) 2 := ⟨⟨_, rfl⟩, by decide +kernel, by decide +kernel, by decide +kernel⟩
set_option maxRecDepth 100000 in
set_option maxHeartbeats 4000000 in
theorem c_J7_fill_d0a16 (l : Launch) (E : gE) (b : Nat) (N : Nat) (f : Nat → Int64) (v0 : Int64) (hN : N < 2 ^ 31) : ctv l yJ7_fill_d0a16 wsJ7_fill_d0a16 rmJ7_fill_d0a16 E [.ref b, .long v0] [(b, .inl (gJ E, N, .inr (.inl f)))] (fun w => w = [(b, .inl (gJ E, N, .inr (.inl (fun _ => v0))))]) := by
  refine mt_v (cc := cJ7_fill_d0a16) (maxL := 5) (ret := none) (lv0 := [(0, .ref b), (1, .long v0)]) (by decide) rfl rfl (Nat.le_of_ble_eq_true rfl) (fun X cx gr hI => ?_)
  refine g_iconst (v := 0) cx dJ7_fill_d0a16_0 (by decide) ?_
  refine g_istore_n (lv' := [(3, .int 0), (0, .ref b), (1, .long v0)]) cx dJ7_fill_d0a16_1 (by decide) rfl ?_
  refine g_aload_n cx dJ7_fill_d0a16_2 1 rfl ?_
  refine g_alen (v := nI N) cx 0 1 rfl rfl rfl dJ7_fill_d0a16_3 ?_
  refine g_istore (lv' := [(4, .int (nI N)), (3, .int 0), (0, .ref b), (1, .long v0)]) cx dJ7_fill_d0a16_4 (by decide) rfl ?_
  have LP6 : ∀ (d : Nat) (i : Nat) (x : Int32), i + d = N + 1 → i ≤ N → x = nI i → gG X 0 0 [(b, .inl (gJ E, N, .inr (.inl (filC v0 f i))))] 6 [(0, .ref b), (1, .long v0), (3, .int x), (4, .int (nI N))] [] := by
    intro d
    induction d with
    | zero =>
      intro i x hi hiN hx
      omega
    | succ d ih =>
      intro i x hi hiN hx
      refine g_iload_n cx dJ7_fill_d0a16_6 2 rfl ?_
      refine g_iload cx dJ7_fill_d0a16_7 3 rfl ?_
      refine g_icmp_ge (tgt := 22) cx dJ7_fill_d0a16_9 (by decide) (fun c_1 => ?_) (fun c_1 => ?_)
      · obtain rfl : i = N := by have := ge_of N hx c_1 (by omega) hN; omega
        refine g_cgL (ws' := [(b, .inl (gJ E, i, .inr (.inl (fun _ => v0))))]) (g := fun _ => v0) 0 rfl (fun j hj => if_pos hj) rfl ?_
        exact g_vret cx gr (Nat.zero_le _) (Nat.zero_le _) dJ7_fill_d0a16_22 (rfl)
      · refine g_aload_n cx dJ7_fill_d0a16_12 0 rfl ?_
        refine g_iload_n cx dJ7_fill_d0a16_13 2 rfl ?_
        refine g_lload_n cx dJ7_fill_d0a16_14 1 rfl ?_
        refine g_last (ws' := [(b, .inl (gJ E, N, .inr (.inl (vp_updL (filC v0 f i) x.toNatClampNeg v0))))]) cx 0 rfl rfl (vp_of_nI hx (lt_of N hx c_1 (by omega) hN) hN) dJ7_fill_d0a16_15 rfl ?_
        refine g_iinc (v := x + 1) (lv' := [(3, .int (x + 1)), (0, .ref b), (1, .long v0), (4, .int (nI N))]) cx dJ7_fill_d0a16_16 2 rfl rfl (by decide) rfl ?_
        refine g_goto (tgt := 6) cx dJ7_fill_d0a16_19 (by decide) ?_
        exact g_lv [1, 2, 0, 3] rfl (g_w (congrArg (fun F : Nat → Int64 => ([(b, .inl (gJ E, N, .inr (.inl F)))] : va_W)) (by rw [hx, nI_clamp (by omega), filC_s])) (ih (i + 1) (x + 1) (by omega) (by have := lt_of N hx c_1 (by omega) hN; omega) (by rw [hx]; exact nI_1 i)))
  refine g_w (congrArg (fun F : Nat → Int64 => ([(b, .inl (gJ E, N, .inr (.inl F)))] : va_W)) (filC_0 v0 f).symm) ?_
  exact g_lv [2, 3, 1, 0] rfl (LP6 (N + 1) 0 0 (by omega) (by omega) rfl)

abbrev rmJ7_fill_53178 : Room := { frames := 0, cells := 0, slots := 0, locals := 0 }
theorem hYJ7_fill_53178 : gY yJ7_fill_53178 wsJ7_fill_53178 cJ7_fill_53178 4 (none) 2 := ⟨⟨_, rfl⟩, by decide +kernel, by decide +kernel, by decide +kernel⟩
set_option maxRecDepth 100000 in
set_option maxHeartbeats 4000000 in
theorem c_J7_fill_53178 (l : Launch) (E : gE) (b : Nat) (N : Nat) (f : Nat → Int32) (v0 : Int32) (hN : N < 2 ^ 31) : ctv l yJ7_fill_53178 wsJ7_fill_53178 rmJ7_fill_53178 E [.ref b, .int v0] [(b, .inl (gI E, N, .inl f))] (fun w => w = [(b, .inl (gI E, N, .inl (fun _ => v0)))]) := by
  refine mt_v (cc := cJ7_fill_53178) (maxL := 4) (ret := none) (lv0 := [(0, .ref b), (1, .int v0)]) (by decide) rfl rfl (Nat.le_of_ble_eq_true rfl) (fun X cx gr hI => ?_)
  refine g_iconst (v := 0) cx dJ7_fill_53178_0 (by decide) ?_
  refine g_istore_n (lv' := [(2, .int 0), (0, .ref b), (1, .int v0)]) cx dJ7_fill_53178_1 (by decide) rfl ?_
  refine g_aload_n cx dJ7_fill_53178_2 1 rfl ?_
  refine g_alen (v := nI N) cx 0 0 rfl rfl rfl dJ7_fill_53178_3 ?_
  refine g_istore_n (lv' := [(3, .int (nI N)), (2, .int 0), (0, .ref b), (1, .int v0)]) cx dJ7_fill_53178_4 (by decide) rfl ?_
  have LP5 : ∀ (d : Nat) (i : Nat) (x : Int32), i + d = N + 1 → i ≤ N → x = nI i → gG X 0 0 [(b, .inl (gI E, N, .inl (filI v0 f i)))] 5 [(0, .ref b), (1, .int v0), (2, .int x), (3, .int (nI N))] [] := by
    intro d
    induction d with
    | zero =>
      intro i x hi hiN hx
      omega
    | succ d ih =>
      intro i x hi hiN hx
      refine g_iload_n cx dJ7_fill_53178_5 2 rfl ?_
      refine g_iload_n cx dJ7_fill_53178_6 3 rfl ?_
      refine g_icmp_ge (tgt := 20) cx dJ7_fill_53178_7 (by decide) (fun c_1 => ?_) (fun c_1 => ?_)
      · obtain rfl : i = N := by have := ge_of N hx c_1 (by omega) hN; omega
        refine g_cgI (ws' := [(b, .inl (gI E, i, .inl (fun _ => v0)))]) (g := fun _ => v0) 0 rfl (fun j hj => if_pos hj) rfl ?_
        exact g_vret cx gr (Nat.zero_le _) (Nat.zero_le _) dJ7_fill_53178_20 (rfl)
      · refine g_aload_n cx dJ7_fill_53178_10 0 rfl ?_
        refine g_iload_n cx dJ7_fill_53178_11 2 rfl ?_
        refine g_iload_n cx dJ7_fill_53178_12 1 rfl ?_
        refine g_iast (ws' := [(b, .inl (gI E, N, .inl (upd (filI v0 f i) x.toNatClampNeg v0)))]) cx 0 rfl rfl (vp_of_nI hx (lt_of N hx c_1 (by omega) hN) hN) dJ7_fill_53178_13 rfl ?_
        refine g_iinc (v := x + 1) (lv' := [(2, .int (x + 1)), (0, .ref b), (1, .int v0), (3, .int (nI N))]) cx dJ7_fill_53178_14 2 rfl rfl (by decide) rfl ?_
        refine g_goto (tgt := 5) cx dJ7_fill_53178_17 (by decide) ?_
        exact g_lv [1, 2, 0, 3] rfl (g_w (congrArg (fun F : Nat → Int32 => ([(b, .inl (gI E, N, .inl F))] : va_W)) (by rw [hx, nI_clamp (by omega), filI_s])) (ih (i + 1) (x + 1) (by omega) (by have := lt_of N hx c_1 (by omega) hN; omega) (by rw [hx]; exact nI_1 i)))
  refine g_w (congrArg (fun F : Nat → Int32 => ([(b, .inl (gI E, N, .inl F))] : va_W)) (filI_0 v0 f).symm) ?_
  exact g_lv [2, 3, 1, 0] rfl (LP5 (N + 1) 0 0 (by omega) (by omega) rfl)

abbrev rmX1_isMissing : Room := { frames := 0, cells := 0, slots := 0, locals := 0 }
theorem hYX1_isMissing : gY yX1_isMissing wsX1_isMissing cX1_isMissing 1 (some .boolean) 0 := ⟨⟨_, rfl⟩, by decide +kernel, by decide +kernel, by decide +kernel⟩
theorem iwX1_isMissing_X1 : ∀ w ∈ u_ws RX1 TX1 3, w ∈ wsX1_isMissing := by decide +kernel
theorem lkX1_isMissing_11 : Cond.fieldLink RX1 11 "MuffinBells$Sheet" "bits" "I" ∈ wsX1_isMissing := by decide +kernel
set_option maxRecDepth 100000 in
set_option maxHeartbeats 4000000 in
theorem c_X1_isMissing (l : Launch) (E : gE) (a : Nat → Nat) (s : Int32 × Int32 × (Nat → Int64)) : cti l yX1_isMissing wsX1_isMissing rmX1_isMissing E [.ref (a 0)] (shW E a s) (fun r w => r = (if s.1 = 0 then 1 else 0) ∧ w = shW E a s) := by
  refine mt_i (cc := cX1_isMissing) (maxL := 1) (ret := some .boolean) (lv0 := [(0, .ref (a 0))]) (by decide) rfl rfl (Nat.le_of_ble_eq_true rfl) (fun X cx gr hI => ?_)
  refine g_aload_n cx dX1_isMissing_0 0 rfl ?_
  refine g_get (C := RX1) (T := TX1) (N := 3) (v := .int s.1) cx iwX1_isMissing_X1 0 0 rfl rfl (by decide) lkX1_isMissing_11 rfl dX1_isMissing_1 ?_
  refine g_if_ne (tgt := 11) cx dX1_isMissing_4 (by decide) (fun c_1 => ?_) (fun c_1 => ?_)
  · refine g_iconst (v := 0) cx dX1_isMissing_11 (by decide) ?_
    exact g_zret cx gr rfl (Nat.zero_le _) (Nat.zero_le _) dX1_isMissing_12 ⟨by simp only [c_1, if_true, if_false], rfl⟩
  · refine g_iconst (v := 1) cx dX1_isMissing_7 (by decide) ?_
    refine g_goto (tgt := 12) cx dX1_isMissing_8 (by decide) ?_
    exact g_zret cx gr rfl (Nat.zero_le _) (Nat.zero_le _) dX1_isMissing_12 ⟨by simp only [c_1, if_true, if_false], rfl⟩

abbrev rmX1_hasSpan : Room := { frames := 0, cells := 0, slots := 0, locals := 0 }
theorem hYX1_hasSpan : gY yX1_hasSpan wsX1_hasSpan cX1_hasSpan 3 (some .boolean) 2 := ⟨⟨_, rfl⟩, by decide +kernel, by decide +kernel, by decide +kernel⟩
theorem iwX1_hasSpan_X1 : ∀ w ∈ u_ws RX1 TX1 3, w ∈ wsX1_hasSpan := by decide +kernel
theorem lkX1_hasSpan_15 : Cond.fieldLink RX1 15 "MuffinBells$Sheet" "size" "I" ∈ wsX1_hasSpan := by decide +kernel
set_option maxRecDepth 100000 in
set_option maxHeartbeats 4000000 in
theorem c_X1_hasSpan (l : Launch) (E : gE) (a : Nat → Nat) (s : Int32 × Int32 × (Nat → Int64)) (f0 : Int32) (n0 : Int32) : cti l yX1_hasSpan wsX1_hasSpan rmX1_hasSpan E [.ref (a 0), .int f0, .int n0] (shW E a s) (fun r w => r = hsp s.2.1 f0 n0 ∧ w = shW E a s) := by
  refine mt_i (cc := cX1_hasSpan) (maxL := 3) (ret := some .boolean) (lv0 := [(0, .ref (a 0)), (1, .int f0), (2, .int n0)]) (by decide) rfl rfl (Nat.le_of_ble_eq_true rfl) (fun X cx gr hI => ?_)
  refine g_iload_n cx dX1_hasSpan_0 2 rfl ?_
  refine g_if_lt (tgt := 30) cx dX1_hasSpan_1 (by decide) (fun c_1 => ?_) (fun c_1 => ?_)
  · refine g_iconst (v := 0) cx dX1_hasSpan_30 (by decide) ?_
    exact g_zret cx gr rfl (Nat.zero_le _) (Nat.zero_le _) dX1_hasSpan_31 ⟨by simp only [hsp, c_1, if_true, if_false], rfl⟩
  · refine g_iload_n cx dX1_hasSpan_4 2 rfl ?_
    refine g_aload_n cx dX1_hasSpan_5 0 rfl ?_
    refine g_get (C := RX1) (T := TX1) (N := 3) (v := .int s.2.1) cx iwX1_hasSpan_X1 0 1 rfl rfl (by decide) lkX1_hasSpan_15 rfl dX1_hasSpan_6 ?_
    refine g_icmp_gt (tgt := 30) cx dX1_hasSpan_9 (by decide) (fun c_2 => ?_) (fun c_2 => ?_)
    · refine g_iconst (v := 0) cx dX1_hasSpan_30 (by decide) ?_
      exact g_zret cx gr rfl (Nat.zero_le _) (Nat.zero_le _) dX1_hasSpan_31 ⟨by simp only [hsp, c_1, c_2, if_true, if_false], rfl⟩
    · refine g_iload_n cx dX1_hasSpan_12 1 rfl ?_
      refine g_if_lt (tgt := 30) cx dX1_hasSpan_13 (by decide) (fun c_3 => ?_) (fun c_3 => ?_)
      · refine g_iconst (v := 0) cx dX1_hasSpan_30 (by decide) ?_
        exact g_zret cx gr rfl (Nat.zero_le _) (Nat.zero_le _) dX1_hasSpan_31 ⟨by simp only [hsp, c_1, c_2, c_3, if_true, if_false], rfl⟩
      · refine g_iload_n cx dX1_hasSpan_16 1 rfl ?_
        refine g_aload_n cx dX1_hasSpan_17 0 rfl ?_
        refine g_get (C := RX1) (T := TX1) (N := 3) (v := .int s.2.1) cx iwX1_hasSpan_X1 0 1 rfl rfl (by decide) lkX1_hasSpan_15 rfl dX1_hasSpan_18 ?_
        refine g_iload_n cx dX1_hasSpan_21 2 rfl ?_
        refine g_isub cx dX1_hasSpan_22 ?_
        refine g_icmp_gt (tgt := 30) cx dX1_hasSpan_23 (by decide) (fun c_4 => ?_) (fun c_4 => ?_)
        · refine g_iconst (v := 0) cx dX1_hasSpan_30 (by decide) ?_
          exact g_zret cx gr rfl (Nat.zero_le _) (Nat.zero_le _) dX1_hasSpan_31 ⟨by simp only [hsp, c_1, c_2, c_3, c_4, if_true, if_false], rfl⟩
        · refine g_iconst (v := 1) cx dX1_hasSpan_26 (by decide) ?_
          refine g_goto (tgt := 31) cx dX1_hasSpan_27 (by decide) ?_
          exact g_zret cx gr rfl (Nat.zero_le _) (Nat.zero_le _) dX1_hasSpan_31 ⟨by simp only [hsp, c_1, c_2, c_3, c_4, if_true, if_false], rfl⟩

abbrev rmX1_put : Room := { frames := 0, cells := 0, slots := 0, locals := 0 }
theorem hYX1_put : gY yX1_put wsX1_put cX1_put 4 (none) 2 := ⟨⟨_, rfl⟩, by decide +kernel, by decide +kernel, by decide +kernel⟩
theorem iwX1_put_X1 : ∀ w ∈ u_ws RX1 TX1 3, w ∈ wsX1_put := by decide +kernel
theorem lkX1_put_11 : Cond.fieldLink RX1 11 "MuffinBells$Sheet" "bits" "I" ∈ wsX1_put := by decide +kernel
theorem lkX1_put_18 : Cond.fieldLink RX1 18 "MuffinBells$Sheet" "numbers" "[J" ∈ wsX1_put := by decide +kernel
set_option maxRecDepth 100000 in
set_option maxHeartbeats 4000000 in
theorem c_X1_put (l : Launch) (E : gE) (a : Nat → Nat) (s : Int32 × Int32 × (Nat → Int64)) (i0 : Int32) (v0 : Int64) (hi0 : vp_in i0 40) : ctv l yX1_put wsX1_put rmX1_put E [.ref (a 0), .int i0, .long v0] (shW E a s) (fun w => w = shW E a (s.1, s.2.1, vp_updL s.2.2 i0.toNatClampNeg (narL s.1 v0))) := by
  refine mt_v (cc := cX1_put) (maxL := 4) (ret := none) (lv0 := [(0, .ref (a 0)), (1, .int i0), (2, .long v0)]) (by decide) rfl rfl (Nat.le_of_ble_eq_true rfl) (fun X cx gr hI => ?_)
  refine g_aload_n cx dX1_put_0 0 rfl ?_
  refine g_get (C := RX1) (T := TX1) (N := 3) (v := .int s.1) cx iwX1_put_X1 0 0 rfl rfl (by decide) lkX1_put_11 rfl dX1_put_1 ?_
  refine g_bipush (v := 8) cx dX1_put_4 (by decide) ?_
  refine g_icmp_ne (tgt := 22) cx dX1_put_6 (by decide) (fun c_1 => ?_) (fun c_1 => ?_)
  · refine g_aload_n cx dX1_put_22 0 rfl ?_
    refine g_get (C := RX1) (T := TX1) (N := 3) (v := .int s.1) cx iwX1_put_X1 0 0 rfl rfl (by decide) lkX1_put_11 rfl dX1_put_23 ?_
    refine g_bipush (v := 16) cx dX1_put_26 (by decide) ?_
    refine g_icmp_ne (tgt := 44) cx dX1_put_28 (by decide) (fun c_2 => ?_) (fun c_2 => ?_)
    · refine g_aload_n cx dX1_put_44 0 rfl ?_
      refine g_get (C := RX1) (T := TX1) (N := 3) (v := .ref (a 1)) cx iwX1_put_X1 0 2 rfl rfl (by decide) lkX1_put_18 rfl dX1_put_45 ?_
      refine g_iload_n cx dX1_put_48 1 rfl ?_
      refine g_lload_n cx dX1_put_49 2 rfl ?_
      refine g_last (ws' := (shW E a (s.1, s.2.1, vp_updL s.2.2 i0.toNatClampNeg v0))) cx 1 rfl rfl hi0 dX1_put_50 rfl ?_
      exact g_vret cx gr (Nat.zero_le _) (Nat.zero_le _) dX1_put_51 (by rw [narL, if_neg c_1, if_neg c_2])
    · refine g_aload_n cx dX1_put_31 0 rfl ?_
      refine g_get (C := RX1) (T := TX1) (N := 3) (v := .ref (a 1)) cx iwX1_put_X1 0 2 rfl rfl (by decide) lkX1_put_18 rfl dX1_put_32 ?_
      refine g_iload_n cx dX1_put_35 1 rfl ?_
      refine g_lload_n cx dX1_put_36 2 rfl ?_
      refine g_l2i cx dX1_put_37 ?_
      refine g_i2s cx dX1_put_38 ?_
      refine g_i2l cx dX1_put_39 ?_
      refine g_last (ws' := (shW E a (s.1, s.2.1, vp_updL s.2.2 i0.toNatClampNeg v0.toInt32.toInt16.toInt32.toInt64))) cx 1 rfl rfl hi0 dX1_put_40 rfl ?_
      refine g_goto (tgt := 51) cx dX1_put_41 (by decide) ?_
      exact g_vret cx gr (Nat.zero_le _) (Nat.zero_le _) dX1_put_51 (by rw [narL, if_neg c_1, if_pos c_2])
  · refine g_aload_n cx dX1_put_9 0 rfl ?_
    refine g_get (C := RX1) (T := TX1) (N := 3) (v := .ref (a 1)) cx iwX1_put_X1 0 2 rfl rfl (by decide) lkX1_put_18 rfl dX1_put_10 ?_
    refine g_iload_n cx dX1_put_13 1 rfl ?_
    refine g_lload_n cx dX1_put_14 2 rfl ?_
    refine g_l2i cx dX1_put_15 ?_
    refine g_i2b cx dX1_put_16 ?_
    refine g_i2l cx dX1_put_17 ?_
    refine g_last (ws' := (shW E a (s.1, s.2.1, vp_updL s.2.2 i0.toNatClampNeg v0.toInt32.toInt8.toInt32.toInt64))) cx 1 rfl rfl hi0 dX1_put_18 rfl ?_
    refine g_goto (tgt := 51) cx dX1_put_19 (by decide) ?_
    exact g_vret cx gr (Nat.zero_le _) (Nat.zero_le _) dX1_put_51 (by rw [narL, if_pos c_1])

abbrev rmX1_lay : Room := { frames := 1, cells := 0, slots := 0, locals := 24 }
theorem hYX1_lay : gY yX1_lay wsX1_lay cX1_lay 3 (none) 2 := ⟨⟨_, rfl⟩, by decide +kernel, by decide +kernel, by decide +kernel⟩
theorem iwX1_lay_X1 : ∀ w ∈ u_ws RX1 TX1 3, w ∈ wsX1_lay := by decide +kernel
theorem lkX1_lay_11 : Cond.fieldLink RX1 11 "MuffinBells$Sheet" "bits" "I" ∈ wsX1_lay := by decide +kernel
theorem lkX1_lay_15 : Cond.fieldLink RX1 15 "MuffinBells$Sheet" "size" "I" ∈ wsX1_lay := by decide +kernel
theorem lkX1_lay_18 : Cond.fieldLink RX1 18 "MuffinBells$Sheet" "numbers" "[J" ∈ wsX1_lay := by decide +kernel
set_option maxRecDepth 100000 in
set_option maxHeartbeats 4000000 in
theorem c_X1_lay (l : Launch) (E : gE) (a : Nat → Nat) (s : Int32 × Int32 × (Nat → Int64)) (b0 : Int32) (n0 : Int32) : ctv l yX1_lay wsX1_lay rmX1_lay E [.ref (a 0), .int b0, .int n0] (shW E a s) (fun w => w = shW E a (b0, laySz b0 n0, fun _ => 0)) := by
  refine mt_v (cc := cX1_lay) (maxL := 3) (ret := none) (lv0 := [(0, .ref (a 0)), (1, .int b0), (2, .int n0)]) (by decide) rfl rfl (Nat.le_of_ble_eq_true rfl) (fun X cx gr hI => ?_)
  refine g_aload_n cx dX1_lay_0 0 rfl ?_
  refine g_iload_n cx dX1_lay_1 1 rfl ?_
  refine g_put (C := RX1) (T := TX1) (N := 3) (ws' := (shW E a (b0, s.2.1, s.2.2))) cx iwX1_lay_X1 tyX1 tyX1_ok nmX1 0 0 rfl rfl (by decide) lkX1_lay_11 rfl rfl rfl (Nat.le_of_ble_eq_true rfl) dX1_lay_2 rfl ?_
  refine g_aload_n cx dX1_lay_5 0 rfl ?_
  refine g_iload_n cx dX1_lay_6 1 rfl ?_
  have J15_0 : gG X 0 0 (shW E a (b0, s.2.1, s.2.2)) 15 [(0, .ref (a 0)), (1, .int b0), (2, .int n0)] (.int (laySz b0 n0) :: .ref (a 0) :: []) := by
    refine g_put (C := RX1) (T := TX1) (N := 3) (ws' := (shW E a (b0, laySz b0 n0, s.2.2))) cx iwX1_lay_X1 tyX1 tyX1_ok nmX1 0 1 rfl rfl (by decide) lkX1_lay_15 rfl rfl rfl (Nat.le_of_ble_eq_true rfl) dX1_lay_15 rfl ?_
    refine g_aload_n cx dX1_lay_18 0 rfl ?_
    refine g_get (C := RX1) (T := TX1) (N := 3) (v := .ref (a 1)) cx iwX1_lay_X1 0 2 rfl rfl (by decide) lkX1_lay_18 rfl dX1_lay_19 ?_
    refine g_lconst (v := 0) cx dX1_lay_22 (by decide) ?_
    refine g_Sv (rest := []) (As := [.ref (a 1), .long 0]) (wr := (shW E a (b0, laySz b0 n0, s.2.2)).eraseIdx 1) cx hYJ7_fill_d0a16 gX1_lay_J7_fill_d0a16 (c_J7_fill_d0a16 l E (a 1) 40 s.2.2 0 (by decide)) [1] [0] rfl rfl rfl rfl (by decide) ⟨Nat.le_of_ble_eq_true rfl, Nat.le_of_ble_eq_true rfl⟩ rfl rfl (Nat.le_of_ble_eq_true rfl) ⟨Nat.le_of_ble_eq_true rfl, Nat.le_of_ble_eq_true rfl⟩ dX1_lay_23 (fun w1 hp => ?_)
    obtain rfl := hp
    refine g_ws (ws' := (shW E a (b0, laySz b0 n0, fun _ => 0))) [0, 1] rfl rfl ?_
    exact g_vret cx gr (Nat.zero_le _) (Nat.zero_le _) dX1_lay_26 (rfl)
  refine g_if_ne (tgt := 14) cx dX1_lay_7 (by decide) (fun c_2 => ?_) (fun c_2 => ?_)
  · refine g_iload_n cx dX1_lay_14 2 rfl ?_
    exact g_top (show (n0 : Int32) = laySz b0 n0 from by simp only [laySz, c_2, if_true, if_false, ite_true, ite_false, not_true_eq_false, not_false_eq_true] <;> rfl) J15_0
  · refine g_iconst (v := 0) cx dX1_lay_10 (by decide) ?_
    refine g_goto (tgt := 15) cx dX1_lay_11 (by decide) ?_
    exact g_top (show (0 : Int32) = laySz b0 n0 from by simp only [laySz, c_2, if_true, if_false, ite_true, ite_false, not_true_eq_false, not_false_eq_true] <;> rfl) J15_0
