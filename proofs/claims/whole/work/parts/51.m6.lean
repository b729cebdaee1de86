theorem fl_n {s x : Int32} {j i : Nat} (hs : s = nI j) (hx : x = nI i) (hj : j < 4) (hi : i < 40) : (40 * s + x).toNatClampNeg = 40 * j + i := by
  rw [hs, hx, show (40 : Int32) = nI 40 from rfl, pk_mul, nI_add, nI_clamp (by omega)]
theorem fl_in {s x : Int32} {j i : Nat} (hs : s = nI j) (hx : x = nI i) (hj : j < 4) (hi : i < 40) : vp_in (40 * s + x) 160 := by
  rw [hs, hx, show (40 : Int32) = nI 40 from rfl, pk_mul, nI_add]
  exact vp_in_nI (by omega) (by decide)
theorem fl_r (m : Nat → Nat → Int64) {s x : Int32} {j i : Nat} (hs : s = nI j) (hx : x = nI i) (hj : j < 4) (hi : i < 40) : flatN m (40 * s + x).toNatClampNeg = m j i := by
  rw [fl_n hs hx hj hi]
  unfold flatN
  rw [show (40 * j + i) / 40 = j by omega, show (40 * j + i) % 40 = i by omega]
theorem fl_w (m : Nat → Nat → Int64) {s x : Int32} {j i : Nat} (hs : s = nI j) (hx : x = nI i) (hj : j < 4) (hi : i < 40) (v : Int64) : vp_updL (flatN m) (40 * s + x).toNatClampNeg v = flatN (upN m j (vp_updL (m j) i v)) := by
  rw [fl_n hs hx hj hi]
  funext k
  unfold vp_updL flatN upN
  by_cases h : k = 40 * j + i
  · rw [if_pos h, h, show (40 * j + i) / 40 = j by omega, show (40 * j + i) % 40 = i by omega, if_pos rfl]
    show v = if i = i then v else _
    rw [if_pos rfl]
  · rw [if_neg h]
    by_cases h2 : k / 40 = j
    · rw [if_pos h2]
      show _ = if k % 40 = i then v else m j (k % 40)
      rw [if_neg (by omega), h2]
    · rw [if_neg h2]

abbrev rmX6_narrowed : Room := { frames := 0, cells := 0, slots := 0, locals := 0 }
theorem hYX6_narrowed : gY yX6_narrowed wsX6_narrowed cX6_narrowed 3 (some .long) 2 := ⟨⟨_, rfl⟩, by decide +kernel, by decide +kernel, by decide +kernel⟩
set_option maxRecDepth 100000 in
set_option maxHeartbeats 4000000 in
theorem c_X6_narrowed (l : Launch) (E : gE) (b0 : Int32) (v0 : Int64) : ctl l yX6_narrowed wsX6_narrowed rmX6_narrowed E [.int b0, .long v0] [] (fun r w => r = narL b0 v0 ∧ w = []) := by
  refine mt_l (cc := cX6_narrowed) (maxL := 3) (ret := some .long) (lv0 := [(0, .int b0), (1, .long v0)]) (by decide) rfl rfl (Nat.le_of_ble_eq_true rfl) (fun X cx gr hI => ?_)
  refine g_iload_n cx dX6_narrowed_0 0 rfl ?_
  refine g_bipush (v := 8) cx dX6_narrowed_1 (by decide) ?_
  refine g_icmp_ne (tgt := 13) cx dX6_narrowed_3 (by decide) (fun c_1 => ?_) (fun c_1 => ?_)
  · refine g_iload_n cx dX6_narrowed_13 0 rfl ?_
    refine g_bipush (v := 16) cx dX6_narrowed_14 (by decide) ?_
    refine g_icmp_ne (tgt := 26) cx dX6_narrowed_16 (by decide) (fun c_2 => ?_) (fun c_2 => ?_)
    · refine g_lload_n cx dX6_narrowed_26 1 rfl ?_
      exact g_lret cx gr (Nat.zero_le _) (Nat.zero_le _) dX6_narrowed_27 ⟨by rw [narL, if_neg c_1, if_neg c_2], rfl⟩
    · refine g_lload_n cx dX6_narrowed_19 1 rfl ?_
      refine g_l2i cx dX6_narrowed_20 ?_
      refine g_i2s cx dX6_narrowed_21 ?_
      refine g_i2l cx dX6_narrowed_22 ?_
      refine g_goto (tgt := 27) cx dX6_narrowed_23 (by decide) ?_
      exact g_lret cx gr (Nat.zero_le _) (Nat.zero_le _) dX6_narrowed_27 ⟨by rw [narL, if_neg c_1, if_pos c_2], rfl⟩
  · refine g_lload_n cx dX6_narrowed_6 1 rfl ?_
    refine g_l2i cx dX6_narrowed_7 ?_
    refine g_i2b cx dX6_narrowed_8 ?_
    refine g_i2l cx dX6_narrowed_9 ?_
    refine g_goto (tgt := 27) cx dX6_narrowed_10 (by decide) ?_
    exact g_lret cx gr (Nat.zero_le _) (Nat.zero_le _) dX6_narrowed_27 ⟨by rw [narL, if_pos c_1], rfl⟩

def wrS (b : Nat → Int32) (s : Int32) : Int32 := if isW s 0 3 = 0 then -1000000001 else if b s.toNatClampNeg = 0 then -1000000006 else 0

abbrev rmX6_wrongSheet : Room := { frames := 2, cells := 0, slots := 0, locals := 45 }
theorem hYX6_wrongSheet : gY yX6_wrongSheet wsX6_wrongSheet cX6_wrongSheet 2 (some .int) 1 := ⟨⟨_, rfl⟩, by decide +kernel, by decide +kernel, by decide +kernel⟩
theorem iwX6_wrongSheet_X6 : ∀ w ∈ u_ws RX6 TX6 16, w ∈ wsX6_wrongSheet := by decide +kernel
theorem lkX6_wrongSheet_28 : Cond.fieldLink RX6 28 "MuffinBellsModel" "bitsOf" "[I" ∈ wsX6_wrongSheet := by decide +kernel
theorem m1X6_wrongSheet_c277 : Cond.constant RX6 277 (-1000000006) ∈ wsX6_wrongSheet := by decide +kernel
theorem m1X6_wrongSheet_c45 : Cond.constant RX6 45 (-1000000001) ∈ wsX6_wrongSheet := by decide +kernel
set_option maxRecDepth 100000 in
set_option maxHeartbeats 4000000 in
theorem c_X6_wrongSheet (l : Launch) (E : gE) (a : Nat → Nat) (c : Cor) (h : Mar) (s0 : Int32) : cti l yX6_wrongSheet wsX6_wrongSheet rmX6_wrongSheet E [.ref (a 0), .int s0] (mW E a c h) (fun r w => r = wrS c.2.2.2.2.2.1 s0 ∧ w = (mW E a c h)) := by
  refine mt_i (cc := cX6_wrongSheet) (maxL := 2) (ret := some .int) (lv0 := [(0, .ref (a 0)), (1, .int s0)]) (by decide) rfl rfl (Nat.le_of_ble_eq_true rfl) (fun X cx gr hI => ?_)
  refine g_iload_n cx dX6_wrongSheet_0 1 rfl ?_
  refine g_SPi (rest := []) (As := [.int s0]) cx hYX6_isOne gX6_wrongSheet_X6_isOne (c_X6_isOne l E s0 ) ⟨Nat.le_of_ble_eq_true rfl, Nat.le_of_ble_eq_true rfl⟩ rfl rfl (Nat.le_of_ble_eq_true rfl) ⟨Nat.le_of_ble_eq_true rfl, Nat.le_of_ble_eq_true rfl⟩ dX6_wrongSheet_1 ?_
  refine g_if_ne (tgt := 12) cx dX6_wrongSheet_4 (by decide) (fun c_1 => ?_) (fun c_1 => ?_)
  · refine g_aload_n cx dX6_wrongSheet_12 0 rfl ?_
    refine g_get (C := RX6) (T := TX6) (N := 16) (v := .ref (a 7)) cx iwX6_wrongSheet_X6 0 12 rfl rfl (by decide) lkX6_wrongSheet_28 rfl dX6_wrongSheet_13 ?_
    refine g_iload_n cx dX6_wrongSheet_16 1 rfl ?_
    refine g_iald cx 7 rfl rfl (isW_vp 3 c_1 (by decide)) dX6_wrongSheet_17 ?_
    refine g_if_ne (tgt := 27) cx dX6_wrongSheet_18 (by decide) (fun c_2 => ?_) (fun c_2 => ?_)
    · refine g_iconst (v := 0) cx dX6_wrongSheet_27 (by decide) ?_
      exact g_iret cx gr (Nat.zero_le _) (Nat.zero_le _) dX6_wrongSheet_28 ⟨by simp only [wrS, c_1, c_2, if_true, if_false], rfl⟩
    · refine g_ldcw cx m1X6_wrongSheet_c277 dX6_wrongSheet_21 ?_
      refine g_goto (tgt := 28) cx dX6_wrongSheet_24 (by decide) ?_
      exact g_iret cx gr (Nat.zero_le _) (Nat.zero_le _) dX6_wrongSheet_28 ⟨by simp only [wrS, c_1, c_2, if_true, if_false], rfl⟩
  · refine g_ldc cx m1X6_wrongSheet_c45 dX6_wrongSheet_7 ?_
    refine g_goto (tgt := 28) cx dX6_wrongSheet_9 (by decide) ?_
    exact g_iret cx gr (Nat.zero_le _) (Nat.zero_le _) dX6_wrongSheet_28 ⟨by simp only [wrS, c_1, if_true, if_false], rfl⟩

theorem wr_0 {b : Nat → Int32} {s : Int32} (h : wrS b s = 0) : ¬ isW s 0 3 = 0 ∧ ¬ b s.toNatClampNeg = 0 := by
  unfold wrS at h
  by_cases h1 : isW s 0 3 = 0
  · rw [if_pos h1] at h; exact absurd h (by decide)
  · rw [if_neg h1] at h
    by_cases h2 : b s.toNatClampNeg = 0
    · rw [if_pos h2] at h; exact absurd h (by decide)
    · exact ⟨h1, h2⟩
theorem wr_c {b : Nat → Int32} {s : Int32} (h : ¬ wrS b s = 0) : (isW s 0 3 = 0 ∧ wrS b s = -1000000001) ∨ (¬ isW s 0 3 = 0 ∧ b s.toNatClampNeg = 0 ∧ wrS b s = -1000000006) := by
  unfold wrS at h ⊢
  by_cases h1 : isW s 0 3 = 0
  · rw [if_pos h1]; exact Or.inl ⟨h1, rfl⟩
  · rw [if_neg h1] at h ⊢
    by_cases h2 : b s.toNatClampNeg = 0
    · rw [if_pos h2]; exact Or.inr ⟨h1, h2, rfl⟩
    · rw [if_neg h2] at h; exact absurd rfl h
theorem wr_in7 {b : Nat → Int32} {s : Int32} (h : ¬ wrS b s = 0) : vp_in (-1000000001 - wrS b s) 7 := by
  rcases wr_c h with ⟨-, e⟩ | ⟨-, -, e⟩
  · rw [e]; unfold vp_in; decide +kernel
  · rw [e]; unfold vp_in; decide +kernel
theorem wr_b {α : Type} {b : Nat → Int32} {s : Int32} {P : Int32 → α} (h : ¬ wrS b s = 0) {X Y Z : α} (hX : X = P (-1000000001)) (hY : Y = P (-1000000006)) : (if isW s 0 3 = 0 then X else if b s.toNatClampNeg = 0 then Y else Z) = P (wrS b s) := by
  rcases wr_c h with ⟨h1, e⟩ | ⟨h1, h2, e⟩
  · rw [if_pos h1, e, hX]
  · rw [if_neg h1, if_pos h2, e, hY]
theorem in_sz {i z : Int32} {Z : Nat} (hz : z = nI Z) (hZ : Z ≤ 40) : isW i 0 (z - 1) = 0 ↔ ¬ (¬ i < 0 ∧ i < z) := by
  have e1 : (z - 1).toInt = (Z : Int) - 1 := by
    rw [hz, Int32.toInt_sub, nI_toInt (by omega), show (1 : Int32).toInt = 1 from rfl, Int.bmod_eq_of_le (by omega) (by omega)]
  have e2 : z.toInt = Z := by rw [hz, nI_toInt (by omega)]
  have e0 : (0 : Int32).toInt = 0 := rfl
  unfold isW
  by_cases h1 : i < 0
  · rw [if_pos h1]; exact ⟨fun _ q => q.1 h1, fun _ => rfl⟩
  · rw [if_neg h1]
    by_cases h2 : z - 1 < i
    · rw [if_pos h2]
      refine ⟨fun _ q => ?_, fun _ => rfl⟩
      rw [fc_lt, e1] at h2
      have h3 := q.2
      rw [fc_lt, e2] at h3
      omega
    · rw [if_neg h2]
      refine ⟨fun q => absurd q (by decide), fun q => absurd ⟨h1, ?_⟩ q⟩
      rw [fc_lt, e1] at h2
      rw [fc_lt, e2]
      omega

theorem fl_40 (m : Nat → Nat → Int64) (j k : Nat) : flatN (upN m j (filC 0 (m j) 40)) k = flatN (upN m j (fun _ => 0)) k := by
  unfold flatN upN
  by_cases h : k / 40 = j
  · rw [if_pos h, if_pos h]
    show (if k % 40 < 40 then (0 : Int64) else m j (k % 40)) = 0
    rw [if_pos (by omega)]
  · rw [if_neg h, if_neg h]

abbrev rmX6_sheet : Room := { frames := 2, cells := 0, slots := 0, locals := 45 }
theorem hYX6_sheet : gY yX6_sheet wsX6_sheet cX6_sheet 5 (some .int) 3 := ⟨⟨_, rfl⟩, by decide +kernel, by decide +kernel, by decide +kernel⟩
theorem m1X6_sheet_c45 : Cond.constant RX6 45 (-1000000001) ∈ wsX6_sheet := by decide +kernel
theorem iwX6_sheet_X6 : ∀ w ∈ u_ws RX6 TX6 16, w ∈ wsX6_sheet := by decide +kernel
theorem lkX6_sheet_28 : Cond.fieldLink RX6 28 "MuffinBellsModel" "bitsOf" "[I" ∈ wsX6_sheet := by decide +kernel
theorem lkX6_sheet_31 : Cond.fieldLink RX6 31 "MuffinBellsModel" "sizeOf" "[I" ∈ wsX6_sheet := by decide +kernel
theorem lkX6_sheet_34 : Cond.fieldLink RX6 34 "MuffinBellsModel" "numbers" "[J" ∈ wsX6_sheet := by decide +kernel
theorem m1X6_sheet_c276 : Cond.constant RX6 276 (-1000000007) ∈ wsX6_sheet := by decide +kernel
set_option maxRecDepth 100000 in
set_option maxHeartbeats 4000000 in
theorem c_X6_sheet (l : Launch) (E : gE) (a : Nat → Nat) (c : Cor) (h : Mar) (s0 : Int32) (b0 : Int32) (n0 : Int32) (hok : cOk c) : cti l yX6_sheet wsX6_sheet rmX6_sheet E [.ref (a 0), .int s0, .int b0, .int n0] (mW E a c h) (fun r w => ∃ h', r = (sp_sheet c s0 b0 n0).1 ∧ w = mW E a (sp_sheet c s0 b0 n0).2 h') := by
  refine mt_i (cc := cX6_sheet) (maxL := 5) (ret := some .int) (lv0 := [(0, .ref (a 0)), (1, .int s0), (2, .int b0), (3, .int n0)]) (by decide) rfl rfl (Nat.le_of_ble_eq_true rfl) (fun X cx gr hI => ?_)
  refine g_iload_n cx dX6_sheet_0 1 rfl ?_
  refine g_SPi (rest := []) (As := [.int s0]) cx hYX6_isOne gX6_sheet_X6_isOne (c_X6_isOne l E s0 ) ⟨Nat.le_of_ble_eq_true rfl, Nat.le_of_ble_eq_true rfl⟩ rfl rfl (Nat.le_of_ble_eq_true rfl) ⟨Nat.le_of_ble_eq_true rfl, Nat.le_of_ble_eq_true rfl⟩ dX6_sheet_1 ?_
  refine g_if_eq (tgt := 29) cx dX6_sheet_4 (by decide) (fun c_1 => ?_) (fun c_1 => ?_)
  · refine g_aload_n cx dX6_sheet_29 0 rfl ?_
    refine g_ldc cx m1X6_sheet_c45 dX6_sheet_30 ?_
    refine g_VSi (rest := []) (As := [.int (-1000000001)]) cx hYX6_finds gX6_sheet_X6_finds (c_X6_finds l E a c h (-1000000001) (by unfold vp_in; decide +kernel)) rfl rfl rfl ⟨Nat.le_of_ble_eq_true rfl, Nat.le_of_ble_eq_true rfl⟩ rfl rfl (Nat.le_of_ble_eq_true rfl) ⟨Nat.le_of_ble_eq_true rfl, Nat.le_of_ble_eq_true rfl⟩ dX6_sheet_32 (fun r w1 hp => ?_)
    obtain ⟨rfl, rfl⟩ := hp
    exact g_iret cx gr (Nat.zero_le _) (Nat.zero_le _) dX6_sheet_35 (mleaf (by rw [sp_sheet, if_pos c_1]; rfl))
  · refine g_iload_n cx dX6_sheet_7 2 rfl ?_
    refine g_if_eq (tgt := 36) cx dX6_sheet_8 (by decide) (fun c_2 => ?_) (fun c_2 => ?_)
    · refine g_iload_n cx dX6_sheet_36 3 rfl ?_
      refine g_if_ge (tgt := 48) cx dX6_sheet_37 (by decide) (fun c_3 => ?_) (fun c_3 => ?_)
      · refine g_iload_n cx dX6_sheet_48 3 rfl ?_
        refine g_bipush (v := 40) cx dX6_sheet_49 (by decide) ?_
        refine g_icmp_le (tgt := 61) cx dX6_sheet_51 (by decide) (fun c_4 => ?_) (fun c_4 => ?_)
        · obtain ⟨j, hj3, hj⟩ := isW_nI 3 c_1 (by decide)
          have hj4 : j < 4 := by omega
          have hjc : s0.toNatClampNeg = j := by rw [hj, nI_clamp (by omega)]
          refine g_aload_n cx dX6_sheet_61 0 rfl ?_
          refine g_get (C := RX6) (T := TX6) (N := 16) (v := .ref (a 7)) cx iwX6_sheet_X6 0 12 rfl rfl (by decide) lkX6_sheet_28 rfl dX6_sheet_62 ?_
          refine g_iload_n cx dX6_sheet_65 1 rfl ?_
          refine g_iload_n cx dX6_sheet_66 2 rfl ?_
          refine g_iast (ws' := (mW E a (c.1, c.2.1, c.2.2.1, c.2.2.2.1, c.2.2.2.2.1, upd c.2.2.2.2.2.1 s0.toNatClampNeg b0, c.2.2.2.2.2.2.1, c.2.2.2.2.2.2.2.1, c.2.2.2.2.2.2.2.2) h)) cx 7 rfl rfl (vp_of_nI hj hj4 (by decide)) dX6_sheet_67 rfl ?_
          refine g_aload_n cx dX6_sheet_68 0 rfl ?_
          refine g_get (C := RX6) (T := TX6) (N := 16) (v := .ref (a 8)) cx iwX6_sheet_X6 0 13 rfl rfl (by decide) lkX6_sheet_31 rfl dX6_sheet_69 ?_
          refine g_iload_n cx dX6_sheet_72 1 rfl ?_
          refine g_iload_n cx dX6_sheet_73 2 rfl ?_
          refine g_if_ne (tgt := 81) cx dX6_sheet_74 (by decide) (fun c_5 => absurd (c_2) c_5) (fun c_5 => ?_)
          refine g_iconst (v := 0) cx dX6_sheet_77 (by decide) ?_
          refine g_goto (tgt := 82) cx dX6_sheet_78 (by decide) ?_
          refine g_top (y := laySz b0 n0) (by rw [laySz, if_pos c_2]) ?_
          refine g_iast (ws' := (mW E a (c.1, c.2.1, c.2.2.1, c.2.2.2.1, c.2.2.2.2.1, upd c.2.2.2.2.2.1 s0.toNatClampNeg b0, upd c.2.2.2.2.2.2.1 s0.toNatClampNeg (laySz b0 n0), c.2.2.2.2.2.2.2.1, c.2.2.2.2.2.2.2.2) h)) cx 8 rfl rfl (vp_of_nI hj hj4 (by decide)) dX6_sheet_82 rfl ?_
          refine g_iconst (v := 0) cx dX6_sheet_83 (by decide) ?_
          refine g_istore (lv' := [(4, .int 0), (0, .ref (a 0)), (1, .int s0), (2, .int b0), (3, .int n0)]) cx dX6_sheet_84 (by decide) rfl ?_
          have LP86 : ∀ (d : Nat) (i : Nat) (x : Int32), i + d = 41 → i ≤ 40 → x = nI i → gG X 0 0 (mW E a (c.1, c.2.1, c.2.2.1, c.2.2.2.1, c.2.2.2.2.1, upd c.2.2.2.2.2.1 s0.toNatClampNeg b0, upd c.2.2.2.2.2.2.1 s0.toNatClampNeg (laySz b0 n0), upN c.2.2.2.2.2.2.2.1 j (filC 0 (c.2.2.2.2.2.2.2.1 j) i), c.2.2.2.2.2.2.2.2) h) 86 [(0, .ref (a 0)), (1, .int s0), (4, .int x)] [] := by
            intro d
            induction d with
            | zero =>
              intro i x hi hiN hx
              omega
            | succ d ih =>
              intro i x hi hiN hx
              refine g_iload cx dX6_sheet_86 2 rfl ?_
              refine g_bipush (v := 40) cx dX6_sheet_88 (by decide) ?_
              refine g_icmp_ge (tgt := 112) cx dX6_sheet_90 (by decide) (fun c_6 => ?_) (fun c_6 => ?_)
              · obtain rfl : i = 40 := by have := ge_of 40 hx c_6 (by omega) (by decide); omega
                refine g_cgL (ws' := (mW E a (c.1, c.2.1, c.2.2.1, c.2.2.2.1, c.2.2.2.2.1, upd c.2.2.2.2.2.1 s0.toNatClampNeg b0, upd c.2.2.2.2.2.2.1 s0.toNatClampNeg (laySz b0 n0), upN c.2.2.2.2.2.2.2.1 j (fun _ => 0), c.2.2.2.2.2.2.2.2) h)) (g := flatN (upN c.2.2.2.2.2.2.2.1 j (fun _ => 0))) 9 rfl (fun k hk => fl_40 _ _ _) rfl ?_
                refine g_aload_n cx dX6_sheet_112 0 rfl ?_
                refine g_get (C := RX6) (T := TX6) (N := 16) (v := .ref (a 8)) cx iwX6_sheet_X6 0 13 rfl rfl (by decide) lkX6_sheet_31 rfl dX6_sheet_113 ?_
                refine g_iload_n cx dX6_sheet_116 1 rfl ?_
                refine g_iald cx 8 rfl rfl (vp_of_nI hj hj4 (by decide)) dX6_sheet_117 ?_
                exact g_iret cx gr (Nat.zero_le _) (Nat.zero_le _) dX6_sheet_118 (mleaf (by rw [sp_sheet, if_neg c_1, if_neg (by simp [isBt, c_2]), if_pos c_3, if_pos c_4, cSh, hjc]; exact Prod.ext pk_us.symm rfl))
              · refine g_aload_n cx dX6_sheet_93 0 rfl ?_
                refine g_get (C := RX6) (T := TX6) (N := 16) (v := .ref (a 9)) cx iwX6_sheet_X6 0 14 rfl rfl (by decide) lkX6_sheet_34 rfl dX6_sheet_94 ?_
                refine g_bipush (v := 40) cx dX6_sheet_97 (by decide) ?_
                refine g_iload_n cx dX6_sheet_99 1 rfl ?_
                refine g_imul cx dX6_sheet_100 ?_
                refine g_iload cx dX6_sheet_101 2 rfl ?_
                refine g_iadd cx dX6_sheet_103 ?_
                refine g_lconst (v := 0) cx dX6_sheet_104 (by decide) ?_
                refine g_last (ws' := (mW E a (c.1, c.2.1, c.2.2.1, c.2.2.2.1, c.2.2.2.2.1, upd c.2.2.2.2.2.1 s0.toNatClampNeg b0, upd c.2.2.2.2.2.2.1 s0.toNatClampNeg (laySz b0 n0), upN (upN c.2.2.2.2.2.2.2.1 j (filC 0 (c.2.2.2.2.2.2.2.1 j) i)) j (vp_updL ((upN c.2.2.2.2.2.2.2.1 j (filC 0 (c.2.2.2.2.2.2.2.1 j) i)) j) i 0), c.2.2.2.2.2.2.2.2) h)) cx 9 rfl rfl (fl_in hj hx hj4 (lt_of 40 hx c_6 (by omega) (by decide))) dX6_sheet_105 (congrArg (fun f => List.set (mW E a (c.1, c.2.1, c.2.2.1, c.2.2.2.1, c.2.2.2.2.1, upd c.2.2.2.2.2.1 s0.toNatClampNeg b0, upd c.2.2.2.2.2.2.1 s0.toNatClampNeg (laySz b0 n0), upN c.2.2.2.2.2.2.2.1 j (filC 0 (c.2.2.2.2.2.2.2.1 j) i), c.2.2.2.2.2.2.2.2) h) 9 (a 9, .inl (gJ E, 160, .inr (.inl f)))) (fl_w (upN c.2.2.2.2.2.2.2.1 j (filC 0 (c.2.2.2.2.2.2.2.1 j) i)) hj hx hj4 (lt_of 40 hx c_6 (by omega) (by decide)) 0)) ?_
                refine g_iinc (v := x + 1) (lv' := [(4, .int (x + 1)), (0, .ref (a 0)), (1, .int s0)]) cx dX6_sheet_106 2 rfl rfl (by decide) rfl ?_
                refine g_goto (tgt := 86) cx dX6_sheet_109 (by decide) ?_
                exact g_lv [1, 2, 0] rfl (g_w (congrArg (fun F : Nat → Nat → Int64 => (mW E a (c.1, c.2.1, c.2.2.1, c.2.2.2.1, c.2.2.2.2.1, upd c.2.2.2.2.2.1 s0.toNatClampNeg b0, upd c.2.2.2.2.2.2.1 s0.toNatClampNeg (laySz b0 n0), F, c.2.2.2.2.2.2.2.2) h)) (by rw [upN_upN, upN_at, filC_s])) (ih (i + 1) (x + 1) (by omega) (by have := lt_of 40 hx c_6 (by omega) (by decide); omega) (by rw [hx]; exact nI_1 i)))
          refine g_w (congrArg (fun F : Nat → Nat → Int64 => (mW E a (c.1, c.2.1, c.2.2.1, c.2.2.2.1, c.2.2.2.2.1, upd c.2.2.2.2.2.1 s0.toNatClampNeg b0, upd c.2.2.2.2.2.2.1 s0.toNatClampNeg (laySz b0 n0), F, c.2.2.2.2.2.2.2.2) h)) (show c.2.2.2.2.2.2.2.1 = upN c.2.2.2.2.2.2.2.1 j (filC 0 (c.2.2.2.2.2.2.2.1 j) 0) from by rw [filC_0, upN_self])) ?_
          exact g_lv [1, 2, 0] rfl (LP86 41 0 0 (by omega) (by omega) rfl)
        · refine g_aload_n cx dX6_sheet_54 0 rfl ?_
          refine g_ldc cx m1X6_sheet_c45 dX6_sheet_55 ?_
          refine g_VSi (rest := []) (As := [.int (-1000000001)]) cx hYX6_finds gX6_sheet_X6_finds (c_X6_finds l E a c h (-1000000001) (by unfold vp_in; decide +kernel)) rfl rfl rfl ⟨Nat.le_of_ble_eq_true rfl, Nat.le_of_ble_eq_true rfl⟩ rfl rfl (Nat.le_of_ble_eq_true rfl) ⟨Nat.le_of_ble_eq_true rfl, Nat.le_of_ble_eq_true rfl⟩ dX6_sheet_57 (fun r w1 hp => ?_)
          obtain ⟨rfl, rfl⟩ := hp
          exact g_iret cx gr (Nat.zero_le _) (Nat.zero_le _) dX6_sheet_60 (mleaf (by rw [sp_sheet, if_neg c_1, if_neg (by simp [isBt, c_2]), if_pos c_3, if_neg c_4]; rfl))
      · refine g_aload_n cx dX6_sheet_40 0 rfl ?_
        refine g_ldcw cx m1X6_sheet_c276 dX6_sheet_41 ?_
        refine g_VSi (rest := []) (As := [.int (-1000000007)]) cx hYX6_finds gX6_sheet_X6_finds (c_X6_finds l E a c h (-1000000007) (by unfold vp_in; decide +kernel)) rfl rfl rfl ⟨Nat.le_of_ble_eq_true rfl, Nat.le_of_ble_eq_true rfl⟩ rfl rfl (Nat.le_of_ble_eq_true rfl) ⟨Nat.le_of_ble_eq_true rfl, Nat.le_of_ble_eq_true rfl⟩ dX6_sheet_44 (fun r w1 hp => ?_)
        obtain ⟨rfl, rfl⟩ := hp
        exact g_iret cx gr (Nat.zero_le _) (Nat.zero_le _) dX6_sheet_47 (mleaf (by rw [sp_sheet, if_neg c_1, if_neg (by simp [isBt, c_2]), if_neg c_3]; rfl))
    · refine g_iload_n cx dX6_sheet_11 2 rfl ?_
      refine g_bipush (v := 8) cx dX6_sheet_12 (by decide) ?_
      refine g_icmp_eq (tgt := 36) cx dX6_sheet_14 (by decide) (fun c_7 => ?_) (fun c_7 => ?_)
      · refine g_iload_n cx dX6_sheet_36 3 rfl ?_
        refine g_if_ge (tgt := 48) cx dX6_sheet_37 (by decide) (fun c_8 => ?_) (fun c_8 => ?_)
        · refine g_iload_n cx dX6_sheet_48 3 rfl ?_
          refine g_bipush (v := 40) cx dX6_sheet_49 (by decide) ?_
          refine g_icmp_le (tgt := 61) cx dX6_sheet_51 (by decide) (fun c_9 => ?_) (fun c_9 => ?_)
          · obtain ⟨j, hj3, hj⟩ := isW_nI 3 c_1 (by decide)
            have hj4 : j < 4 := by omega
            have hjc : s0.toNatClampNeg = j := by rw [hj, nI_clamp (by omega)]
            refine g_aload_n cx dX6_sheet_61 0 rfl ?_
            refine g_get (C := RX6) (T := TX6) (N := 16) (v := .ref (a 7)) cx iwX6_sheet_X6 0 12 rfl rfl (by decide) lkX6_sheet_28 rfl dX6_sheet_62 ?_
            refine g_iload_n cx dX6_sheet_65 1 rfl ?_
            refine g_iload_n cx dX6_sheet_66 2 rfl ?_
            refine g_iast (ws' := (mW E a (c.1, c.2.1, c.2.2.1, c.2.2.2.1, c.2.2.2.2.1, upd c.2.2.2.2.2.1 s0.toNatClampNeg b0, c.2.2.2.2.2.2.1, c.2.2.2.2.2.2.2.1, c.2.2.2.2.2.2.2.2) h)) cx 7 rfl rfl (vp_of_nI hj hj4 (by decide)) dX6_sheet_67 rfl ?_
            refine g_aload_n cx dX6_sheet_68 0 rfl ?_
            refine g_get (C := RX6) (T := TX6) (N := 16) (v := .ref (a 8)) cx iwX6_sheet_X6 0 13 rfl rfl (by decide) lkX6_sheet_31 rfl dX6_sheet_69 ?_
            refine g_iload_n cx dX6_sheet_72 1 rfl ?_
            refine g_iload_n cx dX6_sheet_73 2 rfl ?_
            refine g_if_ne (tgt := 81) cx dX6_sheet_74 (by decide) (fun c_10 => ?_) (fun c_10 => absurd c_10 (c_2))
            refine g_iload_n cx dX6_sheet_81 3 rfl ?_
            refine g_top (y := laySz b0 n0) (by rw [laySz, if_neg c_2]) ?_
            refine g_iast (ws' := (mW E a (c.1, c.2.1, c.2.2.1, c.2.2.2.1, c.2.2.2.2.1, upd c.2.2.2.2.2.1 s0.toNatClampNeg b0, upd c.2.2.2.2.2.2.1 s0.toNatClampNeg (laySz b0 n0), c.2.2.2.2.2.2.2.1, c.2.2.2.2.2.2.2.2) h)) cx 8 rfl rfl (vp_of_nI hj hj4 (by decide)) dX6_sheet_82 rfl ?_
            refine g_iconst (v := 0) cx dX6_sheet_83 (by decide) ?_
            refine g_istore (lv' := [(4, .int 0), (0, .ref (a 0)), (1, .int s0), (2, .int b0), (3, .int n0)]) cx dX6_sheet_84 (by decide) rfl ?_
            have LP86 : ∀ (d : Nat) (i : Nat) (x : Int32), i + d = 41 → i ≤ 40 → x = nI i → gG X 0 0 (mW E a (c.1, c.2.1, c.2.2.1, c.2.2.2.1, c.2.2.2.2.1, upd c.2.2.2.2.2.1 s0.toNatClampNeg b0, upd c.2.2.2.2.2.2.1 s0.toNatClampNeg (laySz b0 n0), upN c.2.2.2.2.2.2.2.1 j (filC 0 (c.2.2.2.2.2.2.2.1 j) i), c.2.2.2.2.2.2.2.2) h) 86 [(0, .ref (a 0)), (1, .int s0), (4, .int x)] [] := by
              intro d
              induction d with
              | zero =>
                intro i x hi hiN hx
                omega
              | succ d ih =>
                intro i x hi hiN hx
                refine g_iload cx dX6_sheet_86 2 rfl ?_
                refine g_bipush (v := 40) cx dX6_sheet_88 (by decide) ?_
                refine g_icmp_ge (tgt := 112) cx dX6_sheet_90 (by decide) (fun c_11 => ?_) (fun c_11 => ?_)
                · obtain rfl : i = 40 := by have := ge_of 40 hx c_11 (by omega) (by decide); omega
                  refine g_cgL (ws' := (mW E a (c.1, c.2.1, c.2.2.1, c.2.2.2.1, c.2.2.2.2.1, upd c.2.2.2.2.2.1 s0.toNatClampNeg b0, upd c.2.2.2.2.2.2.1 s0.toNatClampNeg (laySz b0 n0), upN c.2.2.2.2.2.2.2.1 j (fun _ => 0), c.2.2.2.2.2.2.2.2) h)) (g := flatN (upN c.2.2.2.2.2.2.2.1 j (fun _ => 0))) 9 rfl (fun k hk => fl_40 _ _ _) rfl ?_
                  refine g_aload_n cx dX6_sheet_112 0 rfl ?_
                  refine g_get (C := RX6) (T := TX6) (N := 16) (v := .ref (a 8)) cx iwX6_sheet_X6 0 13 rfl rfl (by decide) lkX6_sheet_31 rfl dX6_sheet_113 ?_
                  refine g_iload_n cx dX6_sheet_116 1 rfl ?_
                  refine g_iald cx 8 rfl rfl (vp_of_nI hj hj4 (by decide)) dX6_sheet_117 ?_
                  exact g_iret cx gr (Nat.zero_le _) (Nat.zero_le _) dX6_sheet_118 (mleaf (by rw [sp_sheet, if_neg c_1, if_neg (by simp [isBt, c_2, c_7]), if_pos c_8, if_pos c_9, cSh, hjc]; exact Prod.ext pk_us.symm rfl))
                · refine g_aload_n cx dX6_sheet_93 0 rfl ?_
                  refine g_get (C := RX6) (T := TX6) (N := 16) (v := .ref (a 9)) cx iwX6_sheet_X6 0 14 rfl rfl (by decide) lkX6_sheet_34 rfl dX6_sheet_94 ?_
                  refine g_bipush (v := 40) cx dX6_sheet_97 (by decide) ?_
                  refine g_iload_n cx dX6_sheet_99 1 rfl ?_
                  refine g_imul cx dX6_sheet_100 ?_
                  refine g_iload cx dX6_sheet_101 2 rfl ?_
                  refine g_iadd cx dX6_sheet_103 ?_
                  refine g_lconst (v := 0) cx dX6_sheet_104 (by decide) ?_
                  refine g_last (ws' := (mW E a (c.1, c.2.1, c.2.2.1, c.2.2.2.1, c.2.2.2.2.1, upd c.2.2.2.2.2.1 s0.toNatClampNeg b0, upd c.2.2.2.2.2.2.1 s0.toNatClampNeg (laySz b0 n0), upN (upN c.2.2.2.2.2.2.2.1 j (filC 0 (c.2.2.2.2.2.2.2.1 j) i)) j (vp_updL ((upN c.2.2.2.2.2.2.2.1 j (filC 0 (c.2.2.2.2.2.2.2.1 j) i)) j) i 0), c.2.2.2.2.2.2.2.2) h)) cx 9 rfl rfl (fl_in hj hx hj4 (lt_of 40 hx c_11 (by omega) (by decide))) dX6_sheet_105 (congrArg (fun f => List.set (mW E a (c.1, c.2.1, c.2.2.1, c.2.2.2.1, c.2.2.2.2.1, upd c.2.2.2.2.2.1 s0.toNatClampNeg b0, upd c.2.2.2.2.2.2.1 s0.toNatClampNeg (laySz b0 n0), upN c.2.2.2.2.2.2.2.1 j (filC 0 (c.2.2.2.2.2.2.2.1 j) i), c.2.2.2.2.2.2.2.2) h) 9 (a 9, .inl (gJ E, 160, .inr (.inl f)))) (fl_w (upN c.2.2.2.2.2.2.2.1 j (filC 0 (c.2.2.2.2.2.2.2.1 j) i)) hj hx hj4 (lt_of 40 hx c_11 (by omega) (by decide)) 0)) ?_
                  refine g_iinc (v := x + 1) (lv' := [(4, .int (x + 1)), (0, .ref (a 0)), (1, .int s0)]) cx dX6_sheet_106 2 rfl rfl (by decide) rfl ?_
                  refine g_goto (tgt := 86) cx dX6_sheet_109 (by decide) ?_
                  exact g_lv [1, 2, 0] rfl (g_w (congrArg (fun F : Nat → Nat → Int64 => (mW E a (c.1, c.2.1, c.2.2.1, c.2.2.2.1, c.2.2.2.2.1, upd c.2.2.2.2.2.1 s0.toNatClampNeg b0, upd c.2.2.2.2.2.2.1 s0.toNatClampNeg (laySz b0 n0), F, c.2.2.2.2.2.2.2.2) h)) (by rw [upN_upN, upN_at, filC_s])) (ih (i + 1) (x + 1) (by omega) (by have := lt_of 40 hx c_11 (by omega) (by decide); omega) (by rw [hx]; exact nI_1 i)))
            refine g_w (congrArg (fun F : Nat → Nat → Int64 => (mW E a (c.1, c.2.1, c.2.2.1, c.2.2.2.1, c.2.2.2.2.1, upd c.2.2.2.2.2.1 s0.toNatClampNeg b0, upd c.2.2.2.2.2.2.1 s0.toNatClampNeg (laySz b0 n0), F, c.2.2.2.2.2.2.2.2) h)) (show c.2.2.2.2.2.2.2.1 = upN c.2.2.2.2.2.2.2.1 j (filC 0 (c.2.2.2.2.2.2.2.1 j) 0) from by rw [filC_0, upN_self])) ?_
            exact g_lv [1, 2, 0] rfl (LP86 41 0 0 (by omega) (by omega) rfl)
          · refine g_aload_n cx dX6_sheet_54 0 rfl ?_
            refine g_ldc cx m1X6_sheet_c45 dX6_sheet_55 ?_
            refine g_VSi (rest := []) (As := [.int (-1000000001)]) cx hYX6_finds gX6_sheet_X6_finds (c_X6_finds l E a c h (-1000000001) (by unfold vp_in; decide +kernel)) rfl rfl rfl ⟨Nat.le_of_ble_eq_true rfl, Nat.le_of_ble_eq_true rfl⟩ rfl rfl (Nat.le_of_ble_eq_true rfl) ⟨Nat.le_of_ble_eq_true rfl, Nat.le_of_ble_eq_true rfl⟩ dX6_sheet_57 (fun r w1 hp => ?_)
            obtain ⟨rfl, rfl⟩ := hp
            exact g_iret cx gr (Nat.zero_le _) (Nat.zero_le _) dX6_sheet_60 (mleaf (by rw [sp_sheet, if_neg c_1, if_neg (by simp [isBt, c_2, c_7]), if_pos c_8, if_neg c_9]; rfl))
        · refine g_aload_n cx dX6_sheet_40 0 rfl ?_
          refine g_ldcw cx m1X6_sheet_c276 dX6_sheet_41 ?_
          refine g_VSi (rest := []) (As := [.int (-1000000007)]) cx hYX6_finds gX6_sheet_X6_finds (c_X6_finds l E a c h (-1000000007) (by unfold vp_in; decide +kernel)) rfl rfl rfl ⟨Nat.le_of_ble_eq_true rfl, Nat.le_of_ble_eq_true rfl⟩ rfl rfl (Nat.le_of_ble_eq_true rfl) ⟨Nat.le_of_ble_eq_true rfl, Nat.le_of_ble_eq_true rfl⟩ dX6_sheet_44 (fun r w1 hp => ?_)
          obtain ⟨rfl, rfl⟩ := hp
          exact g_iret cx gr (Nat.zero_le _) (Nat.zero_le _) dX6_sheet_47 (mleaf (by rw [sp_sheet, if_neg c_1, if_neg (by simp [isBt, c_2, c_7]), if_neg c_8]; rfl))
      · refine g_iload_n cx dX6_sheet_17 2 rfl ?_
        refine g_bipush (v := 16) cx dX6_sheet_18 (by decide) ?_
        refine g_icmp_eq (tgt := 36) cx dX6_sheet_20 (by decide) (fun c_12 => ?_) (fun c_12 => ?_)
        · refine g_iload_n cx dX6_sheet_36 3 rfl ?_
          refine g_if_ge (tgt := 48) cx dX6_sheet_37 (by decide) (fun c_13 => ?_) (fun c_13 => ?_)
          · refine g_iload_n cx dX6_sheet_48 3 rfl ?_
            refine g_bipush (v := 40) cx dX6_sheet_49 (by decide) ?_
            refine g_icmp_le (tgt := 61) cx dX6_sheet_51 (by decide) (fun c_14 => ?_) (fun c_14 => ?_)
            · obtain ⟨j, hj3, hj⟩ := isW_nI 3 c_1 (by decide)
              have hj4 : j < 4 := by omega
              have hjc : s0.toNatClampNeg = j := by rw [hj, nI_clamp (by omega)]
              refine g_aload_n cx dX6_sheet_61 0 rfl ?_
              refine g_get (C := RX6) (T := TX6) (N := 16) (v := .ref (a 7)) cx iwX6_sheet_X6 0 12 rfl rfl (by decide) lkX6_sheet_28 rfl dX6_sheet_62 ?_
              refine g_iload_n cx dX6_sheet_65 1 rfl ?_
              refine g_iload_n cx dX6_sheet_66 2 rfl ?_
              refine g_iast (ws' := (mW E a (c.1, c.2.1, c.2.2.1, c.2.2.2.1, c.2.2.2.2.1, upd c.2.2.2.2.2.1 s0.toNatClampNeg b0, c.2.2.2.2.2.2.1, c.2.2.2.2.2.2.2.1, c.2.2.2.2.2.2.2.2) h)) cx 7 rfl rfl (vp_of_nI hj hj4 (by decide)) dX6_sheet_67 rfl ?_
              refine g_aload_n cx dX6_sheet_68 0 rfl ?_
              refine g_get (C := RX6) (T := TX6) (N := 16) (v := .ref (a 8)) cx iwX6_sheet_X6 0 13 rfl rfl (by decide) lkX6_sheet_31 rfl dX6_sheet_69 ?_
              refine g_iload_n cx dX6_sheet_72 1 rfl ?_
              refine g_iload_n cx dX6_sheet_73 2 rfl ?_
              refine g_if_ne (tgt := 81) cx dX6_sheet_74 (by decide) (fun c_15 => ?_) (fun c_15 => absurd c_15 (c_2))
              refine g_iload_n cx dX6_sheet_81 3 rfl ?_
              refine g_top (y := laySz b0 n0) (by rw [laySz, if_neg c_2]) ?_
              refine g_iast (ws' := (mW E a (c.1, c.2.1, c.2.2.1, c.2.2.2.1, c.2.2.2.2.1, upd c.2.2.2.2.2.1 s0.toNatClampNeg b0, upd c.2.2.2.2.2.2.1 s0.toNatClampNeg (laySz b0 n0), c.2.2.2.2.2.2.2.1, c.2.2.2.2.2.2.2.2) h)) cx 8 rfl rfl (vp_of_nI hj hj4 (by decide)) dX6_sheet_82 rfl ?_
              refine g_iconst (v := 0) cx dX6_sheet_83 (by decide) ?_
              refine g_istore (lv' := [(4, .int 0), (0, .ref (a 0)), (1, .int s0), (2, .int b0), (3, .int n0)]) cx dX6_sheet_84 (by decide) rfl ?_
              have LP86 : ∀ (d : Nat) (i : Nat) (x : Int32), i + d = 41 → i ≤ 40 → x = nI i → gG X 0 0 (mW E a (c.1, c.2.1, c.2.2.1, c.2.2.2.1, c.2.2.2.2.1, upd c.2.2.2.2.2.1 s0.toNatClampNeg b0, upd c.2.2.2.2.2.2.1 s0.toNatClampNeg (laySz b0 n0), upN c.2.2.2.2.2.2.2.1 j (filC 0 (c.2.2.2.2.2.2.2.1 j) i), c.2.2.2.2.2.2.2.2) h) 86 [(0, .ref (a 0)), (1, .int s0), (4, .int x)] [] := by
                intro d
                induction d with
                | zero =>
                  intro i x hi hiN hx
                  omega
                | succ d ih =>
                  intro i x hi hiN hx
                  refine g_iload cx dX6_sheet_86 2 rfl ?_
                  refine g_bipush (v := 40) cx dX6_sheet_88 (by decide) ?_
                  refine g_icmp_ge (tgt := 112) cx dX6_sheet_90 (by decide) (fun c_16 => ?_) (fun c_16 => ?_)
                  · obtain rfl : i = 40 := by have := ge_of 40 hx c_16 (by omega) (by decide); omega
                    refine g_cgL (ws' := (mW E a (c.1, c.2.1, c.2.2.1, c.2.2.2.1, c.2.2.2.2.1, upd c.2.2.2.2.2.1 s0.toNatClampNeg b0, upd c.2.2.2.2.2.2.1 s0.toNatClampNeg (laySz b0 n0), upN c.2.2.2.2.2.2.2.1 j (fun _ => 0), c.2.2.2.2.2.2.2.2) h)) (g := flatN (upN c.2.2.2.2.2.2.2.1 j (fun _ => 0))) 9 rfl (fun k hk => fl_40 _ _ _) rfl ?_
                    refine g_aload_n cx dX6_sheet_112 0 rfl ?_
                    refine g_get (C := RX6) (T := TX6) (N := 16) (v := .ref (a 8)) cx iwX6_sheet_X6 0 13 rfl rfl (by decide) lkX6_sheet_31 rfl dX6_sheet_113 ?_
                    refine g_iload_n cx dX6_sheet_116 1 rfl ?_
                    refine g_iald cx 8 rfl rfl (vp_of_nI hj hj4 (by decide)) dX6_sheet_117 ?_
                    exact g_iret cx gr (Nat.zero_le _) (Nat.zero_le _) dX6_sheet_118 (mleaf (by rw [sp_sheet, if_neg c_1, if_neg (by simp [isBt, c_2, c_7, c_12]), if_pos c_13, if_pos c_14, cSh, hjc]; exact Prod.ext pk_us.symm rfl))
                  · refine g_aload_n cx dX6_sheet_93 0 rfl ?_
                    refine g_get (C := RX6) (T := TX6) (N := 16) (v := .ref (a 9)) cx iwX6_sheet_X6 0 14 rfl rfl (by decide) lkX6_sheet_34 rfl dX6_sheet_94 ?_
                    refine g_bipush (v := 40) cx dX6_sheet_97 (by decide) ?_
                    refine g_iload_n cx dX6_sheet_99 1 rfl ?_
                    refine g_imul cx dX6_sheet_100 ?_
                    refine g_iload cx dX6_sheet_101 2 rfl ?_
                    refine g_iadd cx dX6_sheet_103 ?_
                    refine g_lconst (v := 0) cx dX6_sheet_104 (by decide) ?_
                    refine g_last (ws' := (mW E a (c.1, c.2.1, c.2.2.1, c.2.2.2.1, c.2.2.2.2.1, upd c.2.2.2.2.2.1 s0.toNatClampNeg b0, upd c.2.2.2.2.2.2.1 s0.toNatClampNeg (laySz b0 n0), upN (upN c.2.2.2.2.2.2.2.1 j (filC 0 (c.2.2.2.2.2.2.2.1 j) i)) j (vp_updL ((upN c.2.2.2.2.2.2.2.1 j (filC 0 (c.2.2.2.2.2.2.2.1 j) i)) j) i 0), c.2.2.2.2.2.2.2.2) h)) cx 9 rfl rfl (fl_in hj hx hj4 (lt_of 40 hx c_16 (by omega) (by decide))) dX6_sheet_105 (congrArg (fun f => List.set (mW E a (c.1, c.2.1, c.2.2.1, c.2.2.2.1, c.2.2.2.2.1, upd c.2.2.2.2.2.1 s0.toNatClampNeg b0, upd c.2.2.2.2.2.2.1 s0.toNatClampNeg (laySz b0 n0), upN c.2.2.2.2.2.2.2.1 j (filC 0 (c.2.2.2.2.2.2.2.1 j) i), c.2.2.2.2.2.2.2.2) h) 9 (a 9, .inl (gJ E, 160, .inr (.inl f)))) (fl_w (upN c.2.2.2.2.2.2.2.1 j (filC 0 (c.2.2.2.2.2.2.2.1 j) i)) hj hx hj4 (lt_of 40 hx c_16 (by omega) (by decide)) 0)) ?_
                    refine g_iinc (v := x + 1) (lv' := [(4, .int (x + 1)), (0, .ref (a 0)), (1, .int s0)]) cx dX6_sheet_106 2 rfl rfl (by decide) rfl ?_
                    refine g_goto (tgt := 86) cx dX6_sheet_109 (by decide) ?_
                    exact g_lv [1, 2, 0] rfl (g_w (congrArg (fun F : Nat → Nat → Int64 => (mW E a (c.1, c.2.1, c.2.2.1, c.2.2.2.1, c.2.2.2.2.1, upd c.2.2.2.2.2.1 s0.toNatClampNeg b0, upd c.2.2.2.2.2.2.1 s0.toNatClampNeg (laySz b0 n0), F, c.2.2.2.2.2.2.2.2) h)) (by rw [upN_upN, upN_at, filC_s])) (ih (i + 1) (x + 1) (by omega) (by have := lt_of 40 hx c_16 (by omega) (by decide); omega) (by rw [hx]; exact nI_1 i)))
              refine g_w (congrArg (fun F : Nat → Nat → Int64 => (mW E a (c.1, c.2.1, c.2.2.1, c.2.2.2.1, c.2.2.2.2.1, upd c.2.2.2.2.2.1 s0.toNatClampNeg b0, upd c.2.2.2.2.2.2.1 s0.toNatClampNeg (laySz b0 n0), F, c.2.2.2.2.2.2.2.2) h)) (show c.2.2.2.2.2.2.2.1 = upN c.2.2.2.2.2.2.2.1 j (filC 0 (c.2.2.2.2.2.2.2.1 j) 0) from by rw [filC_0, upN_self])) ?_
              exact g_lv [1, 2, 0] rfl (LP86 41 0 0 (by omega) (by omega) rfl)
            · refine g_aload_n cx dX6_sheet_54 0 rfl ?_
              refine g_ldc cx m1X6_sheet_c45 dX6_sheet_55 ?_
              refine g_VSi (rest := []) (As := [.int (-1000000001)]) cx hYX6_finds gX6_sheet_X6_finds (c_X6_finds l E a c h (-1000000001) (by unfold vp_in; decide +kernel)) rfl rfl rfl ⟨Nat.le_of_ble_eq_true rfl, Nat.le_of_ble_eq_true rfl⟩ rfl rfl (Nat.le_of_ble_eq_true rfl) ⟨Nat.le_of_ble_eq_true rfl, Nat.le_of_ble_eq_true rfl⟩ dX6_sheet_57 (fun r w1 hp => ?_)
              obtain ⟨rfl, rfl⟩ := hp
              exact g_iret cx gr (Nat.zero_le _) (Nat.zero_le _) dX6_sheet_60 (mleaf (by rw [sp_sheet, if_neg c_1, if_neg (by simp [isBt, c_2, c_7, c_12]), if_pos c_13, if_neg c_14]; rfl))
          · refine g_aload_n cx dX6_sheet_40 0 rfl ?_
            refine g_ldcw cx m1X6_sheet_c276 dX6_sheet_41 ?_
            refine g_VSi (rest := []) (As := [.int (-1000000007)]) cx hYX6_finds gX6_sheet_X6_finds (c_X6_finds l E a c h (-1000000007) (by unfold vp_in; decide +kernel)) rfl rfl rfl ⟨Nat.le_of_ble_eq_true rfl, Nat.le_of_ble_eq_true rfl⟩ rfl rfl (Nat.le_of_ble_eq_true rfl) ⟨Nat.le_of_ble_eq_true rfl, Nat.le_of_ble_eq_true rfl⟩ dX6_sheet_44 (fun r w1 hp => ?_)
            obtain ⟨rfl, rfl⟩ := hp
            exact g_iret cx gr (Nat.zero_le _) (Nat.zero_le _) dX6_sheet_47 (mleaf (by rw [sp_sheet, if_neg c_1, if_neg (by simp [isBt, c_2, c_7, c_12]), if_neg c_13]; rfl))
        · refine g_iload_n cx dX6_sheet_23 2 rfl ?_
          refine g_bipush (v := 64) cx dX6_sheet_24 (by decide) ?_
          refine g_icmp_eq (tgt := 36) cx dX6_sheet_26 (by decide) (fun c_17 => ?_) (fun c_17 => ?_)
          · refine g_iload_n cx dX6_sheet_36 3 rfl ?_
            refine g_if_ge (tgt := 48) cx dX6_sheet_37 (by decide) (fun c_18 => ?_) (fun c_18 => ?_)
            · refine g_iload_n cx dX6_sheet_48 3 rfl ?_
              refine g_bipush (v := 40) cx dX6_sheet_49 (by decide) ?_
              refine g_icmp_le (tgt := 61) cx dX6_sheet_51 (by decide) (fun c_19 => ?_) (fun c_19 => ?_)
              · obtain ⟨j, hj3, hj⟩ := isW_nI 3 c_1 (by decide)
                have hj4 : j < 4 := by omega
                have hjc : s0.toNatClampNeg = j := by rw [hj, nI_clamp (by omega)]
                refine g_aload_n cx dX6_sheet_61 0 rfl ?_
                refine g_get (C := RX6) (T := TX6) (N := 16) (v := .ref (a 7)) cx iwX6_sheet_X6 0 12 rfl rfl (by decide) lkX6_sheet_28 rfl dX6_sheet_62 ?_
                refine g_iload_n cx dX6_sheet_65 1 rfl ?_
                refine g_iload_n cx dX6_sheet_66 2 rfl ?_
                refine g_iast (ws' := (mW E a (c.1, c.2.1, c.2.2.1, c.2.2.2.1, c.2.2.2.2.1, upd c.2.2.2.2.2.1 s0.toNatClampNeg b0, c.2.2.2.2.2.2.1, c.2.2.2.2.2.2.2.1, c.2.2.2.2.2.2.2.2) h)) cx 7 rfl rfl (vp_of_nI hj hj4 (by decide)) dX6_sheet_67 rfl ?_
                refine g_aload_n cx dX6_sheet_68 0 rfl ?_
                refine g_get (C := RX6) (T := TX6) (N := 16) (v := .ref (a 8)) cx iwX6_sheet_X6 0 13 rfl rfl (by decide) lkX6_sheet_31 rfl dX6_sheet_69 ?_
                refine g_iload_n cx dX6_sheet_72 1 rfl ?_
                refine g_iload_n cx dX6_sheet_73 2 rfl ?_
                refine g_if_ne (tgt := 81) cx dX6_sheet_74 (by decide) (fun c_20 => ?_) (fun c_20 => absurd c_20 (c_2))
                refine g_iload_n cx dX6_sheet_81 3 rfl ?_
                refine g_top (y := laySz b0 n0) (by rw [laySz, if_neg c_2]) ?_
                refine g_iast (ws' := (mW E a (c.1, c.2.1, c.2.2.1, c.2.2.2.1, c.2.2.2.2.1, upd c.2.2.2.2.2.1 s0.toNatClampNeg b0, upd c.2.2.2.2.2.2.1 s0.toNatClampNeg (laySz b0 n0), c.2.2.2.2.2.2.2.1, c.2.2.2.2.2.2.2.2) h)) cx 8 rfl rfl (vp_of_nI hj hj4 (by decide)) dX6_sheet_82 rfl ?_
                refine g_iconst (v := 0) cx dX6_sheet_83 (by decide) ?_
                refine g_istore (lv' := [(4, .int 0), (0, .ref (a 0)), (1, .int s0), (2, .int b0), (3, .int n0)]) cx dX6_sheet_84 (by decide) rfl ?_
                have LP86 : ∀ (d : Nat) (i : Nat) (x : Int32), i + d = 41 → i ≤ 40 → x = nI i → gG X 0 0 (mW E a (c.1, c.2.1, c.2.2.1, c.2.2.2.1, c.2.2.2.2.1, upd c.2.2.2.2.2.1 s0.toNatClampNeg b0, upd c.2.2.2.2.2.2.1 s0.toNatClampNeg (laySz b0 n0), upN c.2.2.2.2.2.2.2.1 j (filC 0 (c.2.2.2.2.2.2.2.1 j) i), c.2.2.2.2.2.2.2.2) h) 86 [(0, .ref (a 0)), (1, .int s0), (4, .int x)] [] := by
                  intro d
                  induction d with
                  | zero =>
                    intro i x hi hiN hx
                    omega
                  | succ d ih =>
                    intro i x hi hiN hx
                    refine g_iload cx dX6_sheet_86 2 rfl ?_
                    refine g_bipush (v := 40) cx dX6_sheet_88 (by decide) ?_
                    refine g_icmp_ge (tgt := 112) cx dX6_sheet_90 (by decide) (fun c_21 => ?_) (fun c_21 => ?_)
                    · obtain rfl : i = 40 := by have := ge_of 40 hx c_21 (by omega) (by decide); omega
                      refine g_cgL (ws' := (mW E a (c.1, c.2.1, c.2.2.1, c.2.2.2.1, c.2.2.2.2.1, upd c.2.2.2.2.2.1 s0.toNatClampNeg b0, upd c.2.2.2.2.2.2.1 s0.toNatClampNeg (laySz b0 n0), upN c.2.2.2.2.2.2.2.1 j (fun _ => 0), c.2.2.2.2.2.2.2.2) h)) (g := flatN (upN c.2.2.2.2.2.2.2.1 j (fun _ => 0))) 9 rfl (fun k hk => fl_40 _ _ _) rfl ?_
                      refine g_aload_n cx dX6_sheet_112 0 rfl ?_
                      refine g_get (C := RX6) (T := TX6) (N := 16) (v := .ref (a 8)) cx iwX6_sheet_X6 0 13 rfl rfl (by decide) lkX6_sheet_31 rfl dX6_sheet_113 ?_
                      refine g_iload_n cx dX6_sheet_116 1 rfl ?_
                      refine g_iald cx 8 rfl rfl (vp_of_nI hj hj4 (by decide)) dX6_sheet_117 ?_
                      exact g_iret cx gr (Nat.zero_le _) (Nat.zero_le _) dX6_sheet_118 (mleaf (by rw [sp_sheet, if_neg c_1, if_neg (by simp [isBt, c_2, c_7, c_12, c_17]), if_pos c_18, if_pos c_19, cSh, hjc]; exact Prod.ext pk_us.symm rfl))
                    · refine g_aload_n cx dX6_sheet_93 0 rfl ?_
                      refine g_get (C := RX6) (T := TX6) (N := 16) (v := .ref (a 9)) cx iwX6_sheet_X6 0 14 rfl rfl (by decide) lkX6_sheet_34 rfl dX6_sheet_94 ?_
                      refine g_bipush (v := 40) cx dX6_sheet_97 (by decide) ?_
                      refine g_iload_n cx dX6_sheet_99 1 rfl ?_
                      refine g_imul cx dX6_sheet_100 ?_
                      refine g_iload cx dX6_sheet_101 2 rfl ?_
                      refine g_iadd cx dX6_sheet_103 ?_
                      refine g_lconst (v := 0) cx dX6_sheet_104 (by decide) ?_
                      refine g_last (ws' := (mW E a (c.1, c.2.1, c.2.2.1, c.2.2.2.1, c.2.2.2.2.1, upd c.2.2.2.2.2.1 s0.toNatClampNeg b0, upd c.2.2.2.2.2.2.1 s0.toNatClampNeg (laySz b0 n0), upN (upN c.2.2.2.2.2.2.2.1 j (filC 0 (c.2.2.2.2.2.2.2.1 j) i)) j (vp_updL ((upN c.2.2.2.2.2.2.2.1 j (filC 0 (c.2.2.2.2.2.2.2.1 j) i)) j) i 0), c.2.2.2.2.2.2.2.2) h)) cx 9 rfl rfl (fl_in hj hx hj4 (lt_of 40 hx c_21 (by omega) (by decide))) dX6_sheet_105 (congrArg (fun f => List.set (mW E a (c.1, c.2.1, c.2.2.1, c.2.2.2.1, c.2.2.2.2.1, upd c.2.2.2.2.2.1 s0.toNatClampNeg b0, upd c.2.2.2.2.2.2.1 s0.toNatClampNeg (laySz b0 n0), upN c.2.2.2.2.2.2.2.1 j (filC 0 (c.2.2.2.2.2.2.2.1 j) i), c.2.2.2.2.2.2.2.2) h) 9 (a 9, .inl (gJ E, 160, .inr (.inl f)))) (fl_w (upN c.2.2.2.2.2.2.2.1 j (filC 0 (c.2.2.2.2.2.2.2.1 j) i)) hj hx hj4 (lt_of 40 hx c_21 (by omega) (by decide)) 0)) ?_
                      refine g_iinc (v := x + 1) (lv' := [(4, .int (x + 1)), (0, .ref (a 0)), (1, .int s0)]) cx dX6_sheet_106 2 rfl rfl (by decide) rfl ?_
                      refine g_goto (tgt := 86) cx dX6_sheet_109 (by decide) ?_
                      exact g_lv [1, 2, 0] rfl (g_w (congrArg (fun F : Nat → Nat → Int64 => (mW E a (c.1, c.2.1, c.2.2.1, c.2.2.2.1, c.2.2.2.2.1, upd c.2.2.2.2.2.1 s0.toNatClampNeg b0, upd c.2.2.2.2.2.2.1 s0.toNatClampNeg (laySz b0 n0), F, c.2.2.2.2.2.2.2.2) h)) (by rw [upN_upN, upN_at, filC_s])) (ih (i + 1) (x + 1) (by omega) (by have := lt_of 40 hx c_21 (by omega) (by decide); omega) (by rw [hx]; exact nI_1 i)))
                refine g_w (congrArg (fun F : Nat → Nat → Int64 => (mW E a (c.1, c.2.1, c.2.2.1, c.2.2.2.1, c.2.2.2.2.1, upd c.2.2.2.2.2.1 s0.toNatClampNeg b0, upd c.2.2.2.2.2.2.1 s0.toNatClampNeg (laySz b0 n0), F, c.2.2.2.2.2.2.2.2) h)) (show c.2.2.2.2.2.2.2.1 = upN c.2.2.2.2.2.2.2.1 j (filC 0 (c.2.2.2.2.2.2.2.1 j) 0) from by rw [filC_0, upN_self])) ?_
                exact g_lv [1, 2, 0] rfl (LP86 41 0 0 (by omega) (by omega) rfl)
              · refine g_aload_n cx dX6_sheet_54 0 rfl ?_
                refine g_ldc cx m1X6_sheet_c45 dX6_sheet_55 ?_
                refine g_VSi (rest := []) (As := [.int (-1000000001)]) cx hYX6_finds gX6_sheet_X6_finds (c_X6_finds l E a c h (-1000000001) (by unfold vp_in; decide +kernel)) rfl rfl rfl ⟨Nat.le_of_ble_eq_true rfl, Nat.le_of_ble_eq_true rfl⟩ rfl rfl (Nat.le_of_ble_eq_true rfl) ⟨Nat.le_of_ble_eq_true rfl, Nat.le_of_ble_eq_true rfl⟩ dX6_sheet_57 (fun r w1 hp => ?_)
                obtain ⟨rfl, rfl⟩ := hp
                exact g_iret cx gr (Nat.zero_le _) (Nat.zero_le _) dX6_sheet_60 (mleaf (by rw [sp_sheet, if_neg c_1, if_neg (by simp [isBt, c_2, c_7, c_12, c_17]), if_pos c_18, if_neg c_19]; rfl))
            · refine g_aload_n cx dX6_sheet_40 0 rfl ?_
              refine g_ldcw cx m1X6_sheet_c276 dX6_sheet_41 ?_
              refine g_VSi (rest := []) (As := [.int (-1000000007)]) cx hYX6_finds gX6_sheet_X6_finds (c_X6_finds l E a c h (-1000000007) (by unfold vp_in; decide +kernel)) rfl rfl rfl ⟨Nat.le_of_ble_eq_true rfl, Nat.le_of_ble_eq_true rfl⟩ rfl rfl (Nat.le_of_ble_eq_true rfl) ⟨Nat.le_of_ble_eq_true rfl, Nat.le_of_ble_eq_true rfl⟩ dX6_sheet_44 (fun r w1 hp => ?_)
              obtain ⟨rfl, rfl⟩ := hp
              exact g_iret cx gr (Nat.zero_le _) (Nat.zero_le _) dX6_sheet_47 (mleaf (by rw [sp_sheet, if_neg c_1, if_neg (by simp [isBt, c_2, c_7, c_12, c_17]), if_neg c_18]; rfl))
          · refine g_aload_n cx dX6_sheet_29 0 rfl ?_
            refine g_ldc cx m1X6_sheet_c45 dX6_sheet_30 ?_
            refine g_VSi (rest := []) (As := [.int (-1000000001)]) cx hYX6_finds gX6_sheet_X6_finds (c_X6_finds l E a c h (-1000000001) (by unfold vp_in; decide +kernel)) rfl rfl rfl ⟨Nat.le_of_ble_eq_true rfl, Nat.le_of_ble_eq_true rfl⟩ rfl rfl (Nat.le_of_ble_eq_true rfl) ⟨Nat.le_of_ble_eq_true rfl, Nat.le_of_ble_eq_true rfl⟩ dX6_sheet_32 (fun r w1 hp => ?_)
            obtain ⟨rfl, rfl⟩ := hp
            exact g_iret cx gr (Nat.zero_le _) (Nat.zero_le _) dX6_sheet_35 (mleaf (by rw [sp_sheet, if_neg c_1, if_pos (by simp [isBt, c_2, c_7, c_12, c_17])]; rfl))
