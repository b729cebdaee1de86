abbrev rmX6_must : Room := { frames := 3, cells := 0, slots := 0, locals := 67 }
theorem hYX6_must : gY yX6_must wsX6_must cX6_must 2 (none) 1 := ⟨⟨_, rfl⟩, by decide +kernel, by decide +kernel, by decide +kernel⟩
theorem iwX6_must_X6 : ∀ w ∈ u_ws RX6 TX6 16, w ∈ wsX6_must := by decide +kernel
theorem lkX6_must_201 : Cond.fieldLink RX6 201 "MuffinBellsModel" "isWrong" "Z" ∈ wsX6_must := by decide +kernel
set_option maxRecDepth 100000 in
set_option maxHeartbeats 4000000 in
theorem c_X6_must_1 (l : Launch) (E : gE) (a : Nat → Nat) (c : Cor) (h : Mar) (b : Nat → Int32) (T : Nat) (t : Ter) (P : Nat) (v : Int32) (hT : T ≤ 120) (hP : P ≤ T) : ctv l yX6_must wsX6_must rmX6_must E [.ref (a 0), .int 1] (mW E a (t, c.2.1, c.2.2.1, b, nI T, c.2.2.2.2.2.1, c.2.2.2.2.2.2.1, c.2.2.2.2.2.2.2.1, c.2.2.2.2.2.2.2.2) (h.1, h.2.1, nI P, nI (tkE b T P), v, 0, h.2.2.2.2.2.2)) (fun w => w = (mW E a (t, c.2.1, c.2.2.1, b, nI T, c.2.2.2.2.2.1, c.2.2.2.2.2.2.1, c.2.2.2.2.2.2.2.1, c.2.2.2.2.2.2.2.2) (h.1, h.2.1, nI (nxP b T P), nI (tkE b T (nxP b T P)), v, 0, h.2.2.2.2.2.2))) := by
  refine mt_v (cc := cX6_must) (maxL := 2) (ret := none) (lv0 := [(0, .ref (a 0)), (1, .int 1)]) (by decide) rfl rfl (Nat.le_of_ble_eq_true rfl) (fun X cx gr hI => ?_)
  refine g_aload_n cx dX6_must_0 0 rfl ?_
  refine g_aload_n cx dX6_must_1 0 rfl ?_
  refine g_get (C := RX6) (T := TX6) (N := 16) (v := .int 0) cx iwX6_must_X6 0 11 rfl rfl (by decide) lkX6_must_201 rfl dX6_must_2 ?_
  refine g_if_ne (tgt := 12) cx dX6_must_5 (by decide) (fun c_1 => absurd (rfl) c_1) (fun c_1 => ?_)
  refine g_iload_n cx dX6_must_8 1 rfl ?_
  refine g_if_ne (tgt := 16) cx dX6_must_9 (by decide) (fun c_2 => ?_) (fun c_2 => absurd c_2 (by decide))
  refine g_iconst (v := 0) cx dX6_must_16 (by decide) ?_
  refine g_put (C := RX6) (T := TX6) (N := 16) (ws' := (mW E a (t, c.2.1, c.2.2.1, b, nI T, c.2.2.2.2.2.1, c.2.2.2.2.2.2.1, c.2.2.2.2.2.2.2.1, c.2.2.2.2.2.2.2.2) (h.1, h.2.1, nI P, nI (tkE b T P), v, 0, h.2.2.2.2.2.2))) cx iwX6_must_X6 tyX6 tyX6_ok nmX6 0 11 rfl rfl (by decide) lkX6_must_201 rfl rfl rfl (Nat.le_of_ble_eq_true rfl) dX6_must_17 rfl ?_
  refine g_aload_n cx dX6_must_20 0 rfl ?_
  refine g_get (C := RX6) (T := TX6) (N := 16) (v := .int 0) cx iwX6_must_X6 0 11 rfl rfl (by decide) lkX6_must_201 rfl dX6_must_21 ?_
  refine g_if_ne (tgt := 31) cx dX6_must_24 (by decide) (fun c_3 => absurd (rfl) c_3) (fun c_3 => ?_)
  refine g_aload_n cx dX6_must_27 0 rfl ?_
  refine g_VSv (rest := []) (As := []) cx hYX6_token gX6_must_X6_token (c_X6_token l E a c h b T t v 0 (nI P) (tkE b T P) hT (tkE_le hP)) rfl rfl rfl ⟨Nat.le_of_ble_eq_true rfl, Nat.le_of_ble_eq_true rfl⟩ rfl rfl (Nat.le_of_ble_eq_true rfl) ⟨Nat.le_of_ble_eq_true rfl, Nat.le_of_ble_eq_true rfl⟩ dX6_must_28 (fun w1 hp => ?_)
  obtain rfl := hp
  exact g_vret cx gr (Nat.zero_le _) (Nat.zero_le _) dX6_must_31 (rfl)

set_option maxRecDepth 100000 in
set_option maxHeartbeats 4000000 in
theorem c_X6_must_0 (l : Launch) (E : gE) (a : Nat → Nat) (c : Cor) (h : Mar) (b : Nat → Int32) (T : Nat) (t : Ter) (P : Nat) (v : Int32) (hT : T ≤ 120) (hP : P ≤ T) : ctv l yX6_must wsX6_must rmX6_must E [.ref (a 0), .int 0] (mW E a (t, c.2.1, c.2.2.1, b, nI T, c.2.2.2.2.2.1, c.2.2.2.2.2.2.1, c.2.2.2.2.2.2.2.1, c.2.2.2.2.2.2.2.2) (h.1, h.2.1, nI P, nI (tkE b T P), v, 0, h.2.2.2.2.2.2)) (fun w => w = (mW E a (t, c.2.1, c.2.2.1, b, nI T, c.2.2.2.2.2.1, c.2.2.2.2.2.2.1, c.2.2.2.2.2.2.2.1, c.2.2.2.2.2.2.2.2) (h.1, h.2.1, nI P, nI (tkE b T P), v, 1, h.2.2.2.2.2.2))) := by
  refine mt_v (cc := cX6_must) (maxL := 2) (ret := none) (lv0 := [(0, .ref (a 0)), (1, .int 0)]) (by decide) rfl rfl (Nat.le_of_ble_eq_true rfl) (fun X cx gr hI => ?_)
  refine g_aload_n cx dX6_must_0 0 rfl ?_
  refine g_aload_n cx dX6_must_1 0 rfl ?_
  refine g_get (C := RX6) (T := TX6) (N := 16) (v := .int 0) cx iwX6_must_X6 0 11 rfl rfl (by decide) lkX6_must_201 rfl dX6_must_2 ?_
  refine g_if_ne (tgt := 12) cx dX6_must_5 (by decide) (fun c_1 => absurd (rfl) c_1) (fun c_1 => ?_)
  refine g_iload_n cx dX6_must_8 1 rfl ?_
  refine g_if_ne (tgt := 16) cx dX6_must_9 (by decide) (fun c_2 => absurd (rfl) c_2) (fun c_2 => ?_)
  refine g_iconst (v := 1) cx dX6_must_12 (by decide) ?_
  refine g_goto (tgt := 17) cx dX6_must_13 (by decide) ?_
  refine g_put (C := RX6) (T := TX6) (N := 16) (ws' := (mW E a (t, c.2.1, c.2.2.1, b, nI T, c.2.2.2.2.2.1, c.2.2.2.2.2.2.1, c.2.2.2.2.2.2.2.1, c.2.2.2.2.2.2.2.2) (h.1, h.2.1, nI P, nI (tkE b T P), v, 1, h.2.2.2.2.2.2))) cx iwX6_must_X6 tyX6 tyX6_ok nmX6 0 11 rfl rfl (by decide) lkX6_must_201 rfl rfl rfl (Nat.le_of_ble_eq_true rfl) dX6_must_17 rfl ?_
  refine g_aload_n cx dX6_must_20 0 rfl ?_
  refine g_get (C := RX6) (T := TX6) (N := 16) (v := .int 1) cx iwX6_must_X6 0 11 rfl rfl (by decide) lkX6_must_201 rfl dX6_must_21 ?_
  refine g_if_ne (tgt := 31) cx dX6_must_24 (by decide) (fun c_3 => ?_) (fun c_3 => absurd c_3 (by decide))
  exact g_vret cx gr (Nat.zero_le _) (Nat.zero_le _) dX6_must_31 (rfl)

def whL (b : Nat → Int32) : Nat → Nat → Int64 → Int64
  | 0, _, y => y
  | n + 1, i, y => if y ≤ 36028797018963967 then whL b n (i + 1) (32 * y + (b i - 96).toInt64) else whL b n (i + 1) y
/-- the number of the word at P, 0 where none stands -/
def whR (b : Nat → Int32) (T P : Nat) : Int64 := if isW (btA b T P) 97 122 = 0 then 0 else whL b (tkE b T P - P) P 0

abbrev rmX6_word : Room := { frames := 2, cells := 0, slots := 0, locals := 45 }
theorem hYX6_word : gY yX6_word wsX6_word cX6_word 4 (some .long) 0 := ⟨⟨_, rfl⟩, by decide +kernel, by decide +kernel, by decide +kernel⟩
theorem iwX6_word_X6 : ∀ w ∈ u_ws RX6 TX6 16, w ∈ wsX6_word := by decide +kernel
theorem lkX6_word_189 : Cond.fieldLink RX6 189 "MuffinBellsModel" "from" "I" ∈ wsX6_word := by decide +kernel
theorem lkX6_word_186 : Cond.fieldLink RX6 186 "MuffinBellsModel" "to" "I" ∈ wsX6_word := by decide +kernel
theorem lkX6_word_201 : Cond.fieldLink RX6 201 "MuffinBellsModel" "isWrong" "Z" ∈ wsX6_word := by decide +kernel
theorem m1X6_word_c208 : Cond.constantLong RX6 208 (36028797018963967) ∈ wsX6_word := by decide +kernel
theorem m1X6_word_c210 : Cond.constantLong RX6 210 (32) ∈ wsX6_word := by decide +kernel
theorem lkX6_word_25 : Cond.fieldLink RX6 25 "MuffinBellsModel" "tape" "[I" ∈ wsX6_word := by decide +kernel
set_option maxRecDepth 100000 in
set_option maxHeartbeats 4000000 in
theorem c_X6_word (l : Launch) (E : gE) (a : Nat → Nat) (c : Cor) (h : Mar) (b : Nat → Int32) (T : Nat) (t : Ter) (P : Nat) (v : Int32) (w9 : Int32) (hT : T ≤ 120) (hP : P ≤ T) : ctl l yX6_word wsX6_word rmX6_word E [.ref (a 0)] (mW E a (t, c.2.1, c.2.2.1, b, nI T, c.2.2.2.2.2.1, c.2.2.2.2.2.2.1, c.2.2.2.2.2.2.2.1, c.2.2.2.2.2.2.2.2) (h.1, h.2.1, nI P, nI (tkE b T P), v, w9, h.2.2.2.2.2.2)) (fun r w => r = (if w9 = 0 then whR b T P else 0) ∧ w = (mW E a (t, c.2.1, c.2.2.1, b, nI T, c.2.2.2.2.2.1, c.2.2.2.2.2.2.1, c.2.2.2.2.2.2.2.1, c.2.2.2.2.2.2.2.2) (h.1, h.2.1, nI P, nI (tkE b T P), v, w9, h.2.2.2.2.2.2))) := by
  refine mt_l (cc := cX6_word) (maxL := 4) (ret := some .long) (lv0 := [(0, .ref (a 0))]) (by decide) rfl rfl (Nat.le_of_ble_eq_true rfl) (fun X cx gr hI => ?_)
  have hE1 : tkE b T P ≤ T := tkE_le hP
  have hE2 : P ≤ tkE b T P := tkE_ge
  refine g_lconst (v := 0) cx dX6_word_0 (by decide) ?_
  refine g_lstore_n (lv' := [(1, .long 0), (0, .ref (a 0))]) cx dX6_word_1 (by decide) rfl ?_
  refine g_aload_n cx dX6_word_2 1 rfl ?_
  refine g_get (C := RX6) (T := TX6) (N := 16) (v := .int (nI P)) cx iwX6_word_X6 0 8 rfl rfl (by decide) lkX6_word_189 rfl dX6_word_3 ?_
  refine g_istore_n (lv' := [(3, .int (nI P)), (1, .long 0), (0, .ref (a 0))]) cx dX6_word_6 (by decide) rfl ?_
  have LP7 : ∀ (d : Nat) (i : Nat) (x : Int32) (y : Int64), i + d = tkE b T P + 1 → i ≤ tkE b T P → P ≤ i → x = nI i → whL b (tkE b T P - P) P 0 = whL b (tkE b T P - i) i y → gG X 0 0 (mW E a (t, c.2.1, c.2.2.1, b, nI T, c.2.2.2.2.2.1, c.2.2.2.2.2.2.1, c.2.2.2.2.2.2.2.1, c.2.2.2.2.2.2.2.2) (h.1, h.2.1, nI P, nI (tkE b T P), v, w9, h.2.2.2.2.2.2)) 7 [(0, .ref (a 0)), (1, .long y), (3, .int x)] [] := by
    intro d
    induction d with
    | zero =>
      intro i x y hi9 hie hip hx hs
      omega
    | succ d ih =>
      intro i x y hi9 hie hip hx hs
      refine g_iload_n cx dX6_word_7 2 rfl ?_
      refine g_aload_n cx dX6_word_8 0 rfl ?_
      refine g_get (C := RX6) (T := TX6) (N := 16) (v := .int (nI (tkE b T P))) cx iwX6_word_X6 0 9 rfl rfl (by decide) lkX6_word_186 rfl dX6_word_9 ?_
      refine g_icmp_ge (tgt := 50) cx dX6_word_12 (by decide) (fun c_1 => ?_) (fun c_1 => ?_)
      · refine g_aload_n cx dX6_word_50 0 rfl ?_
        refine g_get (C := RX6) (T := TX6) (N := 16) (v := .int w9) cx iwX6_word_X6 0 11 rfl rfl (by decide) lkX6_word_201 rfl dX6_word_51 ?_
        refine g_if_ne (tgt := 71) cx dX6_word_54 (by decide) (fun c_2 => ?_) (fun c_2 => ?_)
        · refine g_lconst (v := 0) cx dX6_word_71 (by decide) ?_
          refine g_goto (tgt := 76) cx dX6_word_72 (by decide) ?_
          exact g_lret cx gr (Nat.zero_le _) (Nat.zero_le _) dX6_word_76 ⟨by rw [if_neg c_2], rfl⟩
        · refine g_aload_n cx dX6_word_57 0 rfl ?_
          refine g_aload_n cx dX6_word_58 0 rfl ?_
          refine g_get (C := RX6) (T := TX6) (N := 16) (v := .int (nI P)) cx iwX6_word_X6 0 8 rfl rfl (by decide) lkX6_word_189 rfl dX6_word_59 ?_
          refine g_VSi (rest := []) (As := [.int (nI P)]) cx hYX6_byteAt gX6_word_X6_byteAt (c_X6_byteAt l E a (t, c.2.1, c.2.2.1, b, nI T, c.2.2.2.2.2.1, c.2.2.2.2.2.2.1, c.2.2.2.2.2.2.2.1, c.2.2.2.2.2.2.2.2) (h.1, h.2.1, nI P, nI (tkE b T P), v, w9, h.2.2.2.2.2.2) b T P hT hP) rfl rfl rfl ⟨Nat.le_of_ble_eq_true rfl, Nat.le_of_ble_eq_true rfl⟩ rfl rfl (Nat.le_of_ble_eq_true rfl) ⟨Nat.le_of_ble_eq_true rfl, Nat.le_of_ble_eq_true rfl⟩ dX6_word_62 (fun r w1 hp => ?_)
          obtain ⟨rfl, rfl⟩ := hp
          refine g_SPi (rest := []) (As := [.int (btA b T P)]) cx hYX6_isLetter gX6_word_X6_isLetter (c_X6_isLetter l E (btA b T P) ) ⟨Nat.le_of_ble_eq_true rfl, Nat.le_of_ble_eq_true rfl⟩ rfl rfl (Nat.le_of_ble_eq_true rfl) ⟨Nat.le_of_ble_eq_true rfl, Nat.le_of_ble_eq_true rfl⟩ dX6_word_65 ?_
          refine g_if_ne (tgt := 75) cx dX6_word_68 (by decide) (fun c_3 => ?_) (fun c_3 => ?_)
          · refine g_lload_n cx dX6_word_75 1 rfl ?_
            exact g_lret cx gr (Nat.zero_le _) (Nat.zero_le _) dX6_word_76 ⟨by rw [if_pos c_2, whR, if_neg c_3, hs, show tkE b T P - i = 0 by have := ge_of (tkE b T P) hx c_1 (by omega) (by omega); omega]; rfl, rfl⟩
          · refine g_lconst (v := 0) cx dX6_word_71 (by decide) ?_
            refine g_goto (tgt := 76) cx dX6_word_72 (by decide) ?_
            exact g_lret cx gr (Nat.zero_le _) (Nat.zero_le _) dX6_word_76 ⟨by rw [if_pos c_2, whR, if_pos c_3], rfl⟩
      · refine g_lload_n cx dX6_word_15 1 rfl ?_
        refine g_ldc2 cx m1X6_word_c208 dX6_word_16 ?_
        refine g_lc_le (tgt := 27) cx dX6_word_19 dX6_word_20 (by decide) (fun c_4 => ?_) (fun c_4 => ?_)
        · refine g_ldc2 cx m1X6_word_c210 dX6_word_27 ?_
          refine g_lload_n cx dX6_word_30 1 rfl ?_
          refine g_lmul cx dX6_word_31 ?_
          refine g_aload_n cx dX6_word_32 0 rfl ?_
          refine g_get (C := RX6) (T := TX6) (N := 16) (v := .ref (a 6)) cx iwX6_word_X6 0 6 rfl rfl (by decide) lkX6_word_25 rfl dX6_word_33 ?_
          refine g_iload_n cx dX6_word_36 2 rfl ?_
          refine g_iald cx 6 rfl rfl (vp_of_nI hx (by have := lt_of (tkE b T P) hx c_1 (by omega) (by omega); omega) (by decide)) dX6_word_37 ?_
          refine g_bipush (v := 96) cx dX6_word_38 (by decide) ?_
          refine g_isub cx dX6_word_40 ?_
          refine g_i2l cx dX6_word_41 ?_
          refine g_ladd cx dX6_word_42 ?_
          refine g_lstore_n (lv' := [(1, .long ((32 * y) + (((b (x.toNatClampNeg)) - 96).toInt64))), (0, .ref (a 0)), (3, .int x)]) cx dX6_word_43 (by decide) rfl ?_
          refine g_iinc (v := x + 1) (lv' := [(3, .int (x + 1)), (1, .long ((32 * y) + (((b (x.toNatClampNeg)) - 96).toInt64))), (0, .ref (a 0))]) cx dX6_word_44 2 rfl rfl (by decide) rfl ?_
          refine g_goto (tgt := 7) cx dX6_word_47 (by decide) ?_
          exact g_lv [2, 1, 0] rfl (ih (i + 1) (x + 1) _ (by omega) (by have := (lt_of (tkE b T P) hx c_1 (by omega) (by omega)); omega) (by omega) (by rw [hx]; exact nI_1 i) (by rw [hs, show tkE b T P - i = (tkE b T P - (i + 1)) + 1 by have := (lt_of (tkE b T P) hx c_1 (by omega) (by omega)); omega, whL, if_pos c_4, hx, nI_clamp (by omega)]))
        · refine g_lload_n cx dX6_word_23 1 rfl ?_
          refine g_goto (tgt := 43) cx dX6_word_24 (by decide) ?_
          refine g_lstore_n (lv' := [(1, .long y), (0, .ref (a 0)), (3, .int x)]) cx dX6_word_43 (by decide) rfl ?_
          refine g_iinc (v := x + 1) (lv' := [(3, .int (x + 1)), (1, .long y), (0, .ref (a 0))]) cx dX6_word_44 2 rfl rfl (by decide) rfl ?_
          refine g_goto (tgt := 7) cx dX6_word_47 (by decide) ?_
          exact g_lv [2, 1, 0] rfl (ih (i + 1) (x + 1) _ (by omega) (by have := (lt_of (tkE b T P) hx c_1 (by omega) (by omega)); omega) (by omega) (by rw [hx]; exact nI_1 i) (by rw [hs, show tkE b T P - i = (tkE b T P - (i + 1)) + 1 by have := (lt_of (tkE b T P) hx c_1 (by omega) (by omega)); omega, whL, if_neg c_4]))
  exact g_lv [2, 1, 0] rfl (LP7 (tkE b T P + 1 - P) P _ 0 (by omega) hE2 (by omega) rfl rfl)
