def wdM (b : Nat → Int32) (P : Nat) (l : List Int32) : Nat → Nat → Int32
  | 0, _ => 1
  | n + 1, k => if b (P + k) = l.getD k 0 then wdM b P l n (k + 1) else 0
/-- does the word i stand at P -/
def wdB (b : Nat → Int32) (T P i : Nat) : Int32 := if srt b T P = 1 then (if nI (tkE b T P) - nI P = nI (gLen.getD i 0) then wdM b P (gByt.getD i []) (gLen.getD i 0) 0 else 0) else 0
abbrev nxP (b : Nat → Int32) (T P : Nat) : Nat := tkS b T (tkE b T P)
def numL (b : Nat → Int32) (M : Int32) : Nat → Nat → Int32 → Int32 × Int32
  | 0, _, v => (1, v)
  | n + 1, i, v => if 10 * v + b i - 48 ≤ M then numL b M n (i + 1) (10 * v + b i - 48) else (0, 10 * v + b i - 48)
/-- the number behind P, at most M: is it, where then, which -/
def nmN (b : Nat → Int32) (T P : Nat) (M nu : Int32) : Int32 × Nat × Int32 :=
  if srt b T (nxP b T P) = 2 then (if (numL b M (tkE b T (nxP b T P) - nxP b T P) (nxP b T P) 0).1 = 1 then (1, nxP b T (nxP b T P), (numL b M (tkE b T (nxP b T P) - nxP b T P) (nxP b T P) 0).2) else (0, nxP b T P, (numL b M (tkE b T (nxP b T P) - nxP b T P) (nxP b T P) 0).2)) else (0, nxP b T P, nu)
abbrev lxW (E : gE) (a : Nat → Nat) (b : Nat → Int32) (T P : Nat) (nu : Int32) (t : Ter) : va_W := xtW E a (b, nI T, srt b T P, nI P, nI (tkE b T P), nu) t
theorem gl_le : ∀ i, i < 12 → gLen.getD i 0 ≤ 5 := by decide +kernel

theorem wd_in {b : Nat → Int32} {T P K i : Nat} {x : Int32} (hx : x = nI K) (hK : K < gLen.getD i 0) (hi : i < 12) (hP : P ≤ T) (hT : T ≤ 120) (h : nI (tkE b T P) - nI P = nI (gLen.getD i 0)) : vp_in (nI P + x) 120 := by
  have h5 := gl_le i hi
  have h1 := tkE_le (b := b) hP
  have h2 := tkE_ge (b := b) (T := T) (p := P)
  rw [pk_sub h2, nI_eq (by omega) (by omega)] at h
  rw [hx, nI_add]
  exact vp_in_nI (by omega) (by decide)

abbrev rmX4_isWord : Room := { frames := 4, cells := 0, slots := 0, locals := 85 }
theorem hYX4_isWord : gY yX4_isWord wsX4_isWord cX4_isWord 3 (some .boolean) 1 := ⟨⟨_, rfl⟩, by decide +kernel, by decide +kernel, by decide +kernel⟩
theorem iwX4_isWord_X4 : ∀ w ∈ u_ws RX4 TX4 5, w ∈ wsX4_isWord := by decide +kernel
theorem lkX4_isWord_15 : Cond.fieldLink RX4 15 "MuffinBells$TerraceText" "sort" "I" ∈ wsX4_isWord := by decide +kernel
theorem lkX4_isWord_22 : Cond.fieldLink RX4 22 "MuffinBells$TerraceText" "end" "I" ∈ wsX4_isWord := by decide +kernel
theorem lkX4_isWord_19 : Cond.fieldLink RX4 19 "MuffinBells$TerraceText" "start" "I" ∈ wsX4_isWord := by decide +kernel
theorem lkX4_isWord_9 : Cond.fieldLink RX4 9 "MuffinBells$TerraceText" "tape" "LMuffinBells$Tape;" ∈ wsX4_isWord := by decide +kernel
theorem iwX4_isWord_X2 : ∀ w ∈ u_ws RX2 TX2 2, w ∈ wsX4_isWord := by decide +kernel
theorem lkX4_isWord_116 : Cond.fieldLink RX4 116 "MuffinBells$Tape" "bytes" "[I" ∈ wsX4_isWord := by decide +kernel
set_option maxRecDepth 100000 in
set_option maxHeartbeats 4000000 in
theorem c_X4_isWord (l : Launch) (E : gE) (a : Nat → Nat) (b : Nat → Int32) (T : Nat) (P : Nat) (nu : Int32) (t : Ter) (i : Nat) (hT : T ≤ 120) (hP : P ≤ T) (hi : i < 12) : cti l yX4_isWord wsX4_isWord rmX4_isWord E [.ref (a 0), .ref (E.2.2.1 i)] (xtW E a (b, nI T, srt b T P, nI P, nI (tkE b T P), nu) t) (fun r w => r = wdB b T P i ∧ w = lxW E a b T P nu t) := by
  refine mt_i (cc := cX4_isWord) (maxL := 3) (ret := some .boolean) (lv0 := [(0, .ref (a 0)), (1, .ref (E.2.2.1 i))]) (by decide) rfl rfl (Nat.le_of_ble_eq_true rfl) (fun X cx gr hI => ?_)
  refine g_aload_n cx dX4_isWord_0 0 rfl ?_
  refine g_get (C := RX4) (T := TX4) (N := 5) (v := .int (srt b T P)) cx iwX4_isWord_X4 0 1 rfl rfl (by decide) lkX4_isWord_15 rfl dX4_isWord_1 ?_
  refine g_iconst (v := 1) cx dX4_isWord_4 (by decide) ?_
  refine g_icmp_ne (tgt := 24) cx dX4_isWord_5 (by decide) (fun c_1 => ?_) (fun c_1 => ?_)
  · refine g_iconst (v := 0) cx dX4_isWord_24 (by decide) ?_
    exact g_zret cx gr rfl (Nat.zero_le _) (Nat.zero_le _) dX4_isWord_25 ⟨by rw [wdB, if_neg c_1], rfl⟩
  · refine g_aload_n cx dX4_isWord_8 0 rfl ?_
    refine g_get (C := RX4) (T := TX4) (N := 5) (v := .int (nI (tkE b T P))) cx iwX4_isWord_X4 0 3 rfl rfl (by decide) lkX4_isWord_22 rfl dX4_isWord_9 ?_
    refine g_aload_n cx dX4_isWord_12 0 rfl ?_
    refine g_get (C := RX4) (T := TX4) (N := 5) (v := .int (nI P)) cx iwX4_isWord_X4 0 2 rfl rfl (by decide) lkX4_isWord_19 rfl dX4_isWord_13 ?_
    refine g_isub cx dX4_isWord_16 ?_
    refine g_aload_n cx dX4_isWord_17 1 rfl ?_
    refine g_VT (i := i) (rest := [.int ((nI (tkE b T P)) - (nI P))]) (As := []) cx hi hYJ0_length_8abf5 gX4_isWord_J0_length_8abf5 (c_J0_length_8abf5 l E i  hi) rfl ⟨Nat.le_of_ble_eq_true rfl, Nat.le_of_ble_eq_true rfl⟩ rfl rfl (Nat.le_of_ble_eq_true rfl) ⟨Nat.le_of_ble_eq_true rfl, Nat.le_of_ble_eq_true rfl⟩ dX4_isWord_18 ?_
    refine g_icmp_eq (tgt := 26) cx dX4_isWord_21 (by decide) (fun c_2 => ?_) (fun c_2 => ?_)
    · refine g_iconst (v := 0) cx dX4_isWord_26 (by decide) ?_
      refine g_istore_n (lv' := [(2, .int 0), (0, .ref (a 0)), (1, .ref (E.2.2.1 i))]) cx dX4_isWord_27 (by decide) rfl ?_
      have LP28 : ∀ (d : Nat) (K : Nat) (x : Int32), K + d = gLen.getD i 0 + 1 → K ≤ gLen.getD i 0 → x = nI K → wdM b P (gByt.getD i []) (gLen.getD i 0) 0 = wdM b P (gByt.getD i []) (gLen.getD i 0 - K) K → gG X 0 0 (xtW E a (b, nI T, srt b T P, nI P, nI (tkE b T P), nu) t) 28 [(0, .ref (a 0)), (1, .ref (E.2.2.1 i)), (2, .int x)] [] := by
        intro d
        induction d with
        | zero =>
          intro K x hd9 hKl hx hs
          omega
        | succ d ih =>
          intro K x hd9 hKl hx hs
          have hl5 := gl_le i hi
          refine g_iload_n cx dX4_isWord_28 2 rfl ?_
          refine g_aload_n cx dX4_isWord_29 1 rfl ?_
          refine g_VT (i := i) (rest := [.int x]) (As := []) cx hi hYJ0_length_8abf5 gX4_isWord_J0_length_8abf5 (c_J0_length_8abf5 l E i  hi) rfl ⟨Nat.le_of_ble_eq_true rfl, Nat.le_of_ble_eq_true rfl⟩ rfl rfl (Nat.le_of_ble_eq_true rfl) ⟨Nat.le_of_ble_eq_true rfl, Nat.le_of_ble_eq_true rfl⟩ dX4_isWord_30 ?_
          refine g_icmp_ge (tgt := 66) cx dX4_isWord_33 (by decide) (fun c_3 => ?_) (fun c_3 => ?_)
          · refine g_iconst (v := 1) cx dX4_isWord_66 (by decide) ?_
            exact g_zret cx gr rfl (Nat.zero_le _) (Nat.zero_le _) dX4_isWord_67 ⟨by rw [wdB, if_pos c_1, if_pos c_2, hs, show gLen.getD i 0 - K = 0 by have := ge_of (gLen.getD i 0) hx c_3 (by omega) (gl_lt i hi); omega]; rfl, rfl⟩
          · refine g_aload_n cx dX4_isWord_36 0 rfl ?_
            refine g_get (C := RX4) (T := TX4) (N := 5) (v := .ref (a 1)) cx iwX4_isWord_X4 0 0 rfl rfl (by decide) lkX4_isWord_9 rfl dX4_isWord_37 ?_
            refine g_get (C := RX2) (T := TX2) (N := 2) (v := .ref (a 2)) cx iwX4_isWord_X2 1 0 rfl rfl (by decide) lkX4_isWord_116 rfl dX4_isWord_40 ?_
            refine g_aload_n cx dX4_isWord_43 0 rfl ?_
            refine g_get (C := RX4) (T := TX4) (N := 5) (v := .int (nI P)) cx iwX4_isWord_X4 0 2 rfl rfl (by decide) lkX4_isWord_19 rfl dX4_isWord_44 ?_
            refine g_iload_n cx dX4_isWord_47 2 rfl ?_
            refine g_iadd cx dX4_isWord_48 ?_
            refine g_iald cx 2 rfl rfl (wd_in hx (lt_of (gLen.getD i 0) hx c_3 (by omega) (gl_lt i hi)) hi hP hT c_2) dX4_isWord_49 ?_
            refine g_aload_n cx dX4_isWord_50 1 rfl ?_
            refine g_iload_n cx dX4_isWord_51 2 rfl ?_
            refine g_VT (i := i) (rest := [.int (b (((nI P) + x).toNatClampNeg))]) (As := [.int (nI K)]) cx hi hYJ0_charAt_5068e gX4_isWord_J0_charAt_5068e (c_J0_charAt_5068e l E i K hi (lt_of (gLen.getD i 0) hx c_3 (by omega) (gl_lt i hi))) rfl ⟨Nat.le_of_ble_eq_true rfl, Nat.le_of_ble_eq_true rfl⟩ (by rw [hx]; rfl) rfl (Nat.le_of_ble_eq_true rfl) ⟨Nat.le_of_ble_eq_true rfl, Nat.le_of_ble_eq_true rfl⟩ dX4_isWord_52 ?_
            refine g_icmp_eq (tgt := 60) cx dX4_isWord_55 (by decide) (fun c_4 => ?_) (fun c_4 => ?_)
            · refine g_iinc (v := x + 1) (lv' := [(2, .int (x + 1)), (0, .ref (a 0)), (1, .ref (E.2.2.1 i))]) cx dX4_isWord_60 2 rfl rfl (by decide) rfl ?_
              refine g_goto (tgt := 28) cx dX4_isWord_63 (by decide) ?_
              exact g_lv [1, 2, 0] rfl (ih (K + 1) (x + 1) (by omega) (by have := (lt_of (gLen.getD i 0) hx c_3 (by omega) (gl_lt i hi)); omega) (by rw [hx]; exact nI_1 K) (by rw [hs, show gLen.getD i 0 - K = (gLen.getD i 0 - (K + 1)) + 1 by have := (lt_of (gLen.getD i 0) hx c_3 (by omega) (gl_lt i hi)); omega, wdM, if_pos (by have q := c_4; rw [hx, nI_add, nI_clamp (by omega)] at q; exact q)]))
            · refine g_iconst (v := 0) cx dX4_isWord_58 (by decide) ?_
              exact g_zret cx gr rfl (Nat.zero_le _) (Nat.zero_le _) dX4_isWord_59 ⟨by rw [wdB, if_pos c_1, if_pos c_2, hs, show gLen.getD i 0 - K = (gLen.getD i 0 - (K + 1)) + 1 by have := lt_of (gLen.getD i 0) hx c_3 (by omega) (gl_lt i hi); omega, wdM, if_neg (by have q := c_4; rw [hx, nI_add, nI_clamp (by omega)] at q; exact q)], rfl⟩
      exact g_lv [1, 2, 0] rfl (LP28 (gLen.getD i 0 + 1) 0 0 (by omega) (by omega) rfl rfl)
    · refine g_iconst (v := 0) cx dX4_isWord_24 (by decide) ?_
      exact g_zret cx gr rfl (Nat.zero_le _) (Nat.zero_le _) dX4_isWord_25 ⟨by rw [wdB, if_pos c_1, if_neg c_2], rfl⟩
