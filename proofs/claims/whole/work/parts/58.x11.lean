abbrev rmX4_placeBehind : Room := { frames := 0, cells := 0, slots := 0, locals := 0 }
theorem hYX4_placeBehind : gY yX4_placeBehind wsX4_placeBehind cX4_placeBehind 5 (some .int) 3 := ⟨⟨_, rfl⟩, by decide +kernel, by decide +kernel, by decide +kernel⟩
theorem iwX4_placeBehind_X4 : ∀ w ∈ u_ws RX4 TX4 5, w ∈ wsX4_placeBehind := by decide +kernel
theorem lkX4_placeBehind_9 : Cond.fieldLink RX4 9 "MuffinBells$TerraceText" "tape" "LMuffinBells$Tape;" ∈ wsX4_placeBehind := by decide +kernel
theorem iwX4_placeBehind_X2 : ∀ w ∈ u_ws RX2 TX2 2, w ∈ wsX4_placeBehind := by decide +kernel
theorem lkX4_placeBehind_129 : Cond.fieldLink RX4 129 "MuffinBells$Tape" "length" "I" ∈ wsX4_placeBehind := by decide +kernel
theorem lkX4_placeBehind_116 : Cond.fieldLink RX4 116 "MuffinBells$Tape" "bytes" "[I" ∈ wsX4_placeBehind := by decide +kernel
set_option maxRecDepth 100000 in
set_option maxHeartbeats 4000000 in
theorem c_X4_placeBehind (l : Launch) (E : gE) (a : Nat → Nat) (b : Nat → Int32) (T : Nat) (so : Int32) (sa : Int32) (en : Int32) (nu : Int32) (t : Ter) (p : Nat) (lo0 : Int32) (hi0 : Int32) (hT : T ≤ 120) (hp : p ≤ T) : cti l yX4_placeBehind wsX4_placeBehind rmX4_placeBehind E [.ref (a 0), .int (nI p), .int lo0, .int hi0] (xtW E a (b, nI T, so, sa, en, nu) t) (fun r w => r = nI (skA b lo0 hi0 T p) ∧ w = xtW E a (b, nI T, so, sa, en, nu) t) := by
  refine mt_i (cc := cX4_placeBehind) (maxL := 5) (ret := some .int) (lv0 := [(0, .ref (a 0)), (1, .int (nI p)), (2, .int lo0), (3, .int hi0)]) (by decide) rfl rfl (Nat.le_of_ble_eq_true rfl) (fun X cx gr hI => ?_)
  refine g_iload_n cx dX4_placeBehind_0 1 rfl ?_
  refine g_istore (lv' := [(4, .int (nI p)), (0, .ref (a 0)), (1, .int (nI p)), (2, .int lo0), (3, .int hi0)]) cx dX4_placeBehind_1 (by decide) rfl ?_
  have LP3 : ∀ (d : Nat) (i : Nat) (x : Int32), i + d = T + 1 → i ≤ T → x = nI i → skA b lo0 hi0 T p = skA b lo0 hi0 T i → gG X 0 0 (xtW E a (b, nI T, so, sa, en, nu) t) 3 [(0, .ref (a 0)), (2, .int lo0), (3, .int hi0), (4, .int x)] [] := by
    intro d
    induction d with
    | zero =>
      intro i x hi hiT hx hs
      omega
    | succ d ih =>
      intro i x hi hiT hx hs
      refine g_iload cx dX4_placeBehind_3 3 rfl ?_
      refine g_aload_n cx dX4_placeBehind_5 0 rfl ?_
      refine g_get (C := RX4) (T := TX4) (N := 5) (v := .ref (a 1)) cx iwX4_placeBehind_X4 0 0 rfl rfl (by decide) lkX4_placeBehind_9 rfl dX4_placeBehind_6 ?_
      refine g_get (C := RX2) (T := TX2) (N := 2) (v := .int (nI T)) cx iwX4_placeBehind_X2 1 1 rfl rfl (by decide) lkX4_placeBehind_129 rfl dX4_placeBehind_9 ?_
      refine g_icmp_ge (tgt := 49) cx dX4_placeBehind_12 (by decide) (fun c_1 => ?_) (fun c_1 => ?_)
      · refine g_iload cx dX4_placeBehind_49 3 rfl ?_
        exact g_iret cx gr (Nat.zero_le _) (Nat.zero_le _) dX4_placeBehind_51 ⟨by rw [hs, skA_out (ge_of T hx c_1 (by omega) (by omega)), hx], rfl⟩
      · refine g_aload_n cx dX4_placeBehind_15 0 rfl ?_
        refine g_get (C := RX4) (T := TX4) (N := 5) (v := .ref (a 1)) cx iwX4_placeBehind_X4 0 0 rfl rfl (by decide) lkX4_placeBehind_9 rfl dX4_placeBehind_16 ?_
        refine g_get (C := RX2) (T := TX2) (N := 2) (v := .ref (a 2)) cx iwX4_placeBehind_X2 1 0 rfl rfl (by decide) lkX4_placeBehind_116 rfl dX4_placeBehind_19 ?_
        refine g_iload cx dX4_placeBehind_22 3 rfl ?_
        refine g_iald cx 2 rfl rfl (vp_of_nI hx (by have := lt_of T hx c_1 (by omega) (by omega); omega) (by decide)) dX4_placeBehind_24 ?_
        refine g_iload_n cx dX4_placeBehind_25 1 rfl ?_
        refine g_icmp_lt (tgt := 49) cx dX4_placeBehind_26 (by decide) (fun c_2 => ?_) (fun c_2 => ?_)
        · refine g_iload cx dX4_placeBehind_49 3 rfl ?_
          exact g_iret cx gr (Nat.zero_le _) (Nat.zero_le _) dX4_placeBehind_51 ⟨by rw [hs, skA_lo (by have q := c_2; rw [hx, nI_clamp (by omega)] at q; exact q), hx], rfl⟩
        · refine g_aload_n cx dX4_placeBehind_29 0 rfl ?_
          refine g_get (C := RX4) (T := TX4) (N := 5) (v := .ref (a 1)) cx iwX4_placeBehind_X4 0 0 rfl rfl (by decide) lkX4_placeBehind_9 rfl dX4_placeBehind_30 ?_
          refine g_get (C := RX2) (T := TX2) (N := 2) (v := .ref (a 2)) cx iwX4_placeBehind_X2 1 0 rfl rfl (by decide) lkX4_placeBehind_116 rfl dX4_placeBehind_33 ?_
          refine g_iload cx dX4_placeBehind_36 3 rfl ?_
          refine g_iald cx 2 rfl rfl (vp_of_nI hx (by have := lt_of T hx c_1 (by omega) (by omega); omega) (by decide)) dX4_placeBehind_38 ?_
          refine g_iload_n cx dX4_placeBehind_39 2 rfl ?_
          refine g_icmp_gt (tgt := 49) cx dX4_placeBehind_40 (by decide) (fun c_3 => ?_) (fun c_3 => ?_)
          · refine g_iload cx dX4_placeBehind_49 3 rfl ?_
            exact g_iret cx gr (Nat.zero_le _) (Nat.zero_le _) dX4_placeBehind_51 ⟨by rw [hs, skA_hi (by have q := c_2; rw [hx, nI_clamp (by omega)] at q; exact q) (by have q := c_3; rw [hx, nI_clamp (by omega)] at q; exact q), hx], rfl⟩
          · refine g_iinc (v := x + 1) (lv' := [(4, .int (x + 1)), (0, .ref (a 0)), (2, .int lo0), (3, .int hi0)]) cx dX4_placeBehind_43 3 rfl rfl (by decide) rfl ?_
            refine g_goto (tgt := 3) cx dX4_placeBehind_46 (by decide) ?_
            exact g_lv [1, 2, 3, 0] rfl (ih (i + 1) (x + 1) (by omega) (by have := (lt_of T hx c_1 (by omega) (by omega)); omega) (by rw [hx]; exact nI_1 i) (by rw [hs, skA_s (by have := (lt_of T hx c_1 (by omega) (by omega)); omega) (by have q := c_2; rw [hx, nI_clamp (by omega)] at q; exact q) (by have q := c_3; rw [hx, nI_clamp (by omega)] at q; exact q)]))
  exact g_lv [1, 3, 4, 0] rfl (LP3 (T + 1 - p) p _ (by omega) hp rfl rfl)

theorem ad_lt {p T : Nat} (c : nI p < nI T) (hp : p ≤ T) (hT : T ≤ 120) : p < T := (nI_ltI (by omega) (by omega)).mp c
theorem ad_ge {p T : Nat} (c : ¬ nI p < nI T) (hp : p ≤ T) (hT : T ≤ 120) : T ≤ p := by
  rcases Nat.lt_or_ge p T with h | h
  · exact absurd ((nI_ltI (by omega) (by omega)).mpr h) c
  · exact h
theorem ad_w {b : Nat → Int32} {lo hi : Int32} {p T : Nat} (hp : p < T) (hT : T ≤ 120) (c : ¬ nI (skA b lo hi T p) ≤ nI p) : ¬ isW (b p) lo hi = 0 := by
  have h1 := skA_le b lo hi (Nat.le_of_lt hp)
  rw [nI_leI (by omega) (by omega)] at c
  exact (skA_gt hp).mp (by omega)
theorem ad_n {b : Nat → Int32} {lo hi : Int32} {p T : Nat} (hp : p < T) (hT : T ≤ 120) (c : nI (skA b lo hi T p) ≤ nI p) : isW (b p) lo hi = 0 := by
  have h1 := skA_le b lo hi (Nat.le_of_lt hp)
  rw [nI_leI (by omega) (by omega)] at c
  by_cases q : isW (b p) lo hi = 0
  · exact q
  · exact absurd ((skA_gt hp).mpr q) (by omega)

abbrev rmX4_advance : Room := { frames := 1, cells := 0, slots := 0, locals := 24 }
theorem hYX4_advance : gY yX4_advance wsX4_advance cX4_advance 3 (none) 0 := ⟨⟨_, rfl⟩, by decide +kernel, by decide +kernel, by decide +kernel⟩
theorem iwX4_advance_X4 : ∀ w ∈ u_ws RX4 TX4 5, w ∈ wsX4_advance := by decide +kernel
theorem lkX4_advance_22 : Cond.fieldLink RX4 22 "MuffinBells$TerraceText" "end" "I" ∈ wsX4_advance := by decide +kernel
theorem lkX4_advance_19 : Cond.fieldLink RX4 19 "MuffinBells$TerraceText" "start" "I" ∈ wsX4_advance := by decide +kernel
theorem lkX4_advance_9 : Cond.fieldLink RX4 9 "MuffinBells$TerraceText" "tape" "LMuffinBells$Tape;" ∈ wsX4_advance := by decide +kernel
theorem iwX4_advance_X2 : ∀ w ∈ u_ws RX2 TX2 2, w ∈ wsX4_advance := by decide +kernel
theorem lkX4_advance_129 : Cond.fieldLink RX4 129 "MuffinBells$Tape" "length" "I" ∈ wsX4_advance := by decide +kernel
theorem lkX4_advance_116 : Cond.fieldLink RX4 116 "MuffinBells$Tape" "bytes" "[I" ∈ wsX4_advance := by decide +kernel
theorem lkX4_advance_15 : Cond.fieldLink RX4 15 "MuffinBells$TerraceText" "sort" "I" ∈ wsX4_advance := by decide +kernel
set_option maxRecDepth 100000 in
set_option maxHeartbeats 4000000 in
theorem c_X4_advance (l : Launch) (E : gE) (a : Nat → Nat) (b : Nat → Int32) (T : Nat) (so : Int32) (sa : Int32) (nu : Int32) (t : Ter) (q : Nat) (hT : T ≤ 120) (hq : q ≤ T) : ctv l yX4_advance wsX4_advance rmX4_advance E [.ref (a 0)] (xtW E a (b, nI T, so, sa, nI q, nu) t) (fun w => w = xtW E a (b, nI T, srt b T (tkS b T q), nI (tkS b T q), nI (tkE b T (tkS b T q)), nu) t) := by
  refine mt_v (cc := cX4_advance) (maxL := 3) (ret := none) (lv0 := [(0, .ref (a 0))]) (by decide) rfl rfl (Nat.le_of_ble_eq_true rfl) (fun X cx gr hI => ?_)
  have hS : skA b 32 32 T q ≤ T := skA_le b 32 32 hq
  refine g_aload_n cx dX4_advance_0 0 rfl ?_
  refine g_aload_n cx dX4_advance_1 0 rfl ?_
  refine g_aload_n cx dX4_advance_2 0 rfl ?_
  refine g_get (C := RX4) (T := TX4) (N := 5) (v := .int (nI q)) cx iwX4_advance_X4 0 3 rfl rfl (by decide) lkX4_advance_22 rfl dX4_advance_3 ?_
  refine g_bipush (v := 32) cx dX4_advance_6 (by decide) ?_
  refine g_bipush (v := 32) cx dX4_advance_8 (by decide) ?_
  refine g_VSi (rest := [.ref (a 0)]) (As := [.int (nI q), .int 32, .int 32]) cx hYX4_placeBehind gX4_advance_X4_placeBehind (c_X4_placeBehind l E a b T so sa (nI q) nu t q 32 32 hT hq) rfl rfl rfl ⟨Nat.le_of_ble_eq_true rfl, Nat.le_of_ble_eq_true rfl⟩ rfl rfl (Nat.le_of_ble_eq_true rfl) ⟨Nat.le_of_ble_eq_true rfl, Nat.le_of_ble_eq_true rfl⟩ dX4_advance_10 (fun r w1 hp => ?_)
  obtain ⟨rfl, rfl⟩ := hp
  refine g_put (C := RX4) (T := TX4) (N := 5) (ws' := (xtW E a (b, nI T, so, nI (skA b 32 32 T q), nI q, nu) t)) cx iwX4_advance_X4 tyX4 tyX4_ok nmX4 0 2 rfl rfl (by decide) lkX4_advance_19 rfl rfl rfl (Nat.le_of_ble_eq_true rfl) dX4_advance_13 rfl ?_
  refine g_aload_n cx dX4_advance_16 0 rfl ?_
  refine g_aload_n cx dX4_advance_17 0 rfl ?_
  refine g_get (C := RX4) (T := TX4) (N := 5) (v := .int (nI (skA b 32 32 T q))) cx iwX4_advance_X4 0 2 rfl rfl (by decide) lkX4_advance_19 rfl dX4_advance_18 ?_
  refine g_bipush (v := 97) cx dX4_advance_21 (by decide) ?_
  refine g_bipush (v := 122) cx dX4_advance_23 (by decide) ?_
  refine g_VSi (rest := []) (As := [.int (nI (skA b 32 32 T q)), .int 97, .int 122]) cx hYX4_placeBehind gX4_advance_X4_placeBehind (c_X4_placeBehind l E a b T so (nI (skA b 32 32 T q)) (nI q) nu t (skA b 32 32 T q) 97 122 hT hS) rfl rfl rfl ⟨Nat.le_of_ble_eq_true rfl, Nat.le_of_ble_eq_true rfl⟩ rfl rfl (Nat.le_of_ble_eq_true rfl) ⟨Nat.le_of_ble_eq_true rfl, Nat.le_of_ble_eq_true rfl⟩ dX4_advance_25 (fun r w1 hp => ?_)
  obtain ⟨rfl, rfl⟩ := hp
  refine g_istore_n (lv' := [(1, .int (nI (skA b 97 122 T (skA b 32 32 T q)))), (0, .ref (a 0))]) cx dX4_advance_28 (by decide) rfl ?_
  refine g_aload_n cx dX4_advance_29 1 rfl ?_
  refine g_aload_n cx dX4_advance_30 1 rfl ?_
  refine g_get (C := RX4) (T := TX4) (N := 5) (v := .int (nI (skA b 32 32 T q))) cx iwX4_advance_X4 0 2 rfl rfl (by decide) lkX4_advance_19 rfl dX4_advance_31 ?_
  refine g_bipush (v := 48) cx dX4_advance_34 (by decide) ?_
  refine g_bipush (v := 57) cx dX4_advance_36 (by decide) ?_
  refine g_VSi (rest := []) (As := [.int (nI (skA b 32 32 T q)), .int 48, .int 57]) cx hYX4_placeBehind gX4_advance_X4_placeBehind (c_X4_placeBehind l E a b T so (nI (skA b 32 32 T q)) (nI q) nu t (skA b 32 32 T q) 48 57 hT hS) rfl rfl rfl ⟨Nat.le_of_ble_eq_true rfl, Nat.le_of_ble_eq_true rfl⟩ rfl rfl (Nat.le_of_ble_eq_true rfl) ⟨Nat.le_of_ble_eq_true rfl, Nat.le_of_ble_eq_true rfl⟩ dX4_advance_38 (fun r w1 hp => ?_)
  obtain ⟨rfl, rfl⟩ := hp
  refine g_istore_n (lv' := [(2, .int (nI (skA b 48 57 T (skA b 32 32 T q)))), (1, .int (nI (skA b 97 122 T (skA b 32 32 T q)))), (0, .ref (a 0))]) cx dX4_advance_41 (by decide) rfl ?_
  refine g_aload_n cx dX4_advance_42 2 rfl ?_
  refine g_get (C := RX4) (T := TX4) (N := 5) (v := .int (nI (skA b 32 32 T q))) cx iwX4_advance_X4 0 2 rfl rfl (by decide) lkX4_advance_19 rfl dX4_advance_43 ?_
  refine g_aload_n cx dX4_advance_46 2 rfl ?_
  refine g_get (C := RX4) (T := TX4) (N := 5) (v := .ref (a 1)) cx iwX4_advance_X4 0 0 rfl rfl (by decide) lkX4_advance_9 rfl dX4_advance_47 ?_
  refine g_get (C := RX2) (T := TX2) (N := 2) (v := .int (nI T)) cx iwX4_advance_X2 1 1 rfl rfl (by decide) lkX4_advance_129 rfl dX4_advance_50 ?_
  refine g_icmp_lt (tgt := 72) cx dX4_advance_53 (by decide) (fun c_1 => ?_) (fun c_1 => ?_)
  · refine g_iload_n cx dX4_advance_72 1 rfl ?_
    refine g_aload_n cx dX4_advance_73 2 rfl ?_
    refine g_get (C := RX4) (T := TX4) (N := 5) (v := .int (nI (skA b 32 32 T q))) cx iwX4_advance_X4 0 2 rfl rfl (by decide) lkX4_advance_19 rfl dX4_advance_74 ?_
    refine g_icmp_le (tgt := 93) cx dX4_advance_77 (by decide) (fun c_2 => ?_) (fun c_2 => ?_)
    · refine g_iload_n cx dX4_advance_93 0 rfl ?_
      refine g_aload_n cx dX4_advance_94 2 rfl ?_
      refine g_get (C := RX4) (T := TX4) (N := 5) (v := .int (nI (skA b 32 32 T q))) cx iwX4_advance_X4 0 2 rfl rfl (by decide) lkX4_advance_19 rfl dX4_advance_95 ?_
      refine g_icmp_le (tgt := 114) cx dX4_advance_98 (by decide) (fun c_3 => ?_) (fun c_3 => ?_)
      · refine g_aload_n cx dX4_advance_114 2 rfl ?_
        refine g_aload_n cx dX4_advance_115 2 rfl ?_
        refine g_get (C := RX4) (T := TX4) (N := 5) (v := .ref (a 1)) cx iwX4_advance_X4 0 0 rfl rfl (by decide) lkX4_advance_9 rfl dX4_advance_116 ?_
        refine g_get (C := RX2) (T := TX2) (N := 2) (v := .ref (a 2)) cx iwX4_advance_X2 1 0 rfl rfl (by decide) lkX4_advance_116 rfl dX4_advance_119 ?_
        refine g_aload_n cx dX4_advance_122 2 rfl ?_
        refine g_get (C := RX4) (T := TX4) (N := 5) (v := .int (nI (skA b 32 32 T q))) cx iwX4_advance_X4 0 2 rfl rfl (by decide) lkX4_advance_19 rfl dX4_advance_123 ?_
        refine g_iald cx 2 rfl rfl (vp_in_nI (by have := ad_lt c_1 hS hT; omega) (by decide)) dX4_advance_126 ?_
        refine g_bipush (v := 59) cx dX4_advance_127 (by decide) ?_
        refine g_icmp_ne (tgt := 136) cx dX4_advance_129 (by decide) (fun c_4 => ?_) (fun c_4 => ?_)
        · refine g_iconst (v := 4) cx dX4_advance_136 (by decide) ?_
          refine g_put (C := RX4) (T := TX4) (N := 5) (ws' := (xtW E a (b, nI T, 4, nI (skA b 32 32 T q), nI q, nu) t)) cx iwX4_advance_X4 tyX4 tyX4_ok nmX4 0 1 rfl rfl (by decide) lkX4_advance_15 rfl rfl rfl (Nat.le_of_ble_eq_true rfl) dX4_advance_137 rfl ?_
          refine g_aload_n cx dX4_advance_140 2 rfl ?_
          refine g_aload_n cx dX4_advance_141 2 rfl ?_
          refine g_get (C := RX4) (T := TX4) (N := 5) (v := .int (nI (skA b 32 32 T q))) cx iwX4_advance_X4 0 2 rfl rfl (by decide) lkX4_advance_19 rfl dX4_advance_142 ?_
          refine g_iconst (v := 1) cx dX4_advance_145 (by decide) ?_
          refine g_iadd cx dX4_advance_146 ?_
          refine g_put (C := RX4) (T := TX4) (N := 5) (ws' := (xtW E a (b, nI T, 4, nI (skA b 32 32 T q), (nI (skA b 32 32 T q)) + 1, nu) t)) cx iwX4_advance_X4 tyX4 tyX4_ok nmX4 0 3 rfl rfl (by decide) lkX4_advance_22 rfl rfl rfl (Nat.le_of_ble_eq_true rfl) dX4_advance_147 rfl ?_
          exact g_vret cx gr (Nat.zero_le _) (Nat.zero_le _) dX4_advance_150 (by rw [srt, tkE, if_neg (Nat.not_le.mpr (ad_lt c_1 hS hT)), if_neg (Nat.not_le.mpr (ad_lt c_1 hS hT)), if_pos (ad_n (ad_lt c_1 hS hT) hT c_2), if_pos (ad_n (ad_lt c_1 hS hT) hT c_2), if_pos (ad_n (ad_lt c_1 hS hT) hT c_3), if_pos (ad_n (ad_lt c_1 hS hT) hT c_3), if_neg (by have q := c_4; rw [nI_clamp (by omega)] at q; exact q), ← nI_1])
        · refine g_iconst (v := 3) cx dX4_advance_132 (by decide) ?_
          refine g_goto (tgt := 137) cx dX4_advance_133 (by decide) ?_
          refine g_put (C := RX4) (T := TX4) (N := 5) (ws' := (xtW E a (b, nI T, 3, nI (skA b 32 32 T q), nI q, nu) t)) cx iwX4_advance_X4 tyX4 tyX4_ok nmX4 0 1 rfl rfl (by decide) lkX4_advance_15 rfl rfl rfl (Nat.le_of_ble_eq_true rfl) dX4_advance_137 rfl ?_
          refine g_aload_n cx dX4_advance_140 2 rfl ?_
          refine g_aload_n cx dX4_advance_141 2 rfl ?_
          refine g_get (C := RX4) (T := TX4) (N := 5) (v := .int (nI (skA b 32 32 T q))) cx iwX4_advance_X4 0 2 rfl rfl (by decide) lkX4_advance_19 rfl dX4_advance_142 ?_
          refine g_iconst (v := 1) cx dX4_advance_145 (by decide) ?_
          refine g_iadd cx dX4_advance_146 ?_
          refine g_put (C := RX4) (T := TX4) (N := 5) (ws' := (xtW E a (b, nI T, 3, nI (skA b 32 32 T q), (nI (skA b 32 32 T q)) + 1, nu) t)) cx iwX4_advance_X4 tyX4 tyX4_ok nmX4 0 3 rfl rfl (by decide) lkX4_advance_22 rfl rfl rfl (Nat.le_of_ble_eq_true rfl) dX4_advance_147 rfl ?_
          exact g_vret cx gr (Nat.zero_le _) (Nat.zero_le _) dX4_advance_150 (by rw [srt, tkE, if_neg (Nat.not_le.mpr (ad_lt c_1 hS hT)), if_neg (Nat.not_le.mpr (ad_lt c_1 hS hT)), if_pos (ad_n (ad_lt c_1 hS hT) hT c_2), if_pos (ad_n (ad_lt c_1 hS hT) hT c_2), if_pos (ad_n (ad_lt c_1 hS hT) hT c_3), if_pos (ad_n (ad_lt c_1 hS hT) hT c_3), if_pos (by have q := c_4; rw [nI_clamp (by omega)] at q; exact q), ← nI_1])
      · refine g_aload_n cx dX4_advance_101 2 rfl ?_
        refine g_iconst (v := 2) cx dX4_advance_102 (by decide) ?_
        refine g_put (C := RX4) (T := TX4) (N := 5) (ws' := (xtW E a (b, nI T, 2, nI (skA b 32 32 T q), nI q, nu) t)) cx iwX4_advance_X4 tyX4 tyX4_ok nmX4 0 1 rfl rfl (by decide) lkX4_advance_15 rfl rfl rfl (Nat.le_of_ble_eq_true rfl) dX4_advance_103 rfl ?_
        refine g_aload_n cx dX4_advance_106 2 rfl ?_
        refine g_iload_n cx dX4_advance_107 0 rfl ?_
        refine g_put (C := RX4) (T := TX4) (N := 5) (ws' := (xtW E a (b, nI T, 2, nI (skA b 32 32 T q), nI (skA b 48 57 T (skA b 32 32 T q)), nu) t)) cx iwX4_advance_X4 tyX4 tyX4_ok nmX4 0 3 rfl rfl (by decide) lkX4_advance_22 rfl rfl rfl (Nat.le_of_ble_eq_true rfl) dX4_advance_108 rfl ?_
        refine g_goto (tgt := 150) cx dX4_advance_111 (by decide) ?_
        exact g_vret cx gr (Nat.zero_le _) (Nat.zero_le _) dX4_advance_150 (by rw [srt, tkE, if_neg (Nat.not_le.mpr (ad_lt c_1 hS hT)), if_neg (Nat.not_le.mpr (ad_lt c_1 hS hT)), if_pos (ad_n (ad_lt c_1 hS hT) hT c_2), if_pos (ad_n (ad_lt c_1 hS hT) hT c_2), if_neg (ad_w (ad_lt c_1 hS hT) hT c_3), if_neg (ad_w (ad_lt c_1 hS hT) hT c_3)])
    · refine g_aload_n cx dX4_advance_80 2 rfl ?_
      refine g_iconst (v := 1) cx dX4_advance_81 (by decide) ?_
      refine g_put (C := RX4) (T := TX4) (N := 5) (ws' := (xtW E a (b, nI T, 1, nI (skA b 32 32 T q), nI q, nu) t)) cx iwX4_advance_X4 tyX4 tyX4_ok nmX4 0 1 rfl rfl (by decide) lkX4_advance_15 rfl rfl rfl (Nat.le_of_ble_eq_true rfl) dX4_advance_82 rfl ?_
      refine g_aload_n cx dX4_advance_85 2 rfl ?_
      refine g_iload_n cx dX4_advance_86 1 rfl ?_
      refine g_put (C := RX4) (T := TX4) (N := 5) (ws' := (xtW E a (b, nI T, 1, nI (skA b 32 32 T q), nI (skA b 97 122 T (skA b 32 32 T q)), nu) t)) cx iwX4_advance_X4 tyX4 tyX4_ok nmX4 0 3 rfl rfl (by decide) lkX4_advance_22 rfl rfl rfl (Nat.le_of_ble_eq_true rfl) dX4_advance_87 rfl ?_
      refine g_goto (tgt := 150) cx dX4_advance_90 (by decide) ?_
      exact g_vret cx gr (Nat.zero_le _) (Nat.zero_le _) dX4_advance_150 (by rw [srt, tkE, if_neg (Nat.not_le.mpr (ad_lt c_1 hS hT)), if_neg (Nat.not_le.mpr (ad_lt c_1 hS hT)), if_neg (ad_w (ad_lt c_1 hS hT) hT c_2), if_neg (ad_w (ad_lt c_1 hS hT) hT c_2)])
  · refine g_aload_n cx dX4_advance_56 2 rfl ?_
    refine g_iconst (v := 0) cx dX4_advance_57 (by decide) ?_
    refine g_put (C := RX4) (T := TX4) (N := 5) (ws' := (xtW E a (b, nI T, 0, nI (skA b 32 32 T q), nI q, nu) t)) cx iwX4_advance_X4 tyX4 tyX4_ok nmX4 0 1 rfl rfl (by decide) lkX4_advance_15 rfl rfl rfl (Nat.le_of_ble_eq_true rfl) dX4_advance_58 rfl ?_
    refine g_aload_n cx dX4_advance_61 2 rfl ?_
    refine g_aload_n cx dX4_advance_62 2 rfl ?_
    refine g_get (C := RX4) (T := TX4) (N := 5) (v := .int (nI (skA b 32 32 T q))) cx iwX4_advance_X4 0 2 rfl rfl (by decide) lkX4_advance_19 rfl dX4_advance_63 ?_
    refine g_put (C := RX4) (T := TX4) (N := 5) (ws' := (xtW E a (b, nI T, 0, nI (skA b 32 32 T q), nI (skA b 32 32 T q), nu) t)) cx iwX4_advance_X4 tyX4 tyX4_ok nmX4 0 3 rfl rfl (by decide) lkX4_advance_22 rfl rfl rfl (Nat.le_of_ble_eq_true rfl) dX4_advance_66 rfl ?_
    refine g_goto (tgt := 150) cx dX4_advance_69 (by decide) ?_
    exact g_vret cx gr (Nat.zero_le _) (Nat.zero_le _) dX4_advance_150 (by rw [srt, tkE, if_pos (ad_ge c_1 hS hT), if_pos (ad_ge c_1 hS hT)])
