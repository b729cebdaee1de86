theorem skp_in {b : Nat → Int32} {lo hi : Int32} {T : Nat} : ∀ n p k, p ≤ k → k < skp b lo hi T n p → ¬ b k < lo ∧ ¬ hi < b k
  | 0, p, k, h1, h2 => absurd h2 (Nat.not_lt.mpr h1)
  | n + 1, p, k, h1, h2 => by
    rw [skp] at h2
    by_cases q : T ≤ p
    · rw [if_pos q] at h2; omega
    · rw [if_neg q] at h2
      by_cases h3 : b p < lo
      · rw [if_pos h3] at h2; omega
      · rw [if_neg h3] at h2
        by_cases h4 : hi < b p
        · rw [if_pos h4] at h2; omega
        · rw [if_neg h4] at h2
          by_cases h5 : k = p
          · rw [h5]; exact ⟨h3, h4⟩
          · exact skp_in n (p + 1) k (by omega) h2
theorem srt_2 {b : Nat → Int32} {T P : Nat} (h : srt b T P = 2) : tkE b T P = skA b 48 57 T P := by
  unfold srt at h
  unfold tkE
  by_cases h1 : T ≤ P
  · rw [if_pos h1] at h; exact absurd h (by decide)
  · rw [if_neg h1] at h ⊢
    by_cases h2 : isW (b P) 97 122 = 0
    · rw [if_pos h2] at h ⊢
      by_cases h3 : isW (b P) 48 57 = 0
      · rw [if_pos h3] at h
        by_cases h4 : b P = 59
        · rw [if_pos h4] at h; exact absurd h (by decide)
        · rw [if_neg h4] at h; exact absurd h (by decide)
      · rw [if_neg h3]
    · rw [if_neg h2] at h; exact absurd h (by decide)
theorem numL_rng {b : Nat → Int32} {M : Nat} (hM : M ≤ 999) : ∀ n i j, j ≤ M → (∀ k, i ≤ k → k < i + n → ¬ b k < 48 ∧ ¬ 57 < b k) → (numL b (nI M) n i (nI j)).1 = 1 → ∃ j', j' ≤ M ∧ (numL b (nI M) n i (nI j)).2 = nI j'
  | 0, i, j, hj, hb, h => ⟨j, hj, rfl⟩
  | n + 1, i, j, hj, hb, h => by
    obtain ⟨h1, h2⟩ := hb i (Nat.le_refl i) (by omega)
    have h0 : ¬ b i < 0 := by
      rw [fc_lt, show (48 : Int32).toInt = 48 from rfl] at h1
      rw [fc_lt, show (0 : Int32).toInt = 0 from rfl]
      omega
    obtain ⟨u, hu, e⟩ := nI_w 57 h0 h2 (by decide)
    have h48 : 48 ≤ u := by
      rw [e, show (48 : Int32) = nI 48 from rfl, nI_ltI (by omega) (by decide)] at h1
      omega
    have ev : 10 * nI j + b i - 48 = nI (10 * j + (u - 48)) := by
      rw [e, show (10 : Int32) = nI 10 from rfl, show (48 : Int32) = nI 48 from rfl, pk_mul, nI_add, pk_sub (by omega)]
      congr 1
      omega
    rw [numL, ev] at h ⊢
    by_cases h3 : nI (10 * j + (u - 48)) ≤ nI M
    · rw [if_pos h3] at h ⊢
      exact numL_rng hM n (i + 1) _ ((nI_leI (by omega) (by omega)).mp h3) (fun k hk1 hk2 => hb k (by omega) (by omega)) h
    · rw [if_neg h3] at h
      exact absurd h (show ¬ (0 : Int32) = 1 by decide)
theorem nm_rng {b : Nat → Int32} {T P M : Nat} {nu : Int32} (hM : M ≤ 999) (h : ¬ (nmN b T P (nI M) nu).1 = 0) : ∃ j, j ≤ M ∧ (nmN b T P (nI M) nu).2.2 = nI j := by
  unfold nmN at h ⊢
  by_cases h1 : srt b T (nxP b T P) = 2
  · rw [if_pos h1] at h ⊢
    by_cases h2 : (numL b (nI M) (tkE b T (nxP b T P) - nxP b T P) (nxP b T P) 0).1 = 1
    · rw [if_pos h2]
      refine numL_rng hM _ _ 0 (Nat.zero_le M) (fun k hk1 hk2 => ?_) h2
      have hs := srt_2 h1
      exact skp_in _ _ k hk1 (by
        show k < skA b 48 57 T (nxP b T P)
        rw [← hs]
        have := tkE_ge (b := b) (T := T) (p := nxP b T P)
        omega)
    · rw [if_neg h2] at h
      exact absurd rfl h
  · rw [if_neg h1] at h
    exact absurd rfl h
theorem nm_le {b : Nat → Int32} {T P : Nat} (M nu : Int32) (hP : P ≤ T) : (nmN b T P M nu).2.1 ≤ T := by
  have h1 := nxP_le (b := b) hP
  unfold nmN
  by_cases h : srt b T (nxP b T P) = 2
  · rw [if_pos h]
    by_cases h2 : (numL b M (tkE b T (nxP b T P) - nxP b T P) (nxP b T P) 0).1 = 1
    · rw [if_pos h2]; exact nxP_le h1
    · rw [if_neg h2]; exact h1
  · rw [if_neg h]; exact h1
theorem nm_vp {b : Nat → Int32} {T P : Nat} {nu : Int32} (h : ¬ (nmN b T P 7 nu).1 = 0) : vp_in (nmN b T P 7 nu).2.2 8 := by
  obtain ⟨j, hj, e⟩ := nm_rng (M := 7) (by decide) h
  rw [show (7 : Int32) = nI 7 from rfl, e]
  exact vp_in_nI (by omega) (by decide)

def pcT (b : Nat → Int32) (T P : Nat) (nu : Int32) (t : Ter) (h : Int32) : Int32 × Nat × Int32 × Ter := if wdB b T P 4 = 0 then (1, P, nu, t) else if (nmN b T P 999 nu).1 = 0 then (0, (nmN b T P 999 nu).2.1, (nmN b T P 999 nu).2.2, t) else (1, (nmN b T P 999 nu).2.1, (nmN b T P 999 nu).2.2, (t.1, t.2.1, t.2.2.1, t.2.2.2.1, t.2.2.2.2.1, t.2.2.2.2.2.1, t.2.2.2.2.2.2.1, t.2.2.2.2.2.2.2.1, t.2.2.2.2.2.2.2.2.1, upd (tPen t) h.toNatClampNeg (nmN b T P 999 nu).2.2, t.2.2.2.2.2.2.2.2.2.2))
def mdT (b : Nat → Int32) (T P : Nat) (nu : Int32) (t : Ter) (h : Int32) : Int32 × Nat × Int32 × Ter := if wdB b T P 3 = 0 then pcT b T P nu t h else if (nmN b T P 20 nu).1 = 0 then (0, (nmN b T P 20 nu).2.1, (nmN b T P 20 nu).2.2, t) else pcT b T (nmN b T P 20 nu).2.1 (nmN b T P 20 nu).2.2 (t.1, t.2.1, t.2.2.1, t.2.2.2.1, t.2.2.2.2.1, t.2.2.2.2.2.1, t.2.2.2.2.2.2.1, t.2.2.2.2.2.2.2.1, upd (tMood t) h.toNatClampNeg (nmN b T P 20 nu).2.2, t.2.2.2.2.2.2.2.2.2.1, t.2.2.2.2.2.2.2.2.2.2) h
def hsT (b : Nat → Int32) (T P : Nat) (nu : Int32) (t : Ter) (k : Int32) : Int32 × Nat × Int32 × Ter := if (nmN b T P 7 nu).1 = 0 then (0, (nmN b T P 7 nu).2.1, (nmN b T P 7 nu).2.2, t) else mdT b T (nmN b T P 7 nu).2.1 (nmN b T P 7 nu).2.2 (t.1, t.2.1, t.2.2.1, t.2.2.2.1, t.2.2.2.2.1, t.2.2.2.2.2.1, t.2.2.2.2.2.2.1, upd (tKind t) (nmN b T P 7 nu).2.2.toNatClampNeg k, t.2.2.2.2.2.2.2.2.1, t.2.2.2.2.2.2.2.2.2.1, t.2.2.2.2.2.2.2.2.2.2) (nmN b T P 7 nu).2.2
def mnT (b : Nat → Int32) (T P : Nat) (nu : Int32) (t : Ter) : Int32 × Nat × Int32 × Ter := if (nmN b T P 7 nu).1 = 0 then (0, (nmN b T P 7 nu).2.1, (nmN b T P 7 nu).2.2, t) else if wdB b T (nmN b T P 7 nu).2.1 5 = 0 then (1, (nmN b T P 7 nu).2.1, (nmN b T P 7 nu).2.2, t.1, (nmN b T P 7 nu).2.2, 1, t.2.2.2) else (1, nxP b T (nmN b T P 7 nu).2.1, (nmN b T P 7 nu).2.2, t.1, (nmN b T P 7 nu).2.2, 0, t.2.2.2)
def trT (b : Nat → Int32) (T P : Nat) (nu : Int32) (t : Ter) : Int32 × Nat × Int32 × Ter := if (nmN b T P 999 nu).1 = 0 then (0, (nmN b T P 999 nu).2.1, (nmN b T P 999 nu).2.2, t) else (1, (nmN b T P 999 nu).2.1, (nmN b T P 999 nu).2.2, (t.1, t.2.1, t.2.2.1, (nmN b T P 999 nu).2.2, t.2.2.2.2.1, t.2.2.2.2.2.1, t.2.2.2.2.2.2.1, t.2.2.2.2.2.2.2.1, t.2.2.2.2.2.2.2.2.1, t.2.2.2.2.2.2.2.2.2.1, t.2.2.2.2.2.2.2.2.2.2))
def ckT (b : Nat → Int32) (T P : Nat) (nu : Int32) (t : Ter) : Int32 × Nat × Int32 × Ter := if (nmN b T P 99 nu).1 = 0 then (0, (nmN b T P 99 nu).2.1, (nmN b T P 99 nu).2.2, t) else (1, (nmN b T P 99 nu).2.1, (nmN b T P 99 nu).2.2, (t.1, t.2.1, t.2.2.1, t.2.2.2.1, t.2.2.2.2.1, (nmN b T P 99 nu).2.2, t.2.2.2.2.2.2.1, t.2.2.2.2.2.2.2.1, t.2.2.2.2.2.2.2.2.1, t.2.2.2.2.2.2.2.2.2.1, t.2.2.2.2.2.2.2.2.2.2))
def itT (b : Nat → Int32) (T P : Nat) (nu : Int32) (t : Ter) : Int32 × Nat × Int32 × Ter := if knF b T P 6 0 = -1 then (if wdB b T P 0 = 0 then (if wdB b T P 1 = 0 then (if wdB b T P 2 = 0 then (0, P, nu, t) else ckT b T P nu t) else trT b T P nu t) else mnT b T P nu t) else hsT b T P nu t (knF b T P 6 0)
theorem tleaf {E : gE} {a : Nat → Nat} {b : Nat → Int32} {T P' : Nat} {r nu' : Int32} {t' : Ter} {N : Int32 × Nat × Int32 × Ter} (h : N = (r, P', nu', t')) : r = N.1 ∧ lxW E a b T P' nu' t' = lxW E a b T N.2.1 N.2.2.1 N.2.2.2 := by
  rw [h]
  exact ⟨rfl, rfl⟩

abbrev rmX4_isHouseTold : Room := { frames := 5, cells := 0, slots := 0, locals := 107 }
theorem hYX4_isHouseTold : gY yX4_isHouseTold wsX4_isHouseTold cX4_isHouseTold 4 (some .boolean) 2 := ⟨⟨_, rfl⟩, by decide +kernel, by decide +kernel, by decide +kernel⟩
theorem iwX4_isHouseTold_X4 : ∀ w ∈ u_ws RX4 TX4 5, w ∈ wsX4_isHouseTold := by decide +kernel
theorem lkX4_isHouseTold_25 : Cond.fieldLink RX4 25 "MuffinBells$TerraceText" "number" "I" ∈ wsX4_isHouseTold := by decide +kernel
theorem iwX4_isHouseTold_X3 : ∀ w ∈ u_ws RX3 TX3 11, w ∈ wsX4_isHouseTold := by decide +kernel
theorem lkX4_isHouseTold_68 : Cond.fieldLink RX4 68 "MuffinBells$Terrace" "kinds" "[I" ∈ wsX4_isHouseTold := by decide +kernel
theorem lkX4_isHouseTold_81 : Cond.fieldLink RX4 81 "MuffinBells$Terrace" "pence" "[I" ∈ wsX4_isHouseTold := by decide +kernel
theorem lkX4_isHouseTold_76 : Cond.fieldLink RX4 76 "MuffinBells$Terrace" "moods" "[I" ∈ wsX4_isHouseTold := by decide +kernel
set_option maxRecDepth 100000 in
set_option maxHeartbeats 4000000 in
theorem c_X4_isHouseTold (l : Launch) (E : gE) (a : Nat → Nat) (b : Nat → Int32) (T : Nat) (P : Nat) (nu : Int32) (t : Ter) (k0 : Int32) (hT : T ≤ 120) (hP : P ≤ T) : cti l yX4_isHouseTold wsX4_isHouseTold rmX4_isHouseTold E [.ref (a 0), .ref (a 3), .int k0] (xtW E a (b, nI T, srt b T P, nI P, nI (tkE b T P), nu) t) (fun r w => r = (hsT b T P nu t k0).1 ∧ w = lxW E a b T (hsT b T P nu t k0).2.1 (hsT b T P nu t k0).2.2.1 (hsT b T P nu t k0).2.2.2) := by
  refine mt_i (cc := cX4_isHouseTold) (maxL := 4) (ret := some .boolean) (lv0 := [(0, .ref (a 0)), (1, .ref (a 3)), (2, .int k0)]) (by decide) rfl rfl (Nat.le_of_ble_eq_true rfl) (fun X cx gr hI => ?_)
  refine g_aload_n cx dX4_isHouseTold_0 0 rfl ?_
  refine g_bipush (v := 7) cx dX4_isHouseTold_1 (by decide) ?_
  refine g_VSi (rest := []) (As := [.int 7]) cx hYX4_isNumberNext gX4_isHouseTold_X4_isNumberNext (c_X4_isNumberNext l E a b T P nu t 7 hT hP) rfl rfl rfl ⟨Nat.le_of_ble_eq_true rfl, Nat.le_of_ble_eq_true rfl⟩ rfl rfl (Nat.le_of_ble_eq_true rfl) ⟨Nat.le_of_ble_eq_true rfl, Nat.le_of_ble_eq_true rfl⟩ dX4_isHouseTold_3 (fun r w1 hp => ?_)
  obtain ⟨hr, rfl⟩ := hp
  rw [hr]
  refine g_if_ne (tgt := 11) cx dX4_isHouseTold_6 (by decide) (fun c_1 => ?_) (fun c_1 => ?_)
  · refine g_aload_n cx dX4_isHouseTold_11 0 rfl ?_
    refine g_get (C := RX4) (T := TX4) (N := 5) (v := .int ((nmN b T P 7 nu).2.2)) cx iwX4_isHouseTold_X4 0 4 rfl rfl (by decide) lkX4_isHouseTold_25 rfl dX4_isHouseTold_12 ?_
    refine g_istore_n (lv' := [(3, .int ((nmN b T P 7 nu).2.2)), (0, .ref (a 0)), (1, .ref (a 3)), (2, .int k0)]) cx dX4_isHouseTold_15 (by decide) rfl ?_
    refine g_aload_n cx dX4_isHouseTold_16 2 rfl ?_
    refine g_get (C := RX3) (T := TX3) (N := 11) (v := .ref (a 4)) cx iwX4_isHouseTold_X3 3 7 rfl rfl (by decide) lkX4_isHouseTold_68 rfl dX4_isHouseTold_17 ?_
    refine g_iload_n cx dX4_isHouseTold_20 0 rfl ?_
    refine g_iload_n cx dX4_isHouseTold_21 3 rfl ?_
    refine g_iast (ws' := (xtW E a (b, nI T, srt b T ((nmN b T P 7 nu).2.1), nI ((nmN b T P 7 nu).2.1), nI (tkE b T ((nmN b T P 7 nu).2.1)), (nmN b T P 7 nu).2.2) (t.1, t.2.1, t.2.2.1, t.2.2.2.1, t.2.2.2.2.1, t.2.2.2.2.2.1, t.2.2.2.2.2.2.1, upd t.2.2.2.2.2.2.2.1 ((nmN b T P 7 nu).2.2).toNatClampNeg k0, t.2.2.2.2.2.2.2.2.1, t.2.2.2.2.2.2.2.2.2.1, t.2.2.2.2.2.2.2.2.2.2))) cx 4 rfl rfl (nm_vp c_1) dX4_isHouseTold_22 rfl ?_
    refine g_aload_n cx dX4_isHouseTold_23 1 rfl ?_
    refine g_ldcS (i := 3) cx rfl (by decide) rfl dX4_isHouseTold_24 ?_
    refine g_VSi (rest := []) (As := [.ref (E.2.2.1 3)]) cx hYX4_isWord gX4_isHouseTold_X4_isWord (c_X4_isWord l E a b T ((nmN b T P 7 nu).2.1) ((nmN b T P 7 nu).2.2) (t.1, t.2.1, t.2.2.1, t.2.2.2.1, t.2.2.2.2.1, t.2.2.2.2.2.1, t.2.2.2.2.2.2.1, upd t.2.2.2.2.2.2.2.1 ((nmN b T P 7 nu).2.2).toNatClampNeg k0, t.2.2.2.2.2.2.2.2.1, t.2.2.2.2.2.2.2.2.2.1, t.2.2.2.2.2.2.2.2.2.2) 3 hT (nm_le 7 nu hP) (by decide)) rfl rfl rfl ⟨Nat.le_of_ble_eq_true rfl, Nat.le_of_ble_eq_true rfl⟩ rfl rfl (Nat.le_of_ble_eq_true rfl) ⟨Nat.le_of_ble_eq_true rfl, Nat.le_of_ble_eq_true rfl⟩ dX4_isHouseTold_26 (fun r w1 hp => ?_)
    obtain ⟨rfl, rfl⟩ := hp
    refine g_if_eq (tgt := 53) cx dX4_isHouseTold_29 (by decide) (fun c_2 => ?_) (fun c_2 => ?_)
    · refine g_aload_n cx dX4_isHouseTold_53 1 rfl ?_
      refine g_ldcS (i := 4) cx rfl (by decide) rfl dX4_isHouseTold_54 ?_
      refine g_VSi (rest := []) (As := [.ref (E.2.2.1 4)]) cx hYX4_isWord gX4_isHouseTold_X4_isWord (c_X4_isWord l E a b T ((nmN b T P 7 nu).2.1) ((nmN b T P 7 nu).2.2) (t.1, t.2.1, t.2.2.1, t.2.2.2.1, t.2.2.2.2.1, t.2.2.2.2.2.1, t.2.2.2.2.2.2.1, upd t.2.2.2.2.2.2.2.1 ((nmN b T P 7 nu).2.2).toNatClampNeg k0, t.2.2.2.2.2.2.2.2.1, t.2.2.2.2.2.2.2.2.2.1, t.2.2.2.2.2.2.2.2.2.2) 4 hT (nm_le 7 nu hP) (by decide)) rfl rfl rfl ⟨Nat.le_of_ble_eq_true rfl, Nat.le_of_ble_eq_true rfl⟩ rfl rfl (Nat.le_of_ble_eq_true rfl) ⟨Nat.le_of_ble_eq_true rfl, Nat.le_of_ble_eq_true rfl⟩ dX4_isHouseTold_56 (fun r w1 hp => ?_)
      obtain ⟨rfl, rfl⟩ := hp
      refine g_if_eq (tgt := 84) cx dX4_isHouseTold_59 (by decide) (fun c_3 => ?_) (fun c_3 => ?_)
      · refine g_iconst (v := 1) cx dX4_isHouseTold_84 (by decide) ?_
        exact g_zret cx gr rfl (Nat.zero_le _) (Nat.zero_le _) dX4_isHouseTold_85 (tleaf (by rw [hsT, if_neg c_1, mdT, if_pos c_2, pcT, if_pos c_3]))
      · refine g_aload_n cx dX4_isHouseTold_62 1 rfl ?_
        refine g_sipush (v := 999) cx dX4_isHouseTold_63 (by decide) ?_
        refine g_VSi (rest := []) (As := [.int 999]) cx hYX4_isNumberNext gX4_isHouseTold_X4_isNumberNext (c_X4_isNumberNext l E a b T ((nmN b T P 7 nu).2.1) ((nmN b T P 7 nu).2.2) (t.1, t.2.1, t.2.2.1, t.2.2.2.1, t.2.2.2.2.1, t.2.2.2.2.2.1, t.2.2.2.2.2.2.1, upd t.2.2.2.2.2.2.2.1 ((nmN b T P 7 nu).2.2).toNatClampNeg k0, t.2.2.2.2.2.2.2.2.1, t.2.2.2.2.2.2.2.2.2.1, t.2.2.2.2.2.2.2.2.2.2) 999 hT (nm_le 7 nu hP)) rfl rfl rfl ⟨Nat.le_of_ble_eq_true rfl, Nat.le_of_ble_eq_true rfl⟩ rfl rfl (Nat.le_of_ble_eq_true rfl) ⟨Nat.le_of_ble_eq_true rfl, Nat.le_of_ble_eq_true rfl⟩ dX4_isHouseTold_66 (fun r w1 hp => ?_)
        obtain ⟨hr, rfl⟩ := hp
        rw [hr]
        refine g_if_ne (tgt := 74) cx dX4_isHouseTold_69 (by decide) (fun c_4 => ?_) (fun c_4 => ?_)
        · refine g_aload_n cx dX4_isHouseTold_74 2 rfl ?_
          refine g_get (C := RX3) (T := TX3) (N := 11) (v := .ref (a 6)) cx iwX4_isHouseTold_X3 3 9 rfl rfl (by decide) lkX4_isHouseTold_81 rfl dX4_isHouseTold_75 ?_
          refine g_iload_n cx dX4_isHouseTold_78 0 rfl ?_
          refine g_aload_n cx dX4_isHouseTold_79 1 rfl ?_
          refine g_get (C := RX4) (T := TX4) (N := 5) (v := .int ((nmN b T ((nmN b T P 7 nu).2.1) 999 ((nmN b T P 7 nu).2.2)).2.2)) cx iwX4_isHouseTold_X4 0 4 rfl rfl (by decide) lkX4_isHouseTold_25 rfl dX4_isHouseTold_80 ?_
          refine g_iast (ws' := (xtW E a (b, nI T, srt b T ((nmN b T ((nmN b T P 7 nu).2.1) 999 ((nmN b T P 7 nu).2.2)).2.1), nI ((nmN b T ((nmN b T P 7 nu).2.1) 999 ((nmN b T P 7 nu).2.2)).2.1), nI (tkE b T ((nmN b T ((nmN b T P 7 nu).2.1) 999 ((nmN b T P 7 nu).2.2)).2.1)), (nmN b T ((nmN b T P 7 nu).2.1) 999 ((nmN b T P 7 nu).2.2)).2.2) (t.1, t.2.1, t.2.2.1, t.2.2.2.1, t.2.2.2.2.1, t.2.2.2.2.2.1, t.2.2.2.2.2.2.1, upd t.2.2.2.2.2.2.2.1 ((nmN b T P 7 nu).2.2).toNatClampNeg k0, t.2.2.2.2.2.2.2.2.1, upd t.2.2.2.2.2.2.2.2.2.1 ((nmN b T P 7 nu).2.2).toNatClampNeg ((nmN b T ((nmN b T P 7 nu).2.1) 999 ((nmN b T P 7 nu).2.2)).2.2), t.2.2.2.2.2.2.2.2.2.2))) cx 6 rfl rfl (nm_vp c_1) dX4_isHouseTold_83 rfl ?_
          refine g_iconst (v := 1) cx dX4_isHouseTold_84 (by decide) ?_
          exact g_zret cx gr rfl (Nat.zero_le _) (Nat.zero_le _) dX4_isHouseTold_85 (tleaf (by rw [hsT, if_neg c_1, mdT, if_pos c_2, pcT, if_neg c_3, if_neg c_4]))
        · refine g_iconst (v := 0) cx dX4_isHouseTold_72 (by decide) ?_
          exact g_zret cx gr rfl (Nat.zero_le _) (Nat.zero_le _) dX4_isHouseTold_73 (tleaf (by rw [hsT, if_neg c_1, mdT, if_pos c_2, pcT, if_neg c_3, if_pos c_4]))
    · refine g_aload_n cx dX4_isHouseTold_32 1 rfl ?_
      refine g_bipush (v := 20) cx dX4_isHouseTold_33 (by decide) ?_
      refine g_VSi (rest := []) (As := [.int 20]) cx hYX4_isNumberNext gX4_isHouseTold_X4_isNumberNext (c_X4_isNumberNext l E a b T ((nmN b T P 7 nu).2.1) ((nmN b T P 7 nu).2.2) (t.1, t.2.1, t.2.2.1, t.2.2.2.1, t.2.2.2.2.1, t.2.2.2.2.2.1, t.2.2.2.2.2.2.1, upd t.2.2.2.2.2.2.2.1 ((nmN b T P 7 nu).2.2).toNatClampNeg k0, t.2.2.2.2.2.2.2.2.1, t.2.2.2.2.2.2.2.2.2.1, t.2.2.2.2.2.2.2.2.2.2) 20 hT (nm_le 7 nu hP)) rfl rfl rfl ⟨Nat.le_of_ble_eq_true rfl, Nat.le_of_ble_eq_true rfl⟩ rfl rfl (Nat.le_of_ble_eq_true rfl) ⟨Nat.le_of_ble_eq_true rfl, Nat.le_of_ble_eq_true rfl⟩ dX4_isHouseTold_35 (fun r w1 hp => ?_)
      obtain ⟨hr, rfl⟩ := hp
      rw [hr]
      refine g_if_ne (tgt := 43) cx dX4_isHouseTold_38 (by decide) (fun c_5 => ?_) (fun c_5 => ?_)
      · refine g_aload_n cx dX4_isHouseTold_43 2 rfl ?_
        refine g_get (C := RX3) (T := TX3) (N := 11) (v := .ref (a 5)) cx iwX4_isHouseTold_X3 3 8 rfl rfl (by decide) lkX4_isHouseTold_76 rfl dX4_isHouseTold_44 ?_
        refine g_iload_n cx dX4_isHouseTold_47 0 rfl ?_
        refine g_aload_n cx dX4_isHouseTold_48 1 rfl ?_
        refine g_get (C := RX4) (T := TX4) (N := 5) (v := .int ((nmN b T ((nmN b T P 7 nu).2.1) 20 ((nmN b T P 7 nu).2.2)).2.2)) cx iwX4_isHouseTold_X4 0 4 rfl rfl (by decide) lkX4_isHouseTold_25 rfl dX4_isHouseTold_49 ?_
        refine g_iast (ws' := (xtW E a (b, nI T, srt b T ((nmN b T ((nmN b T P 7 nu).2.1) 20 ((nmN b T P 7 nu).2.2)).2.1), nI ((nmN b T ((nmN b T P 7 nu).2.1) 20 ((nmN b T P 7 nu).2.2)).2.1), nI (tkE b T ((nmN b T ((nmN b T P 7 nu).2.1) 20 ((nmN b T P 7 nu).2.2)).2.1)), (nmN b T ((nmN b T P 7 nu).2.1) 20 ((nmN b T P 7 nu).2.2)).2.2) (t.1, t.2.1, t.2.2.1, t.2.2.2.1, t.2.2.2.2.1, t.2.2.2.2.2.1, t.2.2.2.2.2.2.1, upd t.2.2.2.2.2.2.2.1 ((nmN b T P 7 nu).2.2).toNatClampNeg k0, upd t.2.2.2.2.2.2.2.2.1 ((nmN b T P 7 nu).2.2).toNatClampNeg ((nmN b T ((nmN b T P 7 nu).2.1) 20 ((nmN b T P 7 nu).2.2)).2.2), t.2.2.2.2.2.2.2.2.2.1, t.2.2.2.2.2.2.2.2.2.2))) cx 5 rfl rfl (nm_vp c_1) dX4_isHouseTold_52 rfl ?_
        refine g_aload_n cx dX4_isHouseTold_53 1 rfl ?_
        refine g_ldcS (i := 4) cx rfl (by decide) rfl dX4_isHouseTold_54 ?_
        refine g_VSi (rest := []) (As := [.ref (E.2.2.1 4)]) cx hYX4_isWord gX4_isHouseTold_X4_isWord (c_X4_isWord l E a b T ((nmN b T ((nmN b T P 7 nu).2.1) 20 ((nmN b T P 7 nu).2.2)).2.1) ((nmN b T ((nmN b T P 7 nu).2.1) 20 ((nmN b T P 7 nu).2.2)).2.2) (t.1, t.2.1, t.2.2.1, t.2.2.2.1, t.2.2.2.2.1, t.2.2.2.2.2.1, t.2.2.2.2.2.2.1, upd t.2.2.2.2.2.2.2.1 ((nmN b T P 7 nu).2.2).toNatClampNeg k0, upd t.2.2.2.2.2.2.2.2.1 ((nmN b T P 7 nu).2.2).toNatClampNeg ((nmN b T ((nmN b T P 7 nu).2.1) 20 ((nmN b T P 7 nu).2.2)).2.2), t.2.2.2.2.2.2.2.2.2.1, t.2.2.2.2.2.2.2.2.2.2) 4 hT (nm_le 20 ((nmN b T P 7 nu).2.2) (nm_le 7 nu hP)) (by decide)) rfl rfl rfl ⟨Nat.le_of_ble_eq_true rfl, Nat.le_of_ble_eq_true rfl⟩ rfl rfl (Nat.le_of_ble_eq_true rfl) ⟨Nat.le_of_ble_eq_true rfl, Nat.le_of_ble_eq_true rfl⟩ dX4_isHouseTold_56 (fun r w1 hp => ?_)
        obtain ⟨rfl, rfl⟩ := hp
        refine g_if_eq (tgt := 84) cx dX4_isHouseTold_59 (by decide) (fun c_6 => ?_) (fun c_6 => ?_)
        · refine g_iconst (v := 1) cx dX4_isHouseTold_84 (by decide) ?_
          exact g_zret cx gr rfl (Nat.zero_le _) (Nat.zero_le _) dX4_isHouseTold_85 (tleaf (by rw [hsT, if_neg c_1, mdT, if_neg c_2, if_neg c_5, pcT, if_pos c_6]))
        · refine g_aload_n cx dX4_isHouseTold_62 1 rfl ?_
          refine g_sipush (v := 999) cx dX4_isHouseTold_63 (by decide) ?_
          refine g_VSi (rest := []) (As := [.int 999]) cx hYX4_isNumberNext gX4_isHouseTold_X4_isNumberNext (c_X4_isNumberNext l E a b T ((nmN b T ((nmN b T P 7 nu).2.1) 20 ((nmN b T P 7 nu).2.2)).2.1) ((nmN b T ((nmN b T P 7 nu).2.1) 20 ((nmN b T P 7 nu).2.2)).2.2) (t.1, t.2.1, t.2.2.1, t.2.2.2.1, t.2.2.2.2.1, t.2.2.2.2.2.1, t.2.2.2.2.2.2.1, upd t.2.2.2.2.2.2.2.1 ((nmN b T P 7 nu).2.2).toNatClampNeg k0, upd t.2.2.2.2.2.2.2.2.1 ((nmN b T P 7 nu).2.2).toNatClampNeg ((nmN b T ((nmN b T P 7 nu).2.1) 20 ((nmN b T P 7 nu).2.2)).2.2), t.2.2.2.2.2.2.2.2.2.1, t.2.2.2.2.2.2.2.2.2.2) 999 hT (nm_le 20 ((nmN b T P 7 nu).2.2) (nm_le 7 nu hP))) rfl rfl rfl ⟨Nat.le_of_ble_eq_true rfl, Nat.le_of_ble_eq_true rfl⟩ rfl rfl (Nat.le_of_ble_eq_true rfl) ⟨Nat.le_of_ble_eq_true rfl, Nat.le_of_ble_eq_true rfl⟩ dX4_isHouseTold_66 (fun r w1 hp => ?_)
          obtain ⟨hr, rfl⟩ := hp
          rw [hr]
          refine g_if_ne (tgt := 74) cx dX4_isHouseTold_69 (by decide) (fun c_7 => ?_) (fun c_7 => ?_)
          · refine g_aload_n cx dX4_isHouseTold_74 2 rfl ?_
            refine g_get (C := RX3) (T := TX3) (N := 11) (v := .ref (a 6)) cx iwX4_isHouseTold_X3 3 9 rfl rfl (by decide) lkX4_isHouseTold_81 rfl dX4_isHouseTold_75 ?_
            refine g_iload_n cx dX4_isHouseTold_78 0 rfl ?_
            refine g_aload_n cx dX4_isHouseTold_79 1 rfl ?_
            refine g_get (C := RX4) (T := TX4) (N := 5) (v := .int ((nmN b T ((nmN b T ((nmN b T P 7 nu).2.1) 20 ((nmN b T P 7 nu).2.2)).2.1) 999 ((nmN b T ((nmN b T P 7 nu).2.1) 20 ((nmN b T P 7 nu).2.2)).2.2)).2.2)) cx iwX4_isHouseTold_X4 0 4 rfl rfl (by decide) lkX4_isHouseTold_25 rfl dX4_isHouseTold_80 ?_
            refine g_iast (ws' := (xtW E a (b, nI T, srt b T ((nmN b T ((nmN b T ((nmN b T P 7 nu).2.1) 20 ((nmN b T P 7 nu).2.2)).2.1) 999 ((nmN b T ((nmN b T P 7 nu).2.1) 20 ((nmN b T P 7 nu).2.2)).2.2)).2.1), nI ((nmN b T ((nmN b T ((nmN b T P 7 nu).2.1) 20 ((nmN b T P 7 nu).2.2)).2.1) 999 ((nmN b T ((nmN b T P 7 nu).2.1) 20 ((nmN b T P 7 nu).2.2)).2.2)).2.1), nI (tkE b T ((nmN b T ((nmN b T ((nmN b T P 7 nu).2.1) 20 ((nmN b T P 7 nu).2.2)).2.1) 999 ((nmN b T ((nmN b T P 7 nu).2.1) 20 ((nmN b T P 7 nu).2.2)).2.2)).2.1)), (nmN b T ((nmN b T ((nmN b T P 7 nu).2.1) 20 ((nmN b T P 7 nu).2.2)).2.1) 999 ((nmN b T ((nmN b T P 7 nu).2.1) 20 ((nmN b T P 7 nu).2.2)).2.2)).2.2) (t.1, t.2.1, t.2.2.1, t.2.2.2.1, t.2.2.2.2.1, t.2.2.2.2.2.1, t.2.2.2.2.2.2.1, upd t.2.2.2.2.2.2.2.1 ((nmN b T P 7 nu).2.2).toNatClampNeg k0, upd t.2.2.2.2.2.2.2.2.1 ((nmN b T P 7 nu).2.2).toNatClampNeg ((nmN b T ((nmN b T P 7 nu).2.1) 20 ((nmN b T P 7 nu).2.2)).2.2), upd t.2.2.2.2.2.2.2.2.2.1 ((nmN b T P 7 nu).2.2).toNatClampNeg ((nmN b T ((nmN b T ((nmN b T P 7 nu).2.1) 20 ((nmN b T P 7 nu).2.2)).2.1) 999 ((nmN b T ((nmN b T P 7 nu).2.1) 20 ((nmN b T P 7 nu).2.2)).2.2)).2.2), t.2.2.2.2.2.2.2.2.2.2))) cx 6 rfl rfl (nm_vp c_1) dX4_isHouseTold_83 rfl ?_
            refine g_iconst (v := 1) cx dX4_isHouseTold_84 (by decide) ?_
            exact g_zret cx gr rfl (Nat.zero_le _) (Nat.zero_le _) dX4_isHouseTold_85 (tleaf (by rw [hsT, if_neg c_1, mdT, if_neg c_2, if_neg c_5, pcT, if_neg c_6, if_neg c_7]))
          · refine g_iconst (v := 0) cx dX4_isHouseTold_72 (by decide) ?_
            exact g_zret cx gr rfl (Nat.zero_le _) (Nat.zero_le _) dX4_isHouseTold_73 (tleaf (by rw [hsT, if_neg c_1, mdT, if_neg c_2, if_neg c_5, pcT, if_neg c_6, if_pos c_7]))
      · refine g_iconst (v := 0) cx dX4_isHouseTold_41 (by decide) ?_
        exact g_zret cx gr rfl (Nat.zero_le _) (Nat.zero_le _) dX4_isHouseTold_42 (tleaf (by rw [hsT, if_neg c_1, mdT, if_neg c_2, if_pos c_5]))
  · refine g_iconst (v := 0) cx dX4_isHouseTold_9 (by decide) ?_
    exact g_zret cx gr rfl (Nat.zero_le _) (Nat.zero_le _) dX4_isHouseTold_10 (tleaf (by rw [hsT, if_pos c_1]))

abbrev rmX4_isManTold : Room := { frames := 5, cells := 0, slots := 0, locals := 107 }
theorem hYX4_isManTold : gY yX4_isManTold wsX4_isManTold cX4_isManTold 2 (some .boolean) 1 := ⟨⟨_, rfl⟩, by decide +kernel, by decide +kernel, by decide +kernel⟩
theorem iwX4_isManTold_X4 : ∀ w ∈ u_ws RX4 TX4 5, w ∈ wsX4_isManTold := by decide +kernel
theorem lkX4_isManTold_25 : Cond.fieldLink RX4 25 "MuffinBells$TerraceText" "number" "I" ∈ wsX4_isManTold := by decide +kernel
theorem iwX4_isManTold_X3 : ∀ w ∈ u_ws RX3 TX3 11, w ∈ wsX4_isManTold := by decide +kernel
theorem lkX4_isManTold_83 : Cond.fieldLink RX4 83 "MuffinBells$Terrace" "at" "I" ∈ wsX4_isManTold := by decide +kernel
theorem lkX4_isManTold_86 : Cond.fieldLink RX4 86 "MuffinBells$Terrace" "way" "I" ∈ wsX4_isManTold := by decide +kernel
set_option maxRecDepth 100000 in
set_option maxHeartbeats 4000000 in
theorem c_X4_isManTold (l : Launch) (E : gE) (a : Nat → Nat) (b : Nat → Int32) (T : Nat) (P : Nat) (nu : Int32) (t : Ter) (hT : T ≤ 120) (hP : P ≤ T) : cti l yX4_isManTold wsX4_isManTold rmX4_isManTold E [.ref (a 0), .ref (a 3)] (xtW E a (b, nI T, srt b T P, nI P, nI (tkE b T P), nu) t) (fun r w => r = (mnT b T P nu t).1 ∧ w = lxW E a b T (mnT b T P nu t).2.1 (mnT b T P nu t).2.2.1 (mnT b T P nu t).2.2.2) := by
  refine mt_i (cc := cX4_isManTold) (maxL := 2) (ret := some .boolean) (lv0 := [(0, .ref (a 0)), (1, .ref (a 3))]) (by decide) rfl rfl (Nat.le_of_ble_eq_true rfl) (fun X cx gr hI => ?_)
  refine g_aload_n cx dX4_isManTold_0 0 rfl ?_
  refine g_bipush (v := 7) cx dX4_isManTold_1 (by decide) ?_
  refine g_VSi (rest := []) (As := [.int 7]) cx hYX4_isNumberNext gX4_isManTold_X4_isNumberNext (c_X4_isNumberNext l E a b T P nu t 7 hT hP) rfl rfl rfl ⟨Nat.le_of_ble_eq_true rfl, Nat.le_of_ble_eq_true rfl⟩ rfl rfl (Nat.le_of_ble_eq_true rfl) ⟨Nat.le_of_ble_eq_true rfl, Nat.le_of_ble_eq_true rfl⟩ dX4_isManTold_3 (fun r w1 hp => ?_)
  obtain ⟨hr, rfl⟩ := hp
  rw [hr]
  refine g_if_ne (tgt := 11) cx dX4_isManTold_6 (by decide) (fun c_1 => ?_) (fun c_1 => ?_)
  · refine g_aload_n cx dX4_isManTold_11 1 rfl ?_
    refine g_aload_n cx dX4_isManTold_12 0 rfl ?_
    refine g_get (C := RX4) (T := TX4) (N := 5) (v := .int ((nmN b T P 7 nu).2.2)) cx iwX4_isManTold_X4 0 4 rfl rfl (by decide) lkX4_isManTold_25 rfl dX4_isManTold_13 ?_
    refine g_put (C := RX3) (T := TX3) (N := 11) (ws' := (xtW E a (b, nI T, srt b T ((nmN b T P 7 nu).2.1), nI ((nmN b T P 7 nu).2.1), nI (tkE b T ((nmN b T P 7 nu).2.1)), (nmN b T P 7 nu).2.2) (t.1, (nmN b T P 7 nu).2.2, t.2.2.1, t.2.2.2.1, t.2.2.2.2.1, t.2.2.2.2.2.1, t.2.2.2.2.2.2.1, t.2.2.2.2.2.2.2.1, t.2.2.2.2.2.2.2.2.1, t.2.2.2.2.2.2.2.2.2.1, t.2.2.2.2.2.2.2.2.2.2))) cx iwX4_isManTold_X3 tyX3 tyX3_ok nmX3 3 1 rfl rfl (by decide) lkX4_isManTold_83 rfl rfl rfl (Nat.le_of_ble_eq_true rfl) dX4_isManTold_16 rfl ?_
    refine g_aload_n cx dX4_isManTold_19 1 rfl ?_
    refine g_iconst (v := 1) cx dX4_isManTold_20 (by decide) ?_
    refine g_put (C := RX3) (T := TX3) (N := 11) (ws' := (xtW E a (b, nI T, srt b T ((nmN b T P 7 nu).2.1), nI ((nmN b T P 7 nu).2.1), nI (tkE b T ((nmN b T P 7 nu).2.1)), (nmN b T P 7 nu).2.2) (t.1, (nmN b T P 7 nu).2.2, 1, t.2.2.2.1, t.2.2.2.2.1, t.2.2.2.2.2.1, t.2.2.2.2.2.2.1, t.2.2.2.2.2.2.2.1, t.2.2.2.2.2.2.2.2.1, t.2.2.2.2.2.2.2.2.2.1, t.2.2.2.2.2.2.2.2.2.2))) cx iwX4_isManTold_X3 tyX3 tyX3_ok nmX3 3 2 rfl rfl (by decide) lkX4_isManTold_86 rfl rfl rfl (Nat.le_of_ble_eq_true rfl) dX4_isManTold_21 rfl ?_
    refine g_aload_n cx dX4_isManTold_24 0 rfl ?_
    refine g_ldcS (i := 5) cx rfl (by decide) rfl dX4_isManTold_25 ?_
    refine g_VSi (rest := []) (As := [.ref (E.2.2.1 5)]) cx hYX4_isWord gX4_isManTold_X4_isWord (c_X4_isWord l E a b T ((nmN b T P 7 nu).2.1) ((nmN b T P 7 nu).2.2) (t.1, (nmN b T P 7 nu).2.2, 1, t.2.2.2.1, t.2.2.2.2.1, t.2.2.2.2.2.1, t.2.2.2.2.2.2.1, t.2.2.2.2.2.2.2.1, t.2.2.2.2.2.2.2.2.1, t.2.2.2.2.2.2.2.2.2.1, t.2.2.2.2.2.2.2.2.2.2) 5 hT (nm_le 7 nu hP) (by decide)) rfl rfl rfl ⟨Nat.le_of_ble_eq_true rfl, Nat.le_of_ble_eq_true rfl⟩ rfl rfl (Nat.le_of_ble_eq_true rfl) ⟨Nat.le_of_ble_eq_true rfl, Nat.le_of_ble_eq_true rfl⟩ dX4_isManTold_27 (fun r w1 hp => ?_)
    obtain ⟨rfl, rfl⟩ := hp
    refine g_if_eq (tgt := 42) cx dX4_isManTold_30 (by decide) (fun c_2 => ?_) (fun c_2 => ?_)
    · refine g_iconst (v := 1) cx dX4_isManTold_42 (by decide) ?_
      exact g_zret cx gr rfl (Nat.zero_le _) (Nat.zero_le _) dX4_isManTold_43 (tleaf (by rw [mnT, if_neg c_1, if_pos c_2]))
    · refine g_aload_n cx dX4_isManTold_33 1 rfl ?_
      refine g_iconst (v := 0) cx dX4_isManTold_34 (by decide) ?_
      refine g_put (C := RX3) (T := TX3) (N := 11) (ws' := (xtW E a (b, nI T, srt b T ((nmN b T P 7 nu).2.1), nI ((nmN b T P 7 nu).2.1), nI (tkE b T ((nmN b T P 7 nu).2.1)), (nmN b T P 7 nu).2.2) (t.1, (nmN b T P 7 nu).2.2, 0, t.2.2.2.1, t.2.2.2.2.1, t.2.2.2.2.2.1, t.2.2.2.2.2.2.1, t.2.2.2.2.2.2.2.1, t.2.2.2.2.2.2.2.2.1, t.2.2.2.2.2.2.2.2.2.1, t.2.2.2.2.2.2.2.2.2.2))) cx iwX4_isManTold_X3 tyX3 tyX3_ok nmX3 3 2 rfl rfl (by decide) lkX4_isManTold_86 rfl rfl rfl (Nat.le_of_ble_eq_true rfl) dX4_isManTold_35 rfl ?_
      refine g_aload_n cx dX4_isManTold_38 0 rfl ?_
      refine g_VSv (rest := []) (As := []) cx hYX4_advance gX4_isManTold_X4_advance (c_X4_advance l E a b T (srt b T ((nmN b T P 7 nu).2.1)) (nI ((nmN b T P 7 nu).2.1)) ((nmN b T P 7 nu).2.2) (t.1, (nmN b T P 7 nu).2.2, 0, t.2.2.2.1, t.2.2.2.2.1, t.2.2.2.2.2.1, t.2.2.2.2.2.2.1, t.2.2.2.2.2.2.2.1, t.2.2.2.2.2.2.2.2.1, t.2.2.2.2.2.2.2.2.2.1, t.2.2.2.2.2.2.2.2.2.2) (tkE b T ((nmN b T P 7 nu).2.1)) hT (tkE_le (nm_le 7 nu hP))) rfl rfl rfl ⟨Nat.le_of_ble_eq_true rfl, Nat.le_of_ble_eq_true rfl⟩ rfl rfl (Nat.le_of_ble_eq_true rfl) ⟨Nat.le_of_ble_eq_true rfl, Nat.le_of_ble_eq_true rfl⟩ dX4_isManTold_39 (fun w1 hp => ?_)
      obtain rfl := hp
      refine g_iconst (v := 1) cx dX4_isManTold_42 (by decide) ?_
      exact g_zret cx gr rfl (Nat.zero_le _) (Nat.zero_le _) dX4_isManTold_43 (tleaf (by rw [mnT, if_neg c_1, if_neg c_2]))
  · refine g_iconst (v := 0) cx dX4_isManTold_9 (by decide) ?_
    exact g_zret cx gr rfl (Nat.zero_le _) (Nat.zero_le _) dX4_isManTold_10 (tleaf (by rw [mnT, if_pos c_1]))

abbrev rmX4_isTrayTold : Room := { frames := 3, cells := 0, slots := 0, locals := 68 }
theorem hYX4_isTrayTold : gY yX4_isTrayTold wsX4_isTrayTold cX4_isTrayTold 2 (some .boolean) 1 := ⟨⟨_, rfl⟩, by decide +kernel, by decide +kernel, by decide +kernel⟩
theorem iwX4_isTrayTold_X4 : ∀ w ∈ u_ws RX4 TX4 5, w ∈ wsX4_isTrayTold := by decide +kernel
theorem lkX4_isTrayTold_25 : Cond.fieldLink RX4 25 "MuffinBells$TerraceText" "number" "I" ∈ wsX4_isTrayTold := by decide +kernel
theorem iwX4_isTrayTold_X3 : ∀ w ∈ u_ws RX3 TX3 11, w ∈ wsX4_isTrayTold := by decide +kernel
theorem lkX4_isTrayTold_91 : Cond.fieldLink RX4 91 "MuffinBells$Terrace" "tray" "I" ∈ wsX4_isTrayTold := by decide +kernel
set_option maxRecDepth 100000 in
set_option maxHeartbeats 4000000 in
theorem c_X4_isTrayTold (l : Launch) (E : gE) (a : Nat → Nat) (b : Nat → Int32) (T : Nat) (P : Nat) (nu : Int32) (t : Ter) (hT : T ≤ 120) (hP : P ≤ T) : cti l yX4_isTrayTold wsX4_isTrayTold rmX4_isTrayTold E [.ref (a 0), .ref (a 3)] (xtW E a (b, nI T, srt b T P, nI P, nI (tkE b T P), nu) t) (fun r w => r = (trT b T P nu t).1 ∧ w = lxW E a b T (trT b T P nu t).2.1 (trT b T P nu t).2.2.1 (trT b T P nu t).2.2.2) := by
  refine mt_i (cc := cX4_isTrayTold) (maxL := 2) (ret := some .boolean) (lv0 := [(0, .ref (a 0)), (1, .ref (a 3))]) (by decide) rfl rfl (Nat.le_of_ble_eq_true rfl) (fun X cx gr hI => ?_)
  refine g_aload_n cx dX4_isTrayTold_0 0 rfl ?_
  refine g_sipush (v := 999) cx dX4_isTrayTold_1 (by decide) ?_
  refine g_VSi (rest := []) (As := [.int 999]) cx hYX4_isNumberNext gX4_isTrayTold_X4_isNumberNext (c_X4_isNumberNext l E a b T P nu t 999 hT hP) rfl rfl rfl ⟨Nat.le_of_ble_eq_true rfl, Nat.le_of_ble_eq_true rfl⟩ rfl rfl (Nat.le_of_ble_eq_true rfl) ⟨Nat.le_of_ble_eq_true rfl, Nat.le_of_ble_eq_true rfl⟩ dX4_isTrayTold_4 (fun r w1 hp => ?_)
  obtain ⟨hr, rfl⟩ := hp
  rw [hr]
  refine g_if_ne (tgt := 12) cx dX4_isTrayTold_7 (by decide) (fun c_1 => ?_) (fun c_1 => ?_)
  · refine g_aload_n cx dX4_isTrayTold_12 1 rfl ?_
    refine g_aload_n cx dX4_isTrayTold_13 0 rfl ?_
    refine g_get (C := RX4) (T := TX4) (N := 5) (v := .int ((nmN b T P 999 nu).2.2)) cx iwX4_isTrayTold_X4 0 4 rfl rfl (by decide) lkX4_isTrayTold_25 rfl dX4_isTrayTold_14 ?_
    refine g_put (C := RX3) (T := TX3) (N := 11) (ws' := (xtW E a (b, nI T, srt b T ((nmN b T P 999 nu).2.1), nI ((nmN b T P 999 nu).2.1), nI (tkE b T ((nmN b T P 999 nu).2.1)), (nmN b T P 999 nu).2.2) (t.1, t.2.1, t.2.2.1, (nmN b T P 999 nu).2.2, t.2.2.2.2.1, t.2.2.2.2.2.1, t.2.2.2.2.2.2.1, t.2.2.2.2.2.2.2.1, t.2.2.2.2.2.2.2.2.1, t.2.2.2.2.2.2.2.2.2.1, t.2.2.2.2.2.2.2.2.2.2))) cx iwX4_isTrayTold_X3 tyX3 tyX3_ok nmX3 3 3 rfl rfl (by decide) lkX4_isTrayTold_91 rfl rfl rfl (Nat.le_of_ble_eq_true rfl) dX4_isTrayTold_17 rfl ?_
    refine g_iconst (v := 1) cx dX4_isTrayTold_20 (by decide) ?_
    exact g_zret cx gr rfl (Nat.zero_le _) (Nat.zero_le _) dX4_isTrayTold_21 (tleaf (by rw [trT, if_neg c_1]))
  · refine g_iconst (v := 0) cx dX4_isTrayTold_10 (by decide) ?_
    exact g_zret cx gr rfl (Nat.zero_le _) (Nat.zero_le _) dX4_isTrayTold_11 (tleaf (by rw [trT, if_pos c_1]))

abbrev rmX4_isCrackTold : Room := { frames := 3, cells := 0, slots := 0, locals := 68 }
theorem hYX4_isCrackTold : gY yX4_isCrackTold wsX4_isCrackTold cX4_isCrackTold 2 (some .boolean) 1 := ⟨⟨_, rfl⟩, by decide +kernel, by decide +kernel, by decide +kernel⟩
theorem iwX4_isCrackTold_X4 : ∀ w ∈ u_ws RX4 TX4 5, w ∈ wsX4_isCrackTold := by decide +kernel
theorem lkX4_isCrackTold_25 : Cond.fieldLink RX4 25 "MuffinBells$TerraceText" "number" "I" ∈ wsX4_isCrackTold := by decide +kernel
theorem iwX4_isCrackTold_X3 : ∀ w ∈ u_ws RX3 TX3 11, w ∈ wsX4_isCrackTold := by decide +kernel
theorem lkX4_isCrackTold_93 : Cond.fieldLink RX4 93 "MuffinBells$Terrace" "crack" "I" ∈ wsX4_isCrackTold := by decide +kernel
set_option maxRecDepth 100000 in
set_option maxHeartbeats 4000000 in
theorem c_X4_isCrackTold (l : Launch) (E : gE) (a : Nat → Nat) (b : Nat → Int32) (T : Nat) (P : Nat) (nu : Int32) (t : Ter) (hT : T ≤ 120) (hP : P ≤ T) : cti l yX4_isCrackTold wsX4_isCrackTold rmX4_isCrackTold E [.ref (a 0), .ref (a 3)] (xtW E a (b, nI T, srt b T P, nI P, nI (tkE b T P), nu) t) (fun r w => r = (ckT b T P nu t).1 ∧ w = lxW E a b T (ckT b T P nu t).2.1 (ckT b T P nu t).2.2.1 (ckT b T P nu t).2.2.2) := by
  refine mt_i (cc := cX4_isCrackTold) (maxL := 2) (ret := some .boolean) (lv0 := [(0, .ref (a 0)), (1, .ref (a 3))]) (by decide) rfl rfl (Nat.le_of_ble_eq_true rfl) (fun X cx gr hI => ?_)
  refine g_aload_n cx dX4_isCrackTold_0 0 rfl ?_
  refine g_bipush (v := 99) cx dX4_isCrackTold_1 (by decide) ?_
  refine g_VSi (rest := []) (As := [.int 99]) cx hYX4_isNumberNext gX4_isCrackTold_X4_isNumberNext (c_X4_isNumberNext l E a b T P nu t 99 hT hP) rfl rfl rfl ⟨Nat.le_of_ble_eq_true rfl, Nat.le_of_ble_eq_true rfl⟩ rfl rfl (Nat.le_of_ble_eq_true rfl) ⟨Nat.le_of_ble_eq_true rfl, Nat.le_of_ble_eq_true rfl⟩ dX4_isCrackTold_3 (fun r w1 hp => ?_)
  obtain ⟨hr, rfl⟩ := hp
  rw [hr]
  refine g_if_ne (tgt := 11) cx dX4_isCrackTold_6 (by decide) (fun c_1 => ?_) (fun c_1 => ?_)
  · refine g_aload_n cx dX4_isCrackTold_11 1 rfl ?_
    refine g_aload_n cx dX4_isCrackTold_12 0 rfl ?_
    refine g_get (C := RX4) (T := TX4) (N := 5) (v := .int ((nmN b T P 99 nu).2.2)) cx iwX4_isCrackTold_X4 0 4 rfl rfl (by decide) lkX4_isCrackTold_25 rfl dX4_isCrackTold_13 ?_
    refine g_put (C := RX3) (T := TX3) (N := 11) (ws' := (xtW E a (b, nI T, srt b T ((nmN b T P 99 nu).2.1), nI ((nmN b T P 99 nu).2.1), nI (tkE b T ((nmN b T P 99 nu).2.1)), (nmN b T P 99 nu).2.2) (t.1, t.2.1, t.2.2.1, t.2.2.2.1, t.2.2.2.2.1, (nmN b T P 99 nu).2.2, t.2.2.2.2.2.2.1, t.2.2.2.2.2.2.2.1, t.2.2.2.2.2.2.2.2.1, t.2.2.2.2.2.2.2.2.2.1, t.2.2.2.2.2.2.2.2.2.2))) cx iwX4_isCrackTold_X3 tyX3 tyX3_ok nmX3 3 5 rfl rfl (by decide) lkX4_isCrackTold_93 rfl rfl rfl (Nat.le_of_ble_eq_true rfl) dX4_isCrackTold_16 rfl ?_
    refine g_iconst (v := 1) cx dX4_isCrackTold_19 (by decide) ?_
    exact g_zret cx gr rfl (Nat.zero_le _) (Nat.zero_le _) dX4_isCrackTold_20 (tleaf (by rw [ckT, if_neg c_1]))
  · refine g_iconst (v := 0) cx dX4_isCrackTold_9 (by decide) ?_
    exact g_zret cx gr rfl (Nat.zero_le _) (Nat.zero_le _) dX4_isCrackTold_10 (tleaf (by rw [ckT, if_pos c_1]))

theorem ck_1 {b : Nat → Int32} {T P : Nat} {nu : Int32} {t : Ter} (h : ¬ (ckT b T P nu t).1 = 0) : (ckT b T P nu t).1 = 1 := by
  unfold ckT at h ⊢
  by_cases q : (nmN b T P 99 nu).1 = 0
  · rw [if_pos q] at h; exact absurd rfl h
  · rw [if_neg q]
theorem it_eta {N M : Int32 × Nat × Int32 × Ter} (h : N = M) {r : Int32} (hr : M.1 = r) : N = (r, M.2.1, M.2.2.1, M.2.2.2) := by
  rw [h, ← hr]

theorem b_or {r : Int32} (h : r = 0 ∨ r = 1) : narrow .boolean (.int r) = .int r := by
  rcases h with rfl | rfl <;> rfl

theorem pcT_b (b : Nat → Int32) (T P : Nat) (nu : Int32) (t : Ter) {h : Int32} : (pcT b T P nu t h).1 = 0 ∨ (pcT b T P nu t h).1 = 1 := by
  unfold pcT
  repeat (first | exact Or.inl rfl | exact Or.inr rfl | split)
theorem mdT_b (b : Nat → Int32) (T P : Nat) (nu : Int32) (t : Ter) {h : Int32} : (mdT b T P nu t h).1 = 0 ∨ (mdT b T P nu t h).1 = 1 := by
  unfold mdT
  repeat (first | exact Or.inl rfl | exact Or.inr rfl | exact pcT_b _ _ _ _ _ | split)
theorem hsT_b (b : Nat → Int32) (T P : Nat) (nu : Int32) (t : Ter) {k : Int32} : (hsT b T P nu t k).1 = 0 ∨ (hsT b T P nu t k).1 = 1 := by
  unfold hsT
  repeat (first | exact Or.inl rfl | exact Or.inr rfl | exact mdT_b _ _ _ _ _ | split)
theorem mnT_b (b : Nat → Int32) (T P : Nat) (nu : Int32) (t : Ter) : (mnT b T P nu t).1 = 0 ∨ (mnT b T P nu t).1 = 1 := by
  unfold mnT
  repeat (first | exact Or.inl rfl | exact Or.inr rfl | split)
theorem trT_b (b : Nat → Int32) (T P : Nat) (nu : Int32) (t : Ter) : (trT b T P nu t).1 = 0 ∨ (trT b T P nu t).1 = 1 := by
  unfold trT
  repeat (first | exact Or.inl rfl | exact Or.inr rfl | split)
