def nuR (b : Nat → Int32) : Nat → Nat → Int32 → Int32
  | 0, _, y => y
  | n + 1, i, y => if y ≤ 999 then nuR b n (i + 1) (10 * y + b i - 48) else nuR b n (i + 1) y
theorem dg_e {b : Nat → Int32} {i j : Nat} (hj : j ≤ 9999) (hb : ¬ b i < 48 ∧ ¬ 57 < b i) : ∃ u, u ≤ 9 ∧ 10 * nI j + b i - 48 = nI (10 * j + u) := by
  obtain ⟨h1, h2⟩ := hb
  have h0 : ¬ b i < 0 := by
    rw [fc_lt, show (48 : Int32).toInt = 48 from rfl] at h1
    rw [fc_lt, show (0 : Int32).toInt = 0 from rfl]
    omega
  obtain ⟨u, hu, e⟩ := nI_w 57 h0 h2 (by decide)
  have h48 : 48 ≤ u := by
    rw [e, show (48 : Int32) = nI 48 from rfl, nI_ltI (by omega) (by decide)] at h1
    omega
  refine ⟨u - 48, by omega, ?_⟩
  rw [e, show (10 : Int32) = nI 10 from rfl, show (48 : Int32) = nI 48 from rfl, pk_mul, nI_add, pk_sub (by omega)]
  congr 1
  omega
theorem nuR_big {b : Nat → Int32} {M : Nat} : ∀ n i j, M < j → j ≤ 9999 → (∀ k, i ≤ k → k < i + n → ¬ b k < 48 ∧ ¬ 57 < b k) → ∃ j', M < j' ∧ j' ≤ 9999 ∧ nuR b n i (nI j) = nI j'
  | 0, i, j, hj, hj2, hb => ⟨j, hj, hj2, rfl⟩
  | n + 1, i, j, hj, hj2, hb => by
    rw [nuR]
    by_cases q : nI j ≤ 999
    · rw [if_pos q]
      have q2 : j ≤ 999 := (nI_leI (a := j) (b := 999) (by omega) (by decide)).mp q
      obtain ⟨u, hu, e⟩ := dg_e hj2 (hb i (Nat.le_refl i) (by omega))
      rw [e]
      exact nuR_big n (i + 1) _ (by omega) (by omega) (fun k h1 h2 => hb k (by omega) (by omega))
    · rw [if_neg q]
      exact nuR_big n (i + 1) j hj hj2 (fun k h1 h2 => hb k (by omega) (by omega))
theorem nuR_ok {b : Nat → Int32} {M : Nat} (hM : M ≤ 999) : ∀ n i j, j ≤ M → (∀ k, i ≤ k → k < i + n → ¬ b k < 48 ∧ ¬ 57 < b k) → ((numL b (nI M) n i (nI j)).1 = 1 ∧ (∃ j', j' ≤ M ∧ nuR b n i (nI j) = nI j') ∧ nuR b n i (nI j) = (numL b (nI M) n i (nI j)).2) ∨ (¬ (numL b (nI M) n i (nI j)).1 = 1 ∧ ∃ j', M < j' ∧ j' ≤ 9999 ∧ nuR b n i (nI j) = nI j')
  | 0, i, j, hj, hb => Or.inl ⟨rfl, ⟨j, hj, rfl⟩, rfl⟩
  | n + 1, i, j, hj, hb => by
    have q : nI j ≤ 999 := (nI_leI (a := j) (b := 999) (by omega) (by decide)).mpr (by omega)
    obtain ⟨u, hu, e⟩ := dg_e (j := j) (by omega) (hb i (Nat.le_refl i) (by omega))
    rw [nuR, if_pos q, numL, e]
    by_cases h3 : nI (10 * j + u) ≤ nI M
    · rw [if_pos h3]
      exact nuR_ok hM n (i + 1) _ ((nI_leI (by omega) (by omega)).mp h3) (fun k h1 h2 => hb k (by omega) (by omega))
    · rw [if_neg h3]
      refine Or.inr ⟨show ¬ (0 : Int32) = 1 by decide, ?_⟩
      refine nuR_big n (i + 1) _ ?_ (by omega) (fun k h1 h2 => hb k (by omega) (by omega))
      have : ¬ 10 * j + u ≤ M := fun w => h3 ((nI_leI (by omega) (by omega)).mpr w)
      omega
theorem srt_dg {b : Nat → Int32} {T P : Nat} (h : ¬ isW (btA b T P) 48 57 = 0) : srt b T P = 2 := by
  obtain ⟨q, r⟩ := bt_W (by decide) h
  have r2 : isW (b P) 97 122 = 0 := by
    by_cases w : isW (b P) 97 122 = 0
    · exact w
    · have := LD (b := b) (T := T) (p := P) (by rw [bt_in q]; exact w)
      rw [bt_in q] at this
      exact absurd this r
  rw [srt, if_neg q, if_pos r2, if_neg r]
theorem srt_nd {b : Nat → Int32} {T P : Nat} (h : isW (btA b T P) 48 57 = 0) : ¬ srt b T P = 2 := by
  unfold srt
  by_cases q : T ≤ P
  · rw [if_pos q]; decide
  · rw [if_neg q]
    rw [bt_in q] at h
    by_cases r : isW (b P) 97 122 = 0
    · rw [if_pos r, if_pos h]
      by_cases r2 : b P = 59
      · rw [if_pos r2]; decide
      · rw [if_neg r2]; decide
    · rw [if_neg r]; decide
theorem dg_all {b : Nat → Int32} {T P : Nat} (h : srt b T P = 2) : ∀ k, P ≤ k → k < P + (tkE b T P - P) → ¬ b k < 48 ∧ ¬ 57 < b k := by
  intro k h1 h2
  have hs := srt_2 h
  have h3 := tkE_ge (b := b) (T := T) (p := P)
  exact skp_in _ _ k h1 (by
    show k < skA b 48 57 T P
    rw [← hs]
    omega)
theorem nu_k {b : Nat → Int32} {T P M : Nat} {nu : Int32} (hM : M ≤ 999) (hd : ¬ isW (btA b T (nxP b T P)) 48 57 = 0) (h : ¬ isW (nuR b (tkE b T (nxP b T P) - nxP b T P) (nxP b T P) 0) 0 (nI M) = 0) : nmN b T P (nI M) nu = (1, nxP b T (nxP b T P), nuR b (tkE b T (nxP b T P) - nxP b T P) (nxP b T P) 0) := by
  have h2 := srt_dg hd
  rcases nuR_ok hM _ _ 0 (Nat.zero_le M) (dg_all h2) with ⟨h3, _, h4⟩ | ⟨_, j, hj, hj2, h4⟩
  · rw [nmN, if_pos h2]
    rw [show nI 0 = 0 from rfl] at h3 h4
    rw [if_pos h3, h4]
  · rw [show nI 0 = 0 from rfl] at h4
    rw [h4] at h
    exact absurd (isW_ne0 h).2 (fun w => w ((nI_ltI (by omega) (by omega)).mpr hj))
theorem nu_z {b : Nat → Int32} {T P M : Nat} {nu : Int32} (hM : M ≤ 999) (hd : ¬ isW (btA b T (nxP b T P)) 48 57 = 0) (h : isW (nuR b (tkE b T (nxP b T P) - nxP b T P) (nxP b T P) 0) 0 (nI M) = 0) : (nmN b T P (nI M) nu).1 = 0 ∧ (nmN b T P (nI M) nu).2.1 = nxP b T P := by
  have h2 := srt_dg hd
  rcases nuR_ok hM _ _ 0 (Nat.zero_le M) (dg_all h2) with ⟨_, ⟨j, hj, h4⟩, _⟩ | ⟨h3, _⟩
  · rw [show nI 0 = 0 from rfl] at h4
    rw [h4] at h
    have := isW_one (v := nI j) (a := 0) (b := nI M) (nI_pos (by omega)) (fun w => by have := (nI_ltI (by omega) (by omega)).mp w; omega)
    rw [this] at h
    exact absurd h (by decide)
  · rw [show nI 0 = 0 from rfl] at h3
    rw [nmN, if_pos h2, if_neg h3]
    exact ⟨rfl, rfl⟩
theorem nu_n {b : Nat → Int32} {T P M : Nat} {nu : Int32} (hd : isW (btA b T (nxP b T P)) 48 57 = 0) : (nmN b T P (nI M) nu).1 = 0 ∧ (nmN b T P (nI M) nu).2.1 = nxP b T P := by
  rw [nmN, if_neg (srt_nd hd)]
  exact ⟨rfl, rfl⟩

theorem nu_l {E : gE} {a : Nat → Nat} {c : Cor} {h : Mar} {b : Nat → Int32} {T P M : Nat} {t : Ter} {nu y : Int32} (e : (nmN b T P (nI M) nu).1 = 0 ∧ (nmN b T P (nI M) nu).2.1 = nxP b T P) : (nmN b T P (nI M) nu).1 = 0 ∧ ∃ v', (mW E a (t, c.2.1, c.2.2.1, b, nI T, c.2.2.2.2.2.1, c.2.2.2.2.2.2.1, c.2.2.2.2.2.2.2.1, c.2.2.2.2.2.2.2.2) (h.1, h.2.1, nI (nxP b T P), nI (tkE b T (nxP b T P)), y, 1, h.2.2.2.2.2.2)) = (mW E a (t, c.2.1, c.2.2.1, b, nI T, c.2.2.2.2.2.1, c.2.2.2.2.2.2.1, c.2.2.2.2.2.2.2.1, c.2.2.2.2.2.2.2.2) (h.1, h.2.1, nI ((nmN b T P (nI M) nu).2.1), nI (tkE b T ((nmN b T P (nI M) nu).2.1)), v', 1, h.2.2.2.2.2.2)) := by
  refine ⟨e.1, y, ?_⟩
  rw [e.2]
theorem nu_r {E : gE} {a : Nat → Nat} {c : Cor} {h : Mar} {b : Nat → Int32} {T P M : Nat} {t : Ter} {nu y z : Int32} (e : (nmN b T P (nI M) nu) = (1, nxP b T (nxP b T P), z)) (hz : z = y) : ¬ (nmN b T P (nI M) nu).1 = 0 ∧ (mW E a (t, c.2.1, c.2.2.1, b, nI T, c.2.2.2.2.2.1, c.2.2.2.2.2.2.1, c.2.2.2.2.2.2.2.1, c.2.2.2.2.2.2.2.2) (h.1, h.2.1, nI (nxP b T (nxP b T P)), nI (tkE b T (nxP b T (nxP b T P))), y, 0, h.2.2.2.2.2.2)) = (mW E a (t, c.2.1, c.2.2.1, b, nI T, c.2.2.2.2.2.1, c.2.2.2.2.2.2.1, c.2.2.2.2.2.2.2.1, c.2.2.2.2.2.2.2.2) (h.1, h.2.1, nI ((nmN b T P (nI M) nu).2.1), nI (tkE b T ((nmN b T P (nI M) nu).2.1)), (nmN b T P (nI M) nu).2.2, 0, h.2.2.2.2.2.2)) := by
  rw [e, hz]
  exact ⟨show ¬ (1 : Int32) = 0 by decide, rfl⟩

abbrev rmX6_number : Room := { frames := 4, cells := 0, slots := 0, locals := 88 }
theorem hYX6_number : gY yX6_number wsX6_number cX6_number 6 (none) 2 := ⟨⟨_, rfl⟩, by decide +kernel, by decide +kernel, by decide +kernel⟩
theorem iwX6_number_X6 : ∀ w ∈ u_ws RX6 TX6 16, w ∈ wsX6_number := by decide +kernel
theorem lkX6_number_201 : Cond.fieldLink RX6 201 "MuffinBellsModel" "isWrong" "Z" ∈ wsX6_number := by decide +kernel
theorem lkX6_number_189 : Cond.fieldLink RX6 189 "MuffinBellsModel" "from" "I" ∈ wsX6_number := by decide +kernel
theorem lkX6_number_186 : Cond.fieldLink RX6 186 "MuffinBellsModel" "to" "I" ∈ wsX6_number := by decide +kernel
theorem lkX6_number_212 : Cond.fieldLink RX6 212 "MuffinBellsModel" "value" "I" ∈ wsX6_number := by decide +kernel
theorem lkX6_number_25 : Cond.fieldLink RX6 25 "MuffinBellsModel" "tape" "[I" ∈ wsX6_number := by decide +kernel
set_option maxRecDepth 100000 in
set_option maxHeartbeats 4000000 in
theorem c_X6_number (l : Launch) (E : gE) (a : Nat → Nat) (c : Cor) (h : Mar) (b : Nat → Int32) (T : Nat) (t : Ter) (P : Nat) (v : Int32) (nu : Int32) (M : Nat) (hT : T ≤ 120) (hP : P ≤ T) (hM : M ≤ 999) : ctv l yX6_number wsX6_number rmX6_number E [.ref (a 0), .int 0, .int (nI M)] (mW E a (t, c.2.1, c.2.2.1, b, nI T, c.2.2.2.2.2.1, c.2.2.2.2.2.2.1, c.2.2.2.2.2.2.2.1, c.2.2.2.2.2.2.2.2) (h.1, h.2.1, nI (nxP b T P), nI (tkE b T (nxP b T P)), v, 0, h.2.2.2.2.2.2)) (fun w => ((nmN b T P (nI M) nu).1 = 0 ∧ ∃ v', w = (mW E a (t, c.2.1, c.2.2.1, b, nI T, c.2.2.2.2.2.1, c.2.2.2.2.2.2.1, c.2.2.2.2.2.2.2.1, c.2.2.2.2.2.2.2.2) (h.1, h.2.1, nI ((nmN b T P (nI M) nu).2.1), nI (tkE b T ((nmN b T P (nI M) nu).2.1)), v', 1, h.2.2.2.2.2.2))) ∨ (¬ (nmN b T P (nI M) nu).1 = 0 ∧ w = (mW E a (t, c.2.1, c.2.2.1, b, nI T, c.2.2.2.2.2.1, c.2.2.2.2.2.2.1, c.2.2.2.2.2.2.2.1, c.2.2.2.2.2.2.2.2) (h.1, h.2.1, nI ((nmN b T P (nI M) nu).2.1), nI (tkE b T ((nmN b T P (nI M) nu).2.1)), (nmN b T P (nI M) nu).2.2, 0, h.2.2.2.2.2.2)))) := by
  refine mt_v (cc := cX6_number) (maxL := 6) (ret := none) (lv0 := [(0, .ref (a 0)), (1, .int 0), (2, .int (nI M))]) (by decide) rfl rfl (Nat.le_of_ble_eq_true rfl) (fun X cx gr hI => ?_)
  have hP1 : nxP b T P ≤ T := nxP_le hP
  have hE1 : tkE b T (nxP b T P) ≤ T := tkE_le hP1
  have hE2 : nxP b T P ≤ tkE b T (nxP b T P) := tkE_ge
  refine g_aload_n cx dX6_number_0 0 rfl ?_
  refine g_get (C := RX6) (T := TX6) (N := 16) (v := .int 0) cx iwX6_number_X6 0 11 rfl rfl (by decide) lkX6_number_201 rfl dX6_number_1 ?_
  refine g_if_eq (tgt := 8) cx dX6_number_4 (by decide) (fun c_1 => ?_) (fun c_1 => absurd (rfl) c_1)
  refine g_aload_n cx dX6_number_8 0 rfl ?_
  refine g_aload_n cx dX6_number_9 0 rfl ?_
  refine g_get (C := RX6) (T := TX6) (N := 16) (v := .int (nI (nxP b T P))) cx iwX6_number_X6 0 8 rfl rfl (by decide) lkX6_number_189 rfl dX6_number_10 ?_
  refine g_VSi (rest := []) (As := [.int (nI (nxP b T P))]) cx hYX6_byteAt gX6_number_X6_byteAt (c_X6_byteAt l E a (t, c.2.1, c.2.2.1, b, nI T, c.2.2.2.2.2.1, c.2.2.2.2.2.2.1, c.2.2.2.2.2.2.2.1, c.2.2.2.2.2.2.2.2) (h.1, h.2.1, nI (nxP b T P), nI (tkE b T (nxP b T P)), v, 0, h.2.2.2.2.2.2) b T (nxP b T P) hT hP1) rfl rfl rfl ⟨Nat.le_of_ble_eq_true rfl, Nat.le_of_ble_eq_true rfl⟩ rfl rfl (Nat.le_of_ble_eq_true rfl) ⟨Nat.le_of_ble_eq_true rfl, Nat.le_of_ble_eq_true rfl⟩ dX6_number_13 (fun r w1 hp => ?_)
  obtain ⟨rfl, rfl⟩ := hp
  refine g_SPi (rest := []) (As := [.int (btA b T (nxP b T P))]) cx hYX6_isDigit gX6_number_X6_isDigit (c_X6_isDigit l E (btA b T (nxP b T P)) ) ⟨Nat.le_of_ble_eq_true rfl, Nat.le_of_ble_eq_true rfl⟩ rfl rfl (Nat.le_of_ble_eq_true rfl) ⟨Nat.le_of_ble_eq_true rfl, Nat.le_of_ble_eq_true rfl⟩ dX6_number_16 ?_
  refine g_istore_n (lv' := [(3, .int (isW (btA b T (nxP b T P)) 48 57)), (0, .ref (a 0)), (1, .int 0), (2, .int (nI M))]) cx dX6_number_19 (by decide) rfl ?_
  refine g_iconst (v := 0) cx dX6_number_20 (by decide) ?_
  refine g_istore (lv' := [(4, .int 0), (3, .int (isW (btA b T (nxP b T P)) 48 57)), (0, .ref (a 0)), (1, .int 0), (2, .int (nI M))]) cx dX6_number_21 (by decide) rfl ?_
  refine g_aload_n cx dX6_number_23 2 rfl ?_
  refine g_get (C := RX6) (T := TX6) (N := 16) (v := .int (nI (nxP b T P))) cx iwX6_number_X6 0 8 rfl rfl (by decide) lkX6_number_189 rfl dX6_number_24 ?_
  refine g_istore (lv' := [(5, .int (nI (nxP b T P))), (4, .int 0), (3, .int (isW (btA b T (nxP b T P)) 48 57)), (0, .ref (a 0)), (1, .int 0), (2, .int (nI M))]) cx dX6_number_27 (by decide) rfl ?_
  have LP29 : ∀ (d : Nat) (i : Nat) (x : Int32) (y : Int32), i + d = (tkE b T (nxP b T P)) + 1 → i ≤ (tkE b T (nxP b T P)) → (nxP b T P) ≤ i → x = nI i → nuR b ((tkE b T (nxP b T P)) - (nxP b T P)) (nxP b T P) 0 = nuR b ((tkE b T (nxP b T P)) - i) i y → gG X 0 0 (mW E a (t, c.2.1, c.2.2.1, b, nI T, c.2.2.2.2.2.1, c.2.2.2.2.2.2.1, c.2.2.2.2.2.2.2.1, c.2.2.2.2.2.2.2.2) (h.1, h.2.1, nI (nxP b T P), nI (tkE b T (nxP b T P)), v, 0, h.2.2.2.2.2.2)) 29 [(0, .ref (a 0)), (1, .int 0), (2, .int (nI M)), (3, .int (isW (btA b T (nxP b T P)) 48 57)), (4, .int y), (5, .int x)] [] := by
    intro d
    induction d with
    | zero =>
      intro i x y hi9 hie hip hx hs
      omega
    | succ d ih =>
      intro i x y hi9 hie hip hx hs
      refine g_iload cx dX6_number_29 5 rfl ?_
      refine g_aload_n cx dX6_number_31 0 rfl ?_
      refine g_get (C := RX6) (T := TX6) (N := 16) (v := .int (nI (tkE b T (nxP b T P)))) cx iwX6_number_X6 0 9 rfl rfl (by decide) lkX6_number_186 rfl dX6_number_32 ?_
      refine g_icmp_ge (tgt := 79) cx dX6_number_35 (by decide) (fun c_2 => ?_) (fun c_2 => ?_)
      · have hy : nuR b ((tkE b T (nxP b T P)) - (nxP b T P)) (nxP b T P) 0 = y := by rw [hs, show (tkE b T (nxP b T P)) - i = 0 by have := ge_of (tkE b T (nxP b T P)) hx c_2 (by omega) (by omega); omega]; rfl
        refine g_aload_n cx dX6_number_79 0 rfl ?_
        refine g_iload cx dX6_number_80 4 rfl ?_
        refine g_put (C := RX6) (T := TX6) (N := 16) (ws' := (mW E a (t, c.2.1, c.2.2.1, b, nI T, c.2.2.2.2.2.1, c.2.2.2.2.2.2.1, c.2.2.2.2.2.2.2.1, c.2.2.2.2.2.2.2.2) (h.1, h.2.1, nI (nxP b T P), nI (tkE b T (nxP b T P)), y, 0, h.2.2.2.2.2.2))) cx iwX6_number_X6 tyX6 tyX6_ok nmX6 0 10 rfl rfl (by decide) lkX6_number_212 rfl rfl rfl (Nat.le_of_ble_eq_true rfl) dX6_number_82 rfl ?_
        refine g_aload_n cx dX6_number_85 0 rfl ?_
        refine g_iload_n cx dX6_number_86 3 rfl ?_
        refine g_if_eq (tgt := 107) cx dX6_number_87 (by decide) (fun c_3 => ?_) (fun c_3 => ?_)
        · refine g_iconst (v := 0) cx dX6_number_107 (by decide) ?_
          refine g_VSv (rest := []) (As := [.int 0]) cx hYX6_must gX6_number_X6_must (c_X6_must_0 l E a c h b T t (nxP b T P) y hT hP1) rfl rfl rfl ⟨Nat.le_of_ble_eq_true rfl, Nat.le_of_ble_eq_true rfl⟩ rfl rfl (Nat.le_of_ble_eq_true rfl) ⟨Nat.le_of_ble_eq_true rfl, Nat.le_of_ble_eq_true rfl⟩ dX6_number_108 (fun w1 hp => ?_)
          obtain rfl := hp
          exact g_vret cx gr (Nat.zero_le _) (Nat.zero_le _) dX6_number_111 (Or.inl (nu_l (nu_n c_3)))
        · refine g_iload cx dX6_number_90 4 rfl ?_
          refine g_i2l cx dX6_number_92 ?_
          refine g_iload_n cx dX6_number_93 1 rfl ?_
          refine g_i2l cx dX6_number_94 ?_
          refine g_iload_n cx dX6_number_95 2 rfl ?_
          refine g_i2l cx dX6_number_96 ?_
          refine g_SPi (rest := [.ref (a 0)]) (As := [.long y.toInt64, .long ((0 : Int32).toInt64), .long ((nI M).toInt64)]) cx hYX6_in gX6_number_X6_in (c_X6_inW l E y (0 : Int32) (nI M) ((0 : Int32).toInt64) ((nI M).toInt64) rfl rfl) ⟨Nat.le_of_ble_eq_true rfl, Nat.le_of_ble_eq_true rfl⟩ rfl rfl (Nat.le_of_ble_eq_true rfl) ⟨Nat.le_of_ble_eq_true rfl, Nat.le_of_ble_eq_true rfl⟩ dX6_number_97 ?_
          refine g_if_eq (tgt := 107) cx dX6_number_100 (by decide) (fun c_4 => ?_) (fun c_4 => ?_)
          · refine g_iconst (v := 0) cx dX6_number_107 (by decide) ?_
            refine g_VSv (rest := []) (As := [.int 0]) cx hYX6_must gX6_number_X6_must (c_X6_must_0 l E a c h b T t (nxP b T P) y hT hP1) rfl rfl rfl ⟨Nat.le_of_ble_eq_true rfl, Nat.le_of_ble_eq_true rfl⟩ rfl rfl (Nat.le_of_ble_eq_true rfl) ⟨Nat.le_of_ble_eq_true rfl, Nat.le_of_ble_eq_true rfl⟩ dX6_number_108 (fun w1 hp => ?_)
            obtain rfl := hp
            exact g_vret cx gr (Nat.zero_le _) (Nat.zero_le _) dX6_number_111 (Or.inl (nu_l (nu_z hM c_3 (by rw [hy]; exact c_4))))
          · refine g_iconst (v := 1) cx dX6_number_103 (by decide) ?_
            refine g_goto (tgt := 108) cx dX6_number_104 (by decide) ?_
            refine g_VSv (rest := []) (As := [.int 1]) cx hYX6_must gX6_number_X6_must (c_X6_must_1 l E a c h b T t (nxP b T P) y hT hP1) rfl rfl rfl ⟨Nat.le_of_ble_eq_true rfl, Nat.le_of_ble_eq_true rfl⟩ rfl rfl (Nat.le_of_ble_eq_true rfl) ⟨Nat.le_of_ble_eq_true rfl, Nat.le_of_ble_eq_true rfl⟩ dX6_number_108 (fun w1 hp => ?_)
            obtain rfl := hp
            exact g_vret cx gr (Nat.zero_le _) (Nat.zero_le _) dX6_number_111 (Or.inr (nu_r (nu_k hM c_3 (by rw [hy]; exact c_4)) hy))
      · refine g_iload_n cx dX6_number_38 3 rfl ?_
        refine g_if_eq (tgt := 79) cx dX6_number_39 (by decide) (fun c_5 => ?_) (fun c_5 => ?_)
        · refine g_aload_n cx dX6_number_79 0 rfl ?_
          refine g_iload cx dX6_number_80 4 rfl ?_
          refine g_put (C := RX6) (T := TX6) (N := 16) (ws' := (mW E a (t, c.2.1, c.2.2.1, b, nI T, c.2.2.2.2.2.1, c.2.2.2.2.2.2.1, c.2.2.2.2.2.2.2.1, c.2.2.2.2.2.2.2.2) (h.1, h.2.1, nI (nxP b T P), nI (tkE b T (nxP b T P)), y, 0, h.2.2.2.2.2.2))) cx iwX6_number_X6 tyX6 tyX6_ok nmX6 0 10 rfl rfl (by decide) lkX6_number_212 rfl rfl rfl (Nat.le_of_ble_eq_true rfl) dX6_number_82 rfl ?_
          refine g_aload_n cx dX6_number_85 0 rfl ?_
          refine g_iload_n cx dX6_number_86 3 rfl ?_
          refine g_if_eq (tgt := 107) cx dX6_number_87 (by decide) (fun c_6 => ?_) (fun c_6 => absurd (c_5) c_6)
          refine g_iconst (v := 0) cx dX6_number_107 (by decide) ?_
          refine g_VSv (rest := []) (As := [.int 0]) cx hYX6_must gX6_number_X6_must (c_X6_must_0 l E a c h b T t (nxP b T P) y hT hP1) rfl rfl rfl ⟨Nat.le_of_ble_eq_true rfl, Nat.le_of_ble_eq_true rfl⟩ rfl rfl (Nat.le_of_ble_eq_true rfl) ⟨Nat.le_of_ble_eq_true rfl, Nat.le_of_ble_eq_true rfl⟩ dX6_number_108 (fun w1 hp => ?_)
          obtain rfl := hp
          exact g_vret cx gr (Nat.zero_le _) (Nat.zero_le _) dX6_number_111 (Or.inl (nu_l (nu_n c_5)))
        · refine g_iload cx dX6_number_42 4 rfl ?_
          refine g_sipush (v := 999) cx dX6_number_44 (by decide) ?_
          refine g_icmp_le (tgt := 55) cx dX6_number_47 (by decide) (fun c_7 => ?_) (fun c_7 => ?_)
          · refine g_bipush (v := 10) cx dX6_number_55 (by decide) ?_
            refine g_iload cx dX6_number_57 4 rfl ?_
            refine g_imul cx dX6_number_59 ?_
            refine g_aload_n cx dX6_number_60 0 rfl ?_
            refine g_get (C := RX6) (T := TX6) (N := 16) (v := .ref (a 6)) cx iwX6_number_X6 0 6 rfl rfl (by decide) lkX6_number_25 rfl dX6_number_61 ?_
            refine g_iload cx dX6_number_64 5 rfl ?_
            refine g_iald cx 6 rfl rfl (vp_of_nI hx (by have := lt_of (tkE b T (nxP b T P)) hx c_2 (by omega) (by omega); omega) (by decide)) dX6_number_66 ?_
            refine g_iadd cx dX6_number_67 ?_
            refine g_bipush (v := 48) cx dX6_number_68 (by decide) ?_
            refine g_isub cx dX6_number_70 ?_
            refine g_istore (lv' := [(4, .int (((10 * y) + (b (x.toNatClampNeg))) - 48)), (0, .ref (a 0)), (1, .int 0), (2, .int (nI M)), (3, .int (isW (btA b T (nxP b T P)) 48 57)), (5, .int x)]) cx dX6_number_71 (by decide) rfl ?_
            refine g_iinc (v := x + 1) (lv' := [(5, .int (x + 1)), (4, .int (((10 * y) + (b (x.toNatClampNeg))) - 48)), (0, .ref (a 0)), (1, .int 0), (2, .int (nI M)), (3, .int (isW (btA b T (nxP b T P)) 48 57))]) cx dX6_number_73 5 rfl rfl (by decide) rfl ?_
            refine g_goto (tgt := 29) cx dX6_number_76 (by decide) ?_
            exact g_lv [2, 3, 4, 5, 1, 0] rfl (ih (i + 1) (x + 1) _ (by omega) (by have := (lt_of (tkE b T (nxP b T P)) hx c_2 (by omega) (by omega)); omega) (by omega) (by rw [hx]; exact nI_1 i) (by rw [hs, show (tkE b T (nxP b T P)) - i = ((tkE b T (nxP b T P)) - (i + 1)) + 1 by have := (lt_of (tkE b T (nxP b T P)) hx c_2 (by omega) (by omega)); omega, nuR, if_pos c_7, hx, nI_clamp (by omega)]))
          · refine g_iload cx dX6_number_50 4 rfl ?_
            refine g_goto (tgt := 71) cx dX6_number_52 (by decide) ?_
            refine g_istore (lv' := [(4, .int y), (0, .ref (a 0)), (1, .int 0), (2, .int (nI M)), (3, .int (isW (btA b T (nxP b T P)) 48 57)), (5, .int x)]) cx dX6_number_71 (by decide) rfl ?_
            refine g_iinc (v := x + 1) (lv' := [(5, .int (x + 1)), (4, .int y), (0, .ref (a 0)), (1, .int 0), (2, .int (nI M)), (3, .int (isW (btA b T (nxP b T P)) 48 57))]) cx dX6_number_73 5 rfl rfl (by decide) rfl ?_
            refine g_goto (tgt := 29) cx dX6_number_76 (by decide) ?_
            exact g_lv [2, 3, 4, 5, 1, 0] rfl (ih (i + 1) (x + 1) _ (by omega) (by have := (lt_of (tkE b T (nxP b T P)) hx c_2 (by omega) (by omega)); omega) (by omega) (by rw [hx]; exact nI_1 i) (by rw [hs, show (tkE b T (nxP b T P)) - i = ((tkE b T (nxP b T P)) - (i + 1)) + 1 by have := (lt_of (tkE b T (nxP b T P)) hx c_2 (by omega) (by omega)); omega, nuR, if_neg c_7]))
  exact g_lv [3, 4, 5, 2, 1, 0] rfl (LP29 ((tkE b T (nxP b T P)) + 1 - (nxP b T P)) (nxP b T P) _ 0 (by omega) hE2 (by omega) rfl rfl)

set_option maxRecDepth 100000 in
set_option maxHeartbeats 4000000 in
theorem c_X6_number_1 (l : Launch) (E : gE) (a : Nat → Nat) (c : Cor) (h : Mar) (b : Nat → Int32) (T : Nat) (t : Ter) (P : Nat) (v : Int32) (M0 : Int32) : ctv l yX6_number wsX6_number rmX6_number E [.ref (a 0), .int 0, .int M0] (mW E a (t, c.2.1, c.2.2.1, b, nI T, c.2.2.2.2.2.1, c.2.2.2.2.2.2.1, c.2.2.2.2.2.2.2.1, c.2.2.2.2.2.2.2.2) (h.1, h.2.1, nI P, nI (tkE b T P), v, 1, h.2.2.2.2.2.2)) (fun w => w = (mW E a (t, c.2.1, c.2.2.1, b, nI T, c.2.2.2.2.2.1, c.2.2.2.2.2.2.1, c.2.2.2.2.2.2.2.1, c.2.2.2.2.2.2.2.2) (h.1, h.2.1, nI P, nI (tkE b T P), v, 1, h.2.2.2.2.2.2))) := by
  refine mt_v (cc := cX6_number) (maxL := 6) (ret := none) (lv0 := [(0, .ref (a 0)), (1, .int 0), (2, .int M0)]) (by decide) rfl rfl (Nat.le_of_ble_eq_true rfl) (fun X cx gr hI => ?_)
  refine g_aload_n cx dX6_number_0 0 rfl ?_
  refine g_get (C := RX6) (T := TX6) (N := 16) (v := .int 1) cx iwX6_number_X6 0 11 rfl rfl (by decide) lkX6_number_201 rfl dX6_number_1 ?_
  refine g_if_eq (tgt := 8) cx dX6_number_4 (by decide) (fun c_1 => absurd c_1 (by decide)) (fun c_1 => ?_)
  exact g_vret cx gr (Nat.zero_le _) (Nat.zero_le _) dX6_number_7 (rfl)
