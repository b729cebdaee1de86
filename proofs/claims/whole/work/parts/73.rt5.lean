/-- the number of the first n letters -/
def hN (d : Nat → Nat) : Nat → Nat
  | 0 => 0
  | n + 1 => if hN d n ≤ 36028797018963967 then 32 * hN d n + d n else hN d n
theorem hN_le {d : Nat → Nat} (hd : ∀ k, d k ≤ 26) : ∀ n, hN d n ≤ 1152921504606846970
  | 0 => Nat.zero_le _
  | n + 1 => by
    have h1 := hN_le hd n
    have h2 := hd n
    rw [hN]
    by_cases q : hN d n ≤ 36028797018963967
    · rw [if_pos q]; omega
    · rw [if_neg q]; exact h1
theorem hN_le' {d : Nat → Nat} : ∀ {n}, (∀ k, k < n → d k ≤ 26) → hN d n ≤ 1152921504606846970
  | 0, _ => Nat.zero_le _
  | n + 1, hd => by
    have h1 := hN_le' (n := n) (fun k hk => hd k (by omega))
    have h2 := hd n (by omega)
    rw [hN]
    by_cases q : hN d n ≤ 36028797018963967
    · rw [if_pos q]; omega
    · rw [if_neg q]; exact h1
theorem hN_pos {d : Nat → Nat} {n : Nat} (hd : ∀ k, k < n + 1 → 1 ≤ d k) : 1 ≤ hN d (n + 1) := by
  have := hd n (by omega)
  rw [hN]
  by_cases q : hN d n ≤ 36028797018963967
  · rw [if_pos q]; omega
  · rw [if_neg q]; omega
/-- a short word is told by its number -/
theorem hN_inj {w : Nat → Nat} : ∀ (m n : Nat) (d : Nat → Nat), (∀ k, k < n → 1 ≤ d k ∧ d k ≤ 26) → (∀ k, k < m → 1 ≤ w k ∧ w k ≤ 26) → hN w m < 36028797018963967 → (hN d n = hN w m ↔ n = m ∧ ∀ k, k < m → d k = w k)
  | 0, 0, d, hd, hw, hm => ⟨fun _ => ⟨rfl, fun k hk => absurd hk (Nat.not_lt_zero k)⟩, fun _ => rfl⟩
  | 0, n + 1, d, hd, hw, hm => by
    have := hN_pos (d := d) (n := n) (fun k hk => (hd k hk).1)
    refine ⟨fun h => ?_, fun h => absurd h.1 (by omega)⟩
    rw [h] at this
    exact absurd this (Nat.not_succ_le_zero 0)
  | m + 1, 0, d, hd, hw, hm => by
    have := hN_pos (d := w) (n := m) (fun k hk => (hw k hk).1)
    refine ⟨fun h => ?_, fun h => absurd h.1 (by omega)⟩
    rw [← h] at this
    exact absurd this (Nat.not_succ_le_zero 0)
  | m + 1, n + 1, d, hd, hw, hm => by
    have hwm : hN w m ≤ 36028797018963967 := by
      by_cases q : hN w m ≤ 36028797018963967
      · exact q
      · rw [hN, if_neg q] at hm; omega
    rw [hN, if_pos hwm] at hm
    have ih := hN_inj m n d (fun k hk => hd k (by omega)) (fun k hk => hw k (by omega)) (by omega)
    have hdn := hd n (by omega)
    have hwn := hw m (by omega)
    rw [hN, hN, if_pos hwm]
    by_cases q : hN d n ≤ 36028797018963967
    · rw [if_pos q]
      constructor
      · intro h
        have h1 : hN d n = hN w m := by omega
        obtain ⟨e, e2⟩ := ih.mp h1
        refine ⟨by omega, fun k hk => ?_⟩
        by_cases hk2 : k = m
        · rw [hk2]
          rw [h1, e] at h
          omega
        · exact e2 k (by omega)
      · rintro ⟨h1, h2⟩
        have e : n = m := by omega
        have e1 := ih.mpr ⟨e, fun k hk => h2 k (by omega)⟩
        rw [e1, e, h2 m (by omega)]
    · rw [if_neg q]
      refine ⟨fun h => ?_, fun h => ?_⟩
      · omega
      · have e : n = m := by omega
        have e1 := ih.mpr ⟨e, fun k hk => h.2 k (by omega)⟩
        omega
abbrev nL9 (n : Nat) : Int64 := Int64.ofNat n
theorem nL_toInt {n : Nat} (h : n < 2 ^ 63) : (nL9 n).toInt = n := Int64.toInt_ofNat_of_lt h
theorem lt_d {x : Int32} (h : ¬ isW x 97 122 = 0) : ∃ u, 1 ≤ u ∧ u ≤ 26 ∧ x = nI (96 + u) ∧ (x - 96).toInt64 = nL9 u := by
  obtain ⟨h1, h2⟩ := isW_ne0 h
  have h0 : ¬ x < 0 := by
    rw [fc_lt, show (97 : Int32).toInt = 97 from rfl] at h1
    rw [fc_lt, show (0 : Int32).toInt = 0 from rfl]
    omega
  obtain ⟨u, hu, e⟩ := nI_w 122 h0 h2 (by decide)
  have h97 : 97 ≤ u := by
    rw [e, show (97 : Int32) = nI 97 from rfl, nI_ltI (by omega) (by decide)] at h1
    omega
  refine ⟨u - 96, by omega, by omega, ?_, ?_⟩
  · rw [e]; congr 1; omega
  · rw [e, show (96 : Int32) = nI 96 from rfl, pk_sub (by omega)]
    apply Int64.toInt_inj.mp
    rw [Int32.toInt_toInt64, nI_toInt (by omega), nL_toInt (by omega)]
theorem wh_s {y u : Nat} (hy : y ≤ 36028797018963967) (hu : u ≤ 26) : 32 * nL9 y + nL9 u = nL9 (32 * y + u) := by
  apply Int64.toInt_inj.mp
  have e1 : (32 * nL9 y).toInt = 32 * (y : Int) := by
    rw [Int64.toInt_mul, nL_toInt (by omega), show (32 : Int64).toInt = 32 from rfl, Int.bmod_eq_of_le (by omega) (by omega)]
  rw [Int64.toInt_add, e1, nL_toInt (by omega), nL_toInt (by omega), Int.bmod_eq_of_le (by omega) (by omega)]
  omega
/-- the letters' numbers -/
def lD (b : Nat → Int32) (P k : Nat) : Nat := (b (P + k)).toNatClampNeg - 96
theorem whL_N {b : Nat → Int32} {P N : Nat} (hb : ∀ k, k < N → ¬ isW (b (P + k)) 97 122 = 0) : ∀ n k, k + n = N → hN (lD b P) k ≤ 1152921504606846970 → whL b n (P + k) (nL9 (hN (lD b P) k)) = nL9 (hN (lD b P) N)
  | 0, k, h, hk => by rw [show k = N by omega]; rfl
  | n + 1, k, h, hk => by
    obtain ⟨u, hu1, hu2, e1, e2⟩ := lt_d (hb k (by omega))
    have hl : lD b P k = u := by
      unfold lD
      rw [e1, nI_clamp (by omega)]
      omega
    rw [whL]
    by_cases q : hN (lD b P) k ≤ 36028797018963967
    · have q' : nL9 (hN (lD b P) k) ≤ 36028797018963967 := by
        rw [Int64.le_iff_toInt_le, nL_toInt (by omega)]
        show (_ : Int) ≤ 36028797018963967
        omega
      rw [if_pos q', e2, wh_s q hu2]
      have es : hN (lD b P) (k + 1) = 32 * hN (lD b P) k + u := by rw [hN, if_pos q, hl]
      rw [← es]
      exact whL_N hb n (k + 1) (by omega) (by rw [es]; omega)
    · have q' : ¬ nL9 (hN (lD b P) k) ≤ 36028797018963967 := by
        rw [Int64.le_iff_toInt_le, nL_toInt (by omega)]
        show ¬ (_ : Int) ≤ 36028797018963967
        omega
      have es : hN (lD b P) (k + 1) = hN (lD b P) k := by rw [hN, if_neg q]
      rw [if_neg q', ← es]
      exact whL_N hb n (k + 1) (by omega) (by rw [es]; exact hk)
theorem wdM_iff (b : Nat → Int32) (P : Nat) (l : List Int32) : ∀ n k, ¬ wdM b P l n k = 0 ↔ ∀ j, k ≤ j → j < k + n → b (P + j) = l.getD j 0
  | 0, k => ⟨fun _ j h1 h2 => absurd h2 (by omega), fun _ => by rw [wdM]; decide⟩
  | n + 1, k => by
    rw [wdM]
    by_cases q : b (P + k) = l.getD k 0
    · rw [if_pos q, wdM_iff b P l n (k + 1)]
      refine ⟨fun h j h1 h2 => ?_, fun h j h1 h2 => h j (by omega) (by omega)⟩
      by_cases e : j = k
      · rw [e]; exact q
      · exact h j (by omega) (by omega)
    · rw [if_neg q]
      exact ⟨fun h => absurd rfl h, fun h => absurd (h k (Nat.le_refl k) (by omega)) q⟩
def gH : List Int64 := [13358, 673849, 3736683, 441828, 16955493, 66667, 7225, 7931589, 3423538, 24162970, 398804, 8902245]
def gW (i k : Nat) : Nat := ((gByt.getD i []).getD k 0).toNatClampNeg - 96
theorem gH_ok : ∀ i, i < 12 → gH.getD i 0 = nL9 (hN (gW i) (gLen.getD i 0)) ∧ hN (gW i) (gLen.getD i 0) < 36028797018963967 ∧ 1 ≤ hN (gW i) (gLen.getD i 0) := by decide +kernel
theorem gW_ok : ∀ i, i < 12 → ∀ k, k < gLen.getD i 0 → 1 ≤ gW i k ∧ gW i k ≤ 26 ∧ (gByt.getD i []).getD k 0 = nI (96 + gW i k) := by decide +kernel
theorem srt_lt {b : Nat → Int32} {T P : Nat} (h : ¬ isW (btA b T P) 97 122 = 0) : srt b T P = 1 ∧ tkE b T P = skA b 97 122 T P := by
  obtain ⟨q, r⟩ := bt_W (by decide) h
  rw [srt, if_neg q, if_neg r, tkE, if_neg q, if_neg r]
  exact ⟨rfl, rfl⟩
theorem srt_nl {b : Nat → Int32} {T P : Nat} (h : isW (btA b T P) 97 122 = 0) : ¬ srt b T P = 1 := by
  unfold srt
  by_cases q : T ≤ P
  · rw [if_pos q]; decide
  · rw [if_neg q]
    rw [bt_in q] at h
    rw [if_pos h]
    by_cases r : isW (b P) 48 57 = 0
    · rw [if_pos r]
      by_cases r2 : b P = 59
      · rw [if_pos r2]; decide
      · rw [if_neg r2]; decide
    · rw [if_neg r]; decide
/-- a word's number is a name's number where the name stands, and only there -/
theorem wh_iff {b : Nat → Int32} {T P i : Nat} (hT : T ≤ 120) (hP : P ≤ T) (hi : i < 12) : whR b T P = gH.getD i 0 ↔ ¬ wdB b T P i = 0 := by
  obtain ⟨g1, g2, g3⟩ := gH_ok i hi
  have gw := gW_ok i hi
  have hE1 : tkE b T P ≤ T := tkE_le hP
  have hE2 : P ≤ tkE b T P := tkE_ge
  by_cases h : isW (btA b T P) 97 122 = 0
  · rw [whR, if_pos h, wdB, if_neg (srt_nl h), g1]
    refine ⟨fun w => ?_, fun w => absurd rfl w⟩
    have w2 := congrArg Int64.toInt w
    rw [nL_toInt (by omega), show (0 : Int64).toInt = 0 from rfl] at w2
    omega
  · obtain ⟨h1, h2⟩ := srt_lt h
    have hb : ∀ k, k < tkE b T P - P → ¬ isW (b (P + k)) 97 122 = 0 := by
      intro k hk
      obtain ⟨r1, r2⟩ := skp_in (b := b) (lo := 97) (hi := 122) (T := T) _ P (P + k) (by omega) (by
        show P + k < skA b 97 122 T P
        rw [← h2]
        omega)
      rw [isW_one r1 r2]
      decide
    have hl : ∀ k, k < tkE b T P - P → 1 ≤ lD b P k ∧ lD b P k ≤ 26 ∧ b (P + k) = nI (96 + lD b P k) := by
      intro k hk
      obtain ⟨u, hu1, hu2, e1, e2⟩ := lt_d (hb k hk)
      have e3 : lD b P k = u := by
        unfold lD
        rw [e1, nI_clamp (by omega)]
        omega
      rw [e3]
      exact ⟨hu1, hu2, e1⟩
    have hw : whR b T P = nL9 (hN (lD b P) (tkE b T P - P)) := by
      rw [whR, if_neg h]
      exact whL_N hb (tkE b T P - P) 0 (Nat.zero_add _) (Nat.zero_le _)
    have hinj := hN_inj (w := gW i) (gLen.getD i 0) (tkE b T P - P) (lD b P) (fun k hk => ⟨(hl k hk).1, (hl k hk).2.1⟩) (fun k hk => ⟨(gw k hk).1, (gw k hk).2.1⟩) g2
    have hlen := gl_le i hi
    have hq : nI (tkE b T P) - nI P = nI (gLen.getD i 0) ↔ tkE b T P - P = gLen.getD i 0 := by
      rw [pk_sub hE2]
      refine ⟨fun w => ?_, fun w => by rw [w]⟩
      have := congrArg Int32.toInt w
      rw [nI_toInt (by omega), nI_toInt (by omega)] at this
      omega
    rw [hw, g1, wdB, if_pos h1]
    have hA : nL9 (hN (lD b P) (tkE b T P - P)) = nL9 (hN (gW i) (gLen.getD i 0)) ↔ hN (lD b P) (tkE b T P - P) = hN (gW i) (gLen.getD i 0) := by
      refine ⟨fun w => ?_, fun w => by rw [w]⟩
      have w2 := congrArg Int64.toInt w
      have hle : hN (lD b P) (tkE b T P - P) ≤ 1152921504606846970 := hN_le' (fun k hk => (hl k hk).2.1)
      rw [nL_toInt (by omega), nL_toInt (by omega)] at w2
      omega
    rw [hA, hinj]
    by_cases r : tkE b T P - P = gLen.getD i 0
    · rw [if_pos (hq.mpr r), wdM_iff]
      refine ⟨fun w j hj1 hj2 => ?_, fun w => ⟨r, fun k hk => ?_⟩⟩
      · rw [(hl j (by omega)).2.2, (gw j (by omega)).2.2, w.2 j (by omega)]
      · have := w k (Nat.zero_le k) (by omega)
        rw [(hl k (by omega)).2.2, (gw k hk).2.2] at this
        have t2 := congrArg Int32.toInt this
        have b1 := (hl k (by omega)).2.1
        have b2 := (gw k hk).2.1
        rw [nI_toInt (by omega), nI_toInt (by omega)] at t2
        omega
    · rw [if_neg (fun w => r (hq.mp w))]
      exact ⟨fun w => absurd w.1 r, fun w => absurd rfl w⟩
