theorem ge_of {x : Int32} {i : Nat} (N : Nat) (hx : x = nI i) (c : nI N ≤ x) (hi : i < 2 ^ 31) (hN : N < 2 ^ 31) : N ≤ i := by
  rw [hx] at c
  exact (nI_leI hN hi).mp c
theorem lt_of {x : Int32} {i : Nat} (N : Nat) (hx : x = nI i) (c : ¬ nI N ≤ x) (hi : i < 2 ^ 31) (hN : N < 2 ^ 31) : i < N := by
  rw [hx] at c
  rcases Nat.lt_or_ge i N with h | h
  · exact h
  · exact absurd ((nI_leI hN hi).mpr h) c
theorem vp_of_nI {x : Int32} {i N : Nat} (hx : x = nI i) (h : i < N) (hN : N < 2 ^ 31) : vp_in x N := by
  rw [hx]; exact vp_in_nI h hN
theorem isW_ne0 {v a b : Int32} (h : ¬ isW v a b = 0) : ¬ v < a ∧ ¬ b < v := by
  unfold isW at h
  by_cases h1 : v < a
  · simp [h1] at h
  · by_cases h2 : b < v
    · simp [h1, h2] at h
    · exact ⟨h1, h2⟩
theorem isW_one {v a b : Int32} (h1 : ¬ v < a) (h2 : ¬ b < v) : isW v a b = 1 := by
  simp [isW, h1, h2]
theorem fc_lt (a b : Int32) : a < b ↔ a.toInt < b.toInt := Int32.lt_iff_toInt_lt
theorem fc_le (a b : Int32) : a ≤ b ↔ a.toInt ≤ b.toInt := Int32.le_iff_toInt_le
theorem nI_w {v : Int32} (N : Nat) (h1 : ¬ v < 0) (h2 : ¬ nI N < v) (hN : N < 2 ^ 31) : ∃ j : Nat, j ≤ N ∧ v = nI j := by
  rw [fc_lt] at h1 h2
  rw [nI_toInt hN] at h2
  have h0 : (0 : Int32).toInt = 0 := rfl
  rw [h0] at h1
  refine ⟨v.toInt.toNat, by omega, ?_⟩
  apply Int32.toInt_inj.mp
  rw [nI_toInt (by omega)]
  omega
theorem isW_nI {v : Int32} (N : Nat) (h : ¬ isW v 0 (nI N) = 0) (hN : N < 2 ^ 31) : ∃ j : Nat, j ≤ N ∧ v = nI j := nI_w N (isW_ne0 h).1 (isW_ne0 h).2 hN
theorem isW_vp {v : Int32} (N : Nat) (h : ¬ isW v 0 (nI N) = 0) (hN : N + 1 < 2 ^ 31) : vp_in v (N + 1) := by
  obtain ⟨j, hj, rfl⟩ := isW_nI N h (by omega)
  exact vp_in_nI (by omega) hN
theorem walk_at (x : Nat) (h : x < 8) (s : Int32) (hs : s = 1 ∨ s = 7) : vp_in ((nI x + s) - (nI x + s) / 8 * 8) 8 := by
  have h1 : ∀ x : Fin 8, vp_in ((nI x.val + 1) - (nI x.val + 1) / 8 * 8) 8 ∧ vp_in ((nI x.val + 7) - (nI x.val + 7) / 8 * 8) 8 := by
    unfold vp_in
    decide +kernel
  rcases hs with rfl | rfl
  · exact (h1 ⟨x, h⟩).1
  · exact (h1 ⟨x, h⟩).2
theorem stepW_or (w : Int32) : stepW w = 1 ∨ stepW w = 7 := by
  unfold stepW
  by_cases h : w = 1
  · exact Or.inl (if_pos h)
  · exact Or.inr (if_neg h)
theorem sWalk_at {t : Ter} (h : vp_in (tAt t) 8) : vp_in (tAt (sWalk t)) 8 := by
  obtain ⟨x, hx, e⟩ := vp_in_of h (by decide)
  show vp_in ((tAt t + stepW (tWay t)) - (tAt t + stepW (tWay t)) / 8 * 8) 8
  rw [e]
  exact walk_at x hx _ (stepW_or _)
theorem goHour_at {t : Ter} (h : vp_in (tAt t) 8) : vp_in (tAt (goHour t)) 8 := by
  unfold goHour
  by_cases h1 : sRest (tHour t) = 0
  · rw [if_pos h1]
    by_cases h2 : tRang t = -1
    · rw [if_pos h2]
      exact sWalk_at (t := sListen t) h
    · rw [if_neg h2]
      exact sWalk_at (t := sListen (hearBuy t)) h
  · rw [if_neg h1]
    exact h
theorem goHs_at : ∀ (n : Nat) {t : Ter}, vp_in (tAt t) 8 → vp_in (tAt (goHs n t)) 8
  | 0, _, h => h
  | n + 1, _, h => goHs_at n (goHour_at h)
theorem sumN_cong {f g : Nat → Int32} : ∀ {n : Nat}, (∀ k, k < n → f k = g k) → sumN f n = sumN g n
  | 0, _ => rfl
  | n + 1, h => by
    rw [sumN, sumN, sumN_cong (fun k hk => h k (by omega)), h n (by omega)]
theorem cpy_8 {f g : Nat → Int32} (j : Nat) (h : j < 8) : va_cpy f g (0 : Int32).toNatClampNeg (0 : Int32).toNatClampNeg (8 : Int32).toNatClampNeg j = f j := by
  have h0 : (0 : Int32).toNatClampNeg = 0 := rfl
  have h8 : (8 : Int32).toNatClampNeg = 8 := rfl
  rw [h0, h8, pk_cpy_in (Nat.zero_le j) (by omega)]
  congr 1
  omega
