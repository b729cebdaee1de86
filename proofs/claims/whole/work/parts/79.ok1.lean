/-! what is kept stays well, call by call -/
theorem ok_B {c : Cor} (h : cOk c) (f : Int32) : cOk (cB f c).2 := ⟨h.1, h.2.1, h.2.2.1, h.2.2.2⟩
theorem ok_Bl {c : Cor} (h : cOk c) (f : Int32) : cOk (cBl f c).2 := ⟨h.1, h.2.1, h.2.2.1, h.2.2.2⟩
theorem ok_if {p : Prop} {hd : Decidable p} {A B : Int32 × Cor} (hA : cOk A.2) (hB : cOk B.2) : cOk (@ite _ p hd A B).2 := by
  cases hd with
  | isTrue q => exact hA
  | isFalse q => exact hB
theorem ok_ifl {p : Prop} {hd : Decidable p} {A B : Int64 × Cor} (hA : cOk A.2) (hB : cOk B.2) : cOk (@ite _ p hd A B).2 := by
  cases hd with
  | isTrue q => exact hA
  | isFalse q => exact hB
theorem cl_lt {v : Int32} (q : ¬ isW v 0 7 = 0) : v.toNatClampNeg < 8 := by
  obtain ⟨j, hj, rfl⟩ := isW_nI 7 q (by decide)
  rw [nI_clamp (by omega)]
  omega
theorem ok_cF {c : Cor} (h : cOk c) (k : Nat) (v : Int32) : cOk (cF k v c).2 := by
  unfold cF
  exact ok_if h (ok_B h _)
theorem ok_cN {c : Cor} (h : cOk c) (r : Int32) : cOk (cN r c).2 := by
  unfold cN
  exact ok_if h (ok_B h _)
theorem ok_man {c : Cor} (h : cOk c) (w v : Int32) : cOk (sp_man c w v).2 := by
  unfold sp_man
  by_cases q : isHis w v = 0
  · rw [if_pos q]; exact ok_B h _
  · rw [if_neg q]
    refine ⟨?_, h.2⟩
    show tOk (tPut c.1 (1 + w).toNatClampNeg v)
    unfold isHis at q
    by_cases q0 : w = 0
    · subst q0
      rw [if_pos rfl] at q
      rw [show (1 + 0 : Int32).toNatClampNeg = 1 by decide, put_1]
      exact ⟨isW_vp 7 q (by decide), h.1.2⟩
    · rw [if_neg q0] at q
      by_cases q1 : w = 1
      · subst q1
        rw [show (1 + 1 : Int32).toNatClampNeg = 2 by decide, put_2]
        exact ⟨h.1.1, h.1.2⟩
      · rw [if_neg q1] at q
        by_cases q2 : w = 2
        · subst q2
          rw [show (1 + 2 : Int32).toNatClampNeg = 3 by decide, put_3]
          exact ⟨h.1.1, h.1.2⟩
        · rw [if_neg q2] at q
          by_cases q3 : w = 3
          · subst q3
            rw [show (1 + 3 : Int32).toNatClampNeg = 4 by decide, put_4]
            exact ⟨h.1.1, h.1.2⟩
          · rw [if_neg q3] at q
            by_cases q4 : w = 4
            · subst q4
              rw [show (1 + 4 : Int32).toNatClampNeg = 5 by decide, put_5]
              exact ⟨h.1.1, h.1.2⟩
            · rw [if_neg q4] at q
              exact absurd rfl q
theorem ok_now {c : Cor} (h : cOk c) (w : Int32) : cOk (sp_now c w).2 := by
  unfold sp_now
  exact ok_if (ok_B h _) (ok_if h h)
theorem ok_of {c : Cor} (h : cOk c) (a w : Int32) : cOk (sp_of c a w).2 := by
  unfold sp_of
  exact ok_if (ok_B h _) (ok_if (ok_B h _) (ok_if h h))
theorem ok_minds {c : Cor} (h : cOk c) (a w : Int32) : cOk (sp_minds c a w).2 := by
  unfold sp_minds
  exact ok_if (ok_B h _) (ok_if (ok_B h _) h)
theorem ok_buys {c : Cor} (h : cOk c) (a w : Int32) : cOk (sp_buys c a w).2 := by
  unfold sp_buys
  exact ok_if (ok_B h _) (ok_if (ok_B h _) h)
theorem ok_set {c : Cor} (h : cOk c) (a w v : Int32) : cOk (sp_set c a w v).2 := by
  unfold sp_set
  by_cases q : isW a 0 7 = 0
  · rw [if_pos q]; exact ok_B h _
  · rw [if_neg q]
    by_cases q2 : isW w 1 3 = 0
    · rw [if_pos q2]; exact ok_B h _
    · rw [if_neg q2]
      by_cases q3 : isW v 0 (setLim w) = 0
      · rw [if_pos q3]; exact ok_B h _
      · rw [if_neg q3]
        refine ⟨?_, h.2⟩
        show tOk (tPut c.1 (spot a w).toNatClampNeg v)
        have hv : vp_in a 8 := isW_vp 7 q (by decide)
        obtain ⟨j, hj1, hj3, hw⟩ := isW_nI1 3 q2 (by decide)
        subst hw
        rw [spot_n hv j hj3]
        have hj : j = 1 ∨ j = 2 ∨ j = 3 := by omega
        rcases hj with rfl | rfl | rfl
        · rw [put_M]
          rw [show setLim (nI 1) = 20 by decide] at q3
          exact ⟨h.1.1, h.1.2.1, upd_ok h.1.2.2.1 (isW_1 q3), h.1.2.2.2⟩
        · rw [put_P]
          exact ⟨h.1.1, h.1.2⟩
        · rw [put_A]
          exact ⟨h.1.1, h.1.2⟩
theorem ok_turn {c : Cor} (h : cOk c) (a k : Int32) : cOk (sp_turn c a k).2 := by
  unfold sp_turn
  by_cases q : isW a 0 7 = 0
  · rw [if_pos q]; exact ok_B h _
  · rw [if_neg q]
    by_cases q2 : isW k 0 5 = 0
    · rw [if_pos q2]; exact ok_B h _
    · rw [if_neg q2]
      refine ⟨?_, h.2⟩
      show tOk (tPut c.1 (spot a (nI 0)).toNatClampNeg k)
      rw [spot_n (isW_vp 7 q (by decide)) 0 (by decide), Nat.add_zero, put_K]
      exact ⟨h.1.1, upd_ok h.1.2.1 (isW_1 q2), h.1.2.2⟩
theorem ok_as {c : Cor} (h : cOk c) (a k : Int32) : cOk (sp_as c a k).2 := by
  unfold sp_as
  exact ok_if (ok_B h _) (ok_if (ok_B h _) (ok_if (ok_B h _) h))
theorem swp_ok {f : Nat → Int32} {a b x y : Int32} (hf : ∀ j, j < 8 → isW (f j) x y = 1) (ha : a.toNatClampNeg < 8) (hb : b.toNatClampNeg < 8) : ∀ j, j < 8 → isW (swp f a b j) x y = 1 := upd_ok (upd_ok hf (hf _ ha)) (hf _ hb)
theorem ok_move {c : Cor} (h : cOk c) (a o : Int32) : cOk (sp_move c a o).2 := by
  unfold sp_move
  by_cases q : isW a 0 7 = 0
  · rw [if_pos q]; exact ok_B h _
  · rw [if_neg q]
    by_cases q2 : isW o 0 7 = 0
    · rw [if_pos q2]; exact ok_B h _
    · rw [if_neg q2]
      refine ok_if (ok_B h _) ?_
      exact ⟨⟨h.1.1, swp_ok h.1.2.1 (cl_lt q) (cl_lt q2), swp_ok h.1.2.2.1 (cl_lt q) (cl_lt q2), h.1.2.2.2⟩, h.2⟩
theorem goHour_kind (t : Ter) : tKind (goHour t) = tKind t := by
  unfold goHour
  by_cases h1 : sRest (tHour t) = 0
  · rw [if_pos h1]
    by_cases h2 : tRang t = -1
    · rw [if_pos h2]; rfl
    · rw [if_neg h2]; rfl
  · rw [if_neg h1]; rfl
theorem goHour_hour (t : Ter) : tHour (goHour t) = tHour t + 1 := by
  unfold goHour
  by_cases h1 : sRest (tHour t) = 0
  · rw [if_pos h1]
    by_cases h2 : tRang t = -1
    · rw [if_pos h2]; rfl
    · rw [if_neg h2]; rfl
  · rw [if_neg h1]; rfl
theorem goHs_kind : ∀ (n : Nat) (t : Ter), tKind (goHs n t) = tKind t
  | 0, _ => rfl
  | n + 1, t => (goHs_kind n (goHour t)).trans (goHour_kind t)
theorem goHs_hour : ∀ (n : Nat) (t : Ter), tHour (goHs n t) = tHour t + nI n
  | 0, t => (Int32.add_zero (tHour t)).symm
  | n + 1, t => by
    rw [goHs, goHs_hour n (goHour t), goHour_hour t, ← nI_1 n, Int32.add_assoc, Int32.add_comm 1 (nI n)]
theorem add_w {x y : Int32} {N M : Nat} (hx : isW x 0 y = 1) (hy : y.toInt ≤ 99999) (hN : N ≤ 100) (h : x + nI N ≤ y) : isW (x + nI N) 0 y = 1 := by
  have q := isW_iff.mp hx
  rw [show (0 : Int32).toInt = 0 from rfl] at q
  have e : (nI N).toInt = N := nI_toInt (by omega)
  have e2 : (x + nI N).toInt = x.toInt + N := by
    rw [Int32.toInt_add, e, Int.bmod_eq_of_le (by omega) (by omega)]
  rw [fc_le, e2] at h
  rw [isW_iff, e2, show (0 : Int32).toInt = 0 from rfl]
  omega
theorem ok_hours {c : Cor} (h : cOk c) (n : Int32) : cOk (sp_hours c n).2 := by
  unfold sp_hours
  by_cases q : isW n 1 100 = 0
  · rw [if_pos q]; exact ok_B h _
  · rw [if_neg q]
    obtain ⟨N, hN1, hN, hn⟩ := isW_nI1 100 q (by decide)
    subst hn
    by_cases q2 : c.1.1 + nI N ≤ 99999
    · rw [if_pos q2]
      refine ⟨?_, h.2⟩
      show tOk (goHs (nI N).toNatClampNeg c.1)
      rw [nI_clamp (by omega)]
      refine ⟨goHs_at N h.1.1, ?_, goHs_mood N h.1.2.2.1, ?_⟩
      · rw [goHs_kind]; exact h.1.2.1
      · rw [goHs_hour]; exact add_w (M := 0) h.1.2.2.2 (by decide) hN q2
    · rw [if_neg q2]; exact ok_B h _
theorem ok_on {c : Cor} (h : cOk c) (a n w : Int32) : cOk (sp_on c a n w).2 := by
  unfold sp_on
  exact ok_if (ok_B h _) (ok_if (ok_B h _) (ok_if (ok_B h _) (ok_if h h)))
theorem ok_rang {c : Cor} (h : cOk c) (n : Int32) : cOk (sp_rang c n).2 := by
  unfold sp_rang
  exact ok_if (ok_B h _) h
theorem ok_takings {c : Cor} (h : cOk c) (n : Int32) : cOk (sp_takings c n).2 := by
  unfold sp_takings
  exact ok_if (ok_B h _) h
theorem ok_moods {c : Cor} (h : cOk c) (n : Int32) : cOk (sp_moods c n).2 := by
  unfold sp_moods
  exact ok_if (ok_B h _) h
theorem ok_empty {c : Cor} (h : cOk c) : cOk (sp_empty c).2 := ok_cF h 3 0
theorem ok_comes {c : Cor} (h : cOk c) (a : Int32) : cOk (sp_comes c a).2 := by
  unfold sp_comes
  exact ok_if (ok_B h _) (ok_cF h 1 a)
theorem ok_when {c : Cor} (h : cOk c) (a : Int32) : cOk (sp_when c a).2 := by
  unfold sp_when
  exact ok_if (ok_B h _) (ok_cF h 4 a)
theorem ok_begin {c : Cor} (h : cOk c) (n : Int32) : cOk (sp_begin c n).2 := by
  unfold sp_begin
  exact ok_if (ok_B h _) h
theorem ok_way {c : Cor} (h : cOk c) (n : Int32) : cOk (sp_way c n).2 := by
  unfold sp_way
  exact ok_if (ok_B h _) h
theorem ok_mood {c : Cor} (h : cOk c) (a n : Int32) : cOk (sp_mood c a n).2 := by
  unfold sp_mood
  exact ok_if (ok_B h _) (ok_if (ok_B h _) h)
theorem ok_kind {c : Cor} (h : cOk c) (a n : Int32) : cOk (sp_kind c a n).2 := by
  unfold sp_kind
  exact ok_if (ok_B h _) (ok_if (ok_B h _) h)
theorem ok_enough {c : Cor} (h : cOk c) (n : Int32) : cOk (sp_enough c n).2 := by
  unfold sp_enough
  exact ok_if (ok_B h _) (ok_cN h _)
theorem ok_bears {c : Cor} (h : cOk c) (n v : Int32) : cOk (sp_bears c n v).2 := by
  unfold sp_bears
  exact ok_if (ok_B h _) (ok_if (ok_B h _) (ok_cN h _))
theorem ok_swap {c : Cor} (h : cOk c) (n : Int32) : cOk (sp_swap c n).2 := by
  unfold sp_swap
  exact ok_if (ok_B h _) (ok_cN h _)
theorem ok_saddest {c : Cor} (h : cOk c) (n : Int32) : cOk (sp_saddest c n).2 := by
  unfold sp_saddest
  exact ok_if (ok_B h _) h
theorem feed_2 (b : Int32) : ∀ (k : Nat) (s : (Nat → Int32) × Int32), (feedL b k s).2 = s.2 + nI k
  | 0, s => (Int32.add_zero s.2).symm
  | k + 1, s => by
    rw [feedL, feed_2 b k]
    show s.2 + 1 + nI k = s.2 + nI (k + 1)
    rw [← nI_1 k, Int32.add_assoc, Int32.add_comm 1 (nI k)]
theorem ok_feed {c : Cor} (h : cOk c) (b n : Int32) : cOk (sp_feed c b n).2 := by
  unfold sp_feed
  by_cases q : isW n 1 4 = 0
  · rw [if_pos q]; exact ok_B h _
  · rw [if_neg q]
    obtain ⟨N, hN1, hN, hn⟩ := isW_nI1 4 q (by decide)
    subst hn
    by_cases q2 : c.2.2.2.2.1 + nI N ≤ 120
    · rw [if_pos q2]
      refine ⟨h.1, h.2.1, ?_, h.2.2.2⟩
      show isW (feedL b (nI N).toNatClampNeg (c.2.2.2.1, c.2.2.2.2.1)).2 0 120 = 1
      rw [nI_clamp (by omega), feed_2]
      exact add_w (M := 0) h.2.2.1 (by decide) (by omega) q2
    · rw [if_neg q2]; exact ok_B h _
theorem ok_wipe {c : Cor} (h : cOk c) : cOk (sp_wipe c).2 := ⟨h.1, h.2.1, show isW 0 0 120 = 1 by decide, h.2.2.2⟩
