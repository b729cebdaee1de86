theorem nm_w {b : Nat → Int32} {T P : Nat} {nu : Int32} (h : ¬ (nmN b T P 20 nu).1 = 0) : isW (nmN b T P 20 nu).2.2 0 20 = 1 := by
  obtain ⟨j, hj, e⟩ := nm_rng (M := 20) (by decide) h
  have e' : (nmN b T P 20 nu).2.2 = nI j := e
  rw [e']
  exact isW_one (nI_pos (by omega)) (fun q => by have := (nI_ltI (a := 20) (b := j) (by decide) (by omega)).mp q; omega)
theorem kn_w {b : Nat → Int32} {T P : Nat} (hT : T ≤ 120) (hP : P ≤ T) (h : ¬ knF b T P 6 0 = -1) : isW (knF b T P 6 0) 0 5 = 1 := by
  rw [kn_c hT hP] at h ⊢
  by_cases q0 : whR b T P = 8902245
  · rw [if_pos q0]; decide
  · rw [if_neg q0] at h ⊢
    by_cases q1 : whR b T P = 7225
    · rw [if_pos q1]; decide
    · rw [if_neg q1] at h ⊢
      by_cases q2 : whR b T P = 7931589
      · rw [if_pos q2]; decide
      · rw [if_neg q2] at h ⊢
        by_cases q3 : whR b T P = 3423538
        · rw [if_pos q3]; decide
        · rw [if_neg q3] at h ⊢
          by_cases q4 : whR b T P = 24162970
          · rw [if_pos q4]; decide
          · rw [if_neg q4] at h ⊢
            by_cases q5 : whR b T P = 398804
            · rw [if_pos q5]; decide
            · rw [if_neg q5] at h
              exact absurd rfl h
theorem pcT_ok {b : Nat → Int32} {T P : Nat} {nu : Int32} {t : Ter} {k : Int32} (h : tOk t) : tOk (pcT b T P nu t k).2.2.2 := by
  unfold pcT
  by_cases q : wdB b T P 4 = 0
  · rw [if_pos q]; exact h
  · rw [if_neg q]
    by_cases q2 : (nmN b T P 999 nu).1 = 0
    · rw [if_pos q2]; exact h
    · rw [if_neg q2]; exact ⟨h.1, h.2.1, h.2.2.1, h.2.2.2⟩
theorem mdT_ok {b : Nat → Int32} {T P : Nat} {nu : Int32} {t : Ter} {k : Int32} (h : tOk t) : tOk (mdT b T P nu t k).2.2.2 := by
  unfold mdT
  by_cases q : wdB b T P 3 = 0
  · rw [if_pos q]; exact pcT_ok h
  · rw [if_neg q]
    by_cases q2 : (nmN b T P 20 nu).1 = 0
    · rw [if_pos q2]; exact h
    · rw [if_neg q2]
      refine pcT_ok ?_
      exact ⟨h.1, h.2.1, upd_ok h.2.2.1 (nm_w q2), h.2.2.2⟩
theorem hsT_ok {b : Nat → Int32} {T P : Nat} {nu : Int32} {t : Ter} {k : Int32} (h : tOk t) (hk : isW k 0 5 = 1) : tOk (hsT b T P nu t k).2.2.2 := by
  unfold hsT
  by_cases q2 : (nmN b T P 7 nu).1 = 0
  · rw [if_pos q2]; exact h
  · rw [if_neg q2]
    refine mdT_ok ?_
    exact ⟨h.1, upd_ok h.2.1 hk, h.2.2.1, h.2.2.2⟩
theorem mnT_ok {b : Nat → Int32} {T P : Nat} {nu : Int32} {t : Ter} (h : tOk t) : tOk (mnT b T P nu t).2.2.2 := by
  unfold mnT
  by_cases q2 : (nmN b T P 7 nu).1 = 0
  · rw [if_pos q2]; exact h
  · rw [if_neg q2]
    by_cases q3 : wdB b T (nmN b T P 7 nu).2.1 5 = 0
    · rw [if_pos q3]; exact ⟨nm_vp q2, h.2.1, h.2.2.1, h.2.2.2⟩
    · rw [if_neg q3]; exact ⟨nm_vp q2, h.2.1, h.2.2.1, h.2.2.2⟩
theorem trT_ok {b : Nat → Int32} {T P : Nat} {nu : Int32} {t : Ter} (h : tOk t) : tOk (trT b T P nu t).2.2.2 := by
  unfold trT
  by_cases q2 : (nmN b T P 999 nu).1 = 0
  · rw [if_pos q2]; exact h
  · rw [if_neg q2]; exact ⟨h.1, h.2.1, h.2.2.1, h.2.2.2⟩
theorem ckT_ok {b : Nat → Int32} {T P : Nat} {nu : Int32} {t : Ter} (h : tOk t) : tOk (ckT b T P nu t).2.2.2 := by
  unfold ckT
  by_cases q2 : (nmN b T P 99 nu).1 = 0
  · rw [if_pos q2]; exact h
  · rw [if_neg q2]; exact ⟨h.1, h.2.1, h.2.2.1, h.2.2.2⟩
theorem itT_ok {b : Nat → Int32} {T P : Nat} {nu : Int32} {t : Ter} (hT : T ≤ 120) (hP : P ≤ T) (h : tOk t) : tOk (itT b T P nu t).2.2.2 := by
  unfold itT
  by_cases q0 : knF b T P 6 0 = -1
  · rw [if_pos q0]
    by_cases q1 : wdB b T P 0 = 0
    · rw [if_pos q1]
      by_cases q2 : wdB b T P 1 = 0
      · rw [if_pos q2]
        by_cases q3 : wdB b T P 2 = 0
        · rw [if_pos q3]; exact h
        · rw [if_neg q3]; exact ckT_ok h
      · rw [if_neg q2]; exact trT_ok h
    · rw [if_neg q1]; exact mnT_ok h
  · rw [if_neg q0]; exact hsT_ok h (kn_w hT hP q0)
theorem tlL_ok {b : Nat → Int32} {T : Nat} (hT : T ≤ 120) : ∀ (n k P : Nat) (nu : Int32) (t : Ter), P ≤ T → tOk t → tOk (tlL b T n k P nu t).2.2.2
  | 0, k, P, nu, t, hP, h => h
  | n + 1, k, P, nu, t, hP, h => by
    have h9 := itT_ok (b := b) (nu := nu) hT hP h
    rw [tlL]
    by_cases h1 : (itT b T P nu t).1 = 0
    · rw [if_pos h1]; exact h9
    · rw [if_neg h1]
      by_cases h2 : srt b T (itT b T P nu t).2.1 = 0
      · rw [if_pos h2]; exact h9
      · rw [if_neg h2]
        by_cases h3 : srt b T (itT b T P nu t).2.1 = 3
        · rw [if_pos h3]
          exact tlL_ok hT n (k + 1) _ _ _ (nxP_le (itT_le hP)) h9
        · rw [if_neg h3]; exact h9
theorem ok_terrace {c : Cor} (h : cOk c) : cOk (sp_terrace c).2 := by
  obtain ⟨T, hT, hTc⟩ := tl_nI h
  unfold sp_terrace
  rw [hTc, nI_clamp (by omega)]
  have h0 : isW 0 0 120 = 1 := by decide
  have h1 : tOk (ttT c T).2.2.2 := tlL_ok hT 120 1 _ 0 c.1 (skA_le c.2.2.2.1 32 32 (Nat.zero_le T)) h.1
  generalize ttT c T = X at h1 ⊢
  by_cases q : X.1 < 0
  · rw [if_pos q]; exact ⟨h.1, h.2.1, h0, h.2.2.2⟩
  · rw [if_neg q]; exact ⟨h1, h.2.1, h0, h.2.2.2⟩
theorem upd_ok4 {f : Nat → Int32} {k : Nat} {v a b : Int32} (h : ∀ j, j < 4 → isW (f j) a b = 1) (hv : isW v a b = 1) : ∀ j, j < 4 → isW (upd f k v j) a b = 1 := by
  intro j hj
  by_cases q : j = k
  · rw [q, pk_us]; exact hv
  · rw [pk_un q]; exact h j hj
theorem ok_sheet {c : Cor} (h : cOk c) (s b n : Int32) : cOk (sp_sheet c s b n).2 := by
  unfold sp_sheet
  by_cases q1 : isW s 0 3 = 0
  · rw [if_pos q1]; exact ok_B h _
  · rw [if_neg q1]
    by_cases q2 : isBt b = 0
    · rw [if_pos q2]; exact ok_B h _
    · rw [if_neg q2]
      by_cases q3 : 0 ≤ n
      · rw [if_pos q3]
        by_cases q4 : n ≤ 40
        · rw [if_pos q4]
          refine ⟨h.1, h.2.1, h.2.2.1, upd_ok4 h.2.2.2 ?_⟩
          unfold laySz
          by_cases q5 : b = 0
          · rw [if_pos q5]; decide
          · rw [if_neg q5, isW_iff]
            rw [fc_le] at q3 q4
            exact ⟨q3, q4⟩
        · rw [if_neg q4]; exact ok_B h _
      · rw [if_neg q3]; exact ok_B h _
theorem ok_Nm {c : Cor} (h : cOk c) (j : Nat) (f : Nat → Int64) : cOk (cNm c j f) := ⟨h.1, h.2.1, h.2.2.1, h.2.2.2⟩
theorem ok_write {c : Cor} (h : cOk c) (s i : Int32) (v : Int64) : cOk (sp_write c s i v).2 := by
  unfold sp_write
  exact ok_ifl (ok_Bl h _) (ok_ifl (ok_Bl h _) (ok_ifl (ok_Bl h _) (ok_ifl (ok_Nm h _ _) (ok_Bl h _))))
theorem ok_copy {c : Cor} (h : cOk c) (s f t o n : Int32) : cOk (sp_copy c s f t o n).2 := by
  unfold sp_copy
  exact ok_if (ok_B h _) (ok_if (ok_B h _) (ok_if (ok_B h _) (ok_if (ok_B h _) (ok_if (ok_if (ok_B h _) (ok_if (ok_B h _) (ok_Nm h _ _))) (ok_B h _)))))
theorem inL_w {v : Int64} (h : ¬ inL v 0 20 = 0) : isW v.toInt32 0 20 = 1 := by
  unfold inL at h
  by_cases h1 : v < 0
  · rw [if_pos h1] at h; exact absurd rfl h
  · rw [if_neg h1] at h
    by_cases h2 : 20 < v
    · rw [if_pos h2] at h; exact absurd rfl h
    · rw [Int64.lt_iff_toInt_lt, show (0 : Int64).toInt = 0 from rfl] at h1
      rw [Int64.lt_iff_toInt_lt, show (20 : Int64).toInt = 20 from rfl] at h2
      rw [isW_iff, Int64.toInt_toInt32, Int.bmod_eq_of_le (by omega) (by omega), show (0 : Int32).toInt = 0 from rfl, show (20 : Int32).toInt = 20 from rfl]
      omega
theorem lay_ok (m : Nat → Int64) : ∀ (n : Nat) (s : (Nat → Int32) × Int32), (∀ j, j < 8 → isW (s.1 j) 0 20 = 1) → ∀ j, j < 8 → isW ((layS m n s).1 j) 0 20 = 1
  | 0, s, h => h
  | n + 1, s, h => by
    rw [layS]
    by_cases q : inL (m n) 0 20 = 0
    · rw [if_pos q]; exact lay_ok m n s h
    · rw [if_neg q]; exact upd_ok (lay_ok m n s h) (inL_w q)
theorem ok_lays {c : Cor} (h : cOk c) (s : Int32) : cOk (sp_lays c s).2 := by
  unfold sp_lays
  refine ok_if (ok_B h _) (ok_if (ok_B h _) ?_)
  exact ⟨⟨h.1.1, h.1.2.1, lay_ok _ _ _ h.1.2.2.1, h.1.2.2.2⟩, h.2⟩
theorem ok_book {c : Cor} (h : cOk c) (s : Int32) : cOk (sp_book c s).2 := by
  unfold sp_book
  exact ok_if (ok_B h _) (ok_if (ok_B h _) (ok_Nm h _ _))
theorem ok_read {c : Cor} (h : cOk c) (s a : Int32) : cOk (sp_read c s a).2 := by
  unfold sp_read
  exact ok_if (ok_B h _) (ok_if (ok_B h _) (ok_if (ok_B h _) h))
theorem ok_image {c : Cor} (h : cOk c) : cOk (sp_image c).2 := ⟨h.1, h.1, h.2.2⟩
theorem ok_undo {c : Cor} (h : cOk c) : cOk (sp_undo c).2 := by
  unfold sp_undo
  refine ok_if (ok_B h _) ?_
  exact ⟨h.2.1, h.2⟩
theorem ok_tear {c : Cor} (h : cOk c) : cOk (sp_tear c).2 := ⟨h.1, h.2.1, h.2.2.1, h.2.2.2⟩
theorem ok_count {c : Cor} (h : cOk c) (w : Int32) : cOk (sp_count c w).2 := by
  unfold sp_count
  exact ok_if h (ok_if h (ok_if h (ok_if h (ok_B h _))))
theorem ok_status {c : Cor} (h : cOk c) (w : Int32) : cOk (sp_status c w).2 := by
  unfold sp_status
  exact ok_if h (ok_if (ok_B h _) h)
