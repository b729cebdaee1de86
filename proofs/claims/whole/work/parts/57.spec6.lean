/-! the text: places of the tape are numbers; b its bytes, T how many -/
/-- the first place from p on whose byte isn't from lo to hi, n steps at most -/
def skp (b : Nat → Int32) (lo hi : Int32) (T : Nat) : Nat → Nat → Nat
  | 0, p => p
  | n + 1, p => if T ≤ p then p else if b p < lo then p else if hi < b p then p else skp b lo hi T n (p + 1)
def skA (b : Nat → Int32) (lo hi : Int32) (T p : Nat) : Nat := skp b lo hi T (T - p) p
theorem skA_out {b : Nat → Int32} {lo hi : Int32} {T p : Nat} (h : T ≤ p) : skA b lo hi T p = p := by
  unfold skA
  rw [show T - p = 0 by omega]
  rfl
theorem skA_lo {b : Nat → Int32} {lo hi : Int32} {T p : Nat} (h : b p < lo) : skA b lo hi T p = p := by
  by_cases q : T ≤ p
  · exact skA_out q
  · unfold skA
    rw [show T - p = (T - p - 1) + 1 by omega, skp, if_neg q, if_pos h]
theorem skA_hi {b : Nat → Int32} {lo hi : Int32} {T p : Nat} (h0 : ¬ b p < lo) (h : hi < b p) : skA b lo hi T p = p := by
  by_cases q : T ≤ p
  · exact skA_out q
  · unfold skA
    rw [show T - p = (T - p - 1) + 1 by omega, skp, if_neg q, if_neg h0, if_pos h]
theorem skA_s {b : Nat → Int32} {lo hi : Int32} {T p : Nat} (q : ¬ T ≤ p) (h0 : ¬ b p < lo) (h : ¬ hi < b p) : skA b lo hi T p = skA b lo hi T (p + 1) := by
  unfold skA
  rw [show T - p = (T - (p + 1)) + 1 by omega, skp, if_neg q, if_neg h0, if_neg h]
theorem skp_ge {b : Nat → Int32} {lo hi : Int32} {T : Nat} : ∀ n p, p ≤ skp b lo hi T n p
  | 0, p => Nat.le_refl p
  | n + 1, p => by
    rw [skp]
    by_cases q : T ≤ p
    · rw [if_pos q]; exact Nat.le_refl p
    · rw [if_neg q]
      by_cases h0 : b p < lo
      · rw [if_pos h0]; exact Nat.le_refl p
      · rw [if_neg h0]
        by_cases h1 : hi < b p
        · rw [if_pos h1]; exact Nat.le_refl p
        · rw [if_neg h1]; exact Nat.le_trans (Nat.le_succ p) (skp_ge n (p + 1))
theorem skp_le {b : Nat → Int32} {lo hi : Int32} {T : Nat} : ∀ n p, p ≤ T → skp b lo hi T n p ≤ T
  | 0, p, h => h
  | n + 1, p, h => by
    rw [skp]
    by_cases q : T ≤ p
    · rw [if_pos q]; exact h
    · rw [if_neg q]
      by_cases h0 : b p < lo
      · rw [if_pos h0]; exact h
      · rw [if_neg h0]
        by_cases h1 : hi < b p
        · rw [if_pos h1]; exact h
        · rw [if_neg h1]; exact skp_le n (p + 1) (by omega)
theorem skA_ge (b : Nat → Int32) (lo hi : Int32) (T p : Nat) : p ≤ skA b lo hi T p := skp_ge _ _
theorem skA_le (b : Nat → Int32) (lo hi : Int32) {T p : Nat} (h : p ≤ T) : skA b lo hi T p ≤ T := skp_le _ _ h
theorem skA_gt {b : Nat → Int32} {lo hi : Int32} {T p : Nat} (h : p < T) : p < skA b lo hi T p ↔ ¬ isW (b p) lo hi = 0 := by
  unfold isW
  by_cases h0 : b p < lo
  · rw [skA_lo h0, if_pos h0]
    exact ⟨fun q => absurd q (by omega), fun q => absurd rfl q⟩
  · by_cases h1 : hi < b p
    · rw [skA_hi h0 h1, if_neg h0, if_pos h1]
      exact ⟨fun q => absurd q (by omega), fun q => absurd rfl q⟩
    · rw [if_neg h0, if_neg h1]
      refine ⟨fun _ => by decide, fun _ => ?_⟩
      rw [skA_s (by omega) h0 h1]
      exact skA_ge b lo hi T (p + 1)
abbrev tkS (b : Nat → Int32) (T q : Nat) : Nat := skA b 32 32 T q
def srt (b : Nat → Int32) (T p : Nat) : Int32 := if T ≤ p then 0 else if isW (b p) 97 122 = 0 then (if isW (b p) 48 57 = 0 then (if b p = 59 then 3 else 4) else 2) else 1
def tkE (b : Nat → Int32) (T p : Nat) : Nat := if T ≤ p then p else if isW (b p) 97 122 = 0 then (if isW (b p) 48 57 = 0 then p + 1 else skA b 48 57 T p) else skA b 97 122 T p
theorem tkE_le {b : Nat → Int32} {T p : Nat} (h : p ≤ T) : tkE b T p ≤ T := by
  unfold tkE
  by_cases h1 : T ≤ p
  · rw [if_pos h1]; exact h
  · rw [if_neg h1]
    by_cases h2 : isW (b p) 97 122 = 0
    · rw [if_pos h2]
      by_cases h3 : isW (b p) 48 57 = 0
      · rw [if_pos h3]; omega
      · rw [if_neg h3]; exact skA_le b 48 57 h
    · rw [if_neg h2]; exact skA_le b 97 122 h
theorem tkE_ge {b : Nat → Int32} {T p : Nat} : p ≤ tkE b T p := by
  unfold tkE
  by_cases h1 : T ≤ p
  · rw [if_pos h1]; exact Nat.le_refl p
  · rw [if_neg h1]
    by_cases h2 : isW (b p) 97 122 = 0
    · rw [if_pos h2]
      by_cases h3 : isW (b p) 48 57 = 0
      · rw [if_pos h3]; omega
      · rw [if_neg h3]; exact skA_ge b 48 57 T p
    · rw [if_neg h2]; exact skA_ge b 97 122 T p
abbrev xtW (E : gE) (a : Nat → Nat) (s : (Nat → Int32) × Int32 × Int32 × Int32 × Int32 × Int32) (t : Ter) : va_W := [(a 0, .inr (3, [.ref (a 1), .int s.2.2.1, .int s.2.2.2.1, .int s.2.2.2.2.1, .int s.2.2.2.2.2])), (a 1, .inr (1, [.ref (a 2), .int s.2.1])), (a 2, .inl (gI E, 120, .inl s.1)), (a 3, .inr (2, [.int t.1, .int t.2.1, .int t.2.2.1, .int t.2.2.2.1, .int t.2.2.2.2.1, .int t.2.2.2.2.2.1, .int t.2.2.2.2.2.2.1, .ref (a 4), .ref (a 5), .ref (a 6), .ref (a 7)])), (a 4, .inl (gI E, 8, .inl t.2.2.2.2.2.2.2.1)), (a 5, .inl (gI E, 8, .inl t.2.2.2.2.2.2.2.2.1)), (a 6, .inl (gI E, 8, .inl t.2.2.2.2.2.2.2.2.2.1)), (a 7, .inl (gI E, 8, .inl t.2.2.2.2.2.2.2.2.2.2))]
