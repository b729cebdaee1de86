/-- the k lowest bytes of b come behind the tape -/
def feedL (b : Int32) : Nat → (Nat → Int32) × Int32 → (Nat → Int32) × Int32
  | 0, s => s
  | k + 1, s => feedL b k (upd s.1 s.2.toNatClampNeg ((b >>> (nI (8 * k) &&& 31)) &&& 255), s.2 + 1)
def sp_feed (c : Cor) (b n : Int32) : Int32 × Cor := if isW n 1 4 = 0 then cB (-1000000001) c else if c.2.2.2.2.1 + n ≤ 120 then ((feedL b n.toNatClampNeg (c.2.2.2.1, c.2.2.2.2.1)).2, c.1, c.2.1, c.2.2.1, (feedL b n.toNatClampNeg (c.2.2.2.1, c.2.2.2.2.1)).1, (feedL b n.toNatClampNeg (c.2.2.2.1, c.2.2.2.2.1)).2, c.2.2.2.2.2) else cB (-1000000002) c
def stS (s : Nat → Int32) (w : Int32) : Nat → Int32
  | 0 => 0
  | n + 1 => stS s w n + (if w < 0 then s n else if nI n = w then s n else 0)
theorem stS_m {s : Nat → Int32} {w : Int32} (h : w < 0) : ∀ n, stS s w n = sumN s n
  | 0 => rfl
  | n + 1 => by rw [stS, sumN, if_pos h, stS_m h n]
theorem stS_j {s : Nat → Int32} {j : Nat} (hj : j < 2 ^ 31) : ∀ n, n < 2 ^ 31 → stS s (nI j) n = if j < n then s j else 0
  | 0, _ => rfl
  | n + 1, hn => by
    rw [stS, if_neg (nI_pos hj), stS_j hj n (by omega)]
    by_cases h : n = j
    · subst h
      rw [if_pos rfl, if_neg (by omega), if_pos (by omega), Int32.zero_add]
    · rw [if_neg (fun q => h ((nI_eq (by omega) hj).mp q)), Int32.add_zero]
      by_cases h2 : j < n
      · rw [if_pos h2, if_pos (by omega)]
      · rw [if_neg h2, if_neg (by omega)]
