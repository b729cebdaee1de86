theorem cF_k {K : Nat} {V : Int32} {c : Cor} {i : Nat} {u : Ter} (hf : fstAs K V 201 c.1 = i + fstAs K V (201 - i) u) (hi : i ≤ 200) (h : enc u K = V) : cF K V c = (nI i, c) := by
  have e : fstAs K V (201 - i) u = 0 := by rw [show 201 - i = (200 - i) + 1 by omega, fstAs, if_pos h]
  rw [cF, hf, e, if_pos (by omega)]
  rfl
theorem cF_n {K : Nat} {V : Int32} {c : Cor} {i : Nat} {u : Ter} (hf : fstAs K V 201 c.1 = i + fstAs K V (201 - i) u) (hi : i = 201) : cF K V c = cB (-1000000004) c := by
  subst hi
  rw [cF, hf, if_neg (by omega)]
theorem cF_s {K : Nat} {V : Int32} {c : Cor} {i : Nat} {u : Ter} (hf : fstAs K V 201 c.1 = i + fstAs K V (201 - i) u) (hi : i ≤ 200) (h : ¬ enc u K = V) : fstAs K V 201 c.1 = (i + 1) + fstAs K V (201 - (i + 1)) (goHour u) := by
  rw [hf, show 201 - i = (201 - (i + 1)) + 1 by omega, fstAs, if_neg h]
  omega
theorem bst_le {f : Nat → Int32} {n : Nat} {b y T : Int32} (hb : (b, y) = bst f n) (hT : T = f n) (h : T ≤ y) : (b, y) = bst f (n + 1) := by
  rw [bst, ← hb, ← hT, if_pos h]
theorem bst_gt {f : Nat → Int32} {n : Nat} {b y T x : Int32} (hb : (b, y) = bst f n) (hT : T = f n) (h : ¬ T ≤ y) (hx : x = nI n) : (x, T) = bst f (n + 1) := by
  rw [bst, ← hb, ← hT, if_neg h, hx]
theorem gt_of {x : Int32} {i : Nat} (N : Nat) (hx : x = nI i) (c : nI N < x) (hi : i < 2 ^ 31) (hN : N < 2 ^ 31) : N < i := by
  rw [hx] at c
  exact (nI_ltI hN hi).mp c
theorem le_of {x : Int32} {i : Nat} (N : Nat) (hx : x = nI i) (c : ¬ nI N < x) (hi : i < 2 ^ 31) (hN : N < 2 ^ 31) : i ≤ N := by
  rw [hx] at c
  rcases Nat.lt_or_ge N i with h | h
  · exact absurd ((nI_ltI hN hi).mpr h) c
  · exact h
theorem frst_k {b : Nat → Bool} {i n : Nat} (h : b i = true) : frst b (n + 1) i = nI i := by rw [frst, if_pos h]
theorem frst_s {b : Nat → Bool} {i n : Nat} (h : ¬ b i = true) : frst b (n + 1) i = frst b n (i + 1) := by rw [frst, if_neg h]
theorem cN_k {r : Int32} {c : Cor} {i : Nat} (h : r = nI i) (hi : i < 2 ^ 31) : cN r c = (nI i, c) := by
  rw [cN, h, if_pos (nI_pos' hi)]
theorem cN_n {r : Int32} {c : Cor} (h : r = -1) : cN r c = cB (-1000000004) c := by
  rw [cN, h, if_neg (by decide)]
theorem sub1 (j : Nat) : nI j + (-1) = nI j - 1 := (Int32.sub_eq_add_neg _ _).symm
theorem isW_iff {v a b : Int32} : isW v a b = 1 ↔ (a.toInt ≤ v.toInt ∧ v.toInt ≤ b.toInt) := by
  unfold isW
  by_cases h1 : v < a
  · rw [if_pos h1]
    rw [fc_lt] at h1
    constructor
    · intro h; exact absurd h (by decide)
    · intro h; omega
  · rw [if_neg h1]
    by_cases h2 : b < v
    · rw [if_pos h2]
      rw [fc_lt] at h2
      constructor
      · intro h; exact absurd h (by decide)
      · intro h; omega
    · rw [if_neg h2]
      rw [fc_lt] at h1 h2
      exact ⟨fun _ => by omega, fun _ => rfl⟩
theorem isW_01 (v a b : Int32) : isW v a b = 0 ∨ isW v a b = 1 := by
  unfold isW
  by_cases h1 : v < a
  · exact Or.inl (if_pos h1)
  · rw [if_neg h1]
    by_cases h2 : b < v
    · exact Or.inl (if_pos h2)
    · exact Or.inr (if_neg h2)
theorem isW_1 {v a b : Int32} (h : ¬ isW v a b = 0) : isW v a b = 1 := (isW_01 v a b).elim (fun q => absurd q h) id
theorem held_w (v : Int32) : isW (sHeld v 0 20) 0 20 = 1 := by
  rw [isW_iff]
  unfold sHeld maxI minI
  have e0 : (0 : Int32).toInt = 0 := rfl
  have e20 : (20 : Int32).toInt = 20 := rfl
  by_cases h1 : v < 20
  · rw [if_pos h1]
    by_cases h2 : (0 : Int32) < v
    · rw [if_pos h2]
      rw [fc_lt] at h1 h2
      omega
    · rw [if_neg h2]; decide
  · rw [if_neg h1, if_pos (by decide)]; decide
def mOk (t : Ter) : Prop := ∀ j, j < 8 → isW (tMood t j) 0 20 = 1
theorem upd_ok {f : Nat → Int32} {k : Nat} {v a b : Int32} (h : ∀ j, j < 8 → isW (f j) a b = 1) (hv : isW v a b = 1) : ∀ j, j < 8 → isW (upd f k v j) a b = 1 := by
  intro j hj
  by_cases q : j = k
  · rw [q, pk_us]; exact hv
  · rw [pk_un q]; exact h j hj
theorem goHour_mood {t : Ter} (h : mOk t) : mOk (goHour t) := by
  unfold goHour
  by_cases h1 : sRest (tHour t) = 0
  · rw [if_pos h1]
    by_cases h2 : tRang t = -1
    · rw [if_pos h2]; exact h
    · rw [if_neg h2]
      exact upd_ok h (held_w _)
  · rw [if_neg h1]; exact h
theorem goHs_mood : ∀ (n : Nat) {t : Ter}, mOk t → mOk (goHs n t)
  | 0, _, h => h
  | n + 1, _, h => goHs_mood n (goHour_mood h)
theorem sum_bd {f : Nat → Int32} (h : ∀ j, j < 8 → isW (f j) 0 20 = 1) : ∀ n, n ≤ 8 → 0 ≤ (sumN f n).toInt ∧ (sumN f n).toInt ≤ 20 * n
  | 0, _ => ⟨by show (0 : Int) ≤ (0 : Int32).toInt; decide, by show (0 : Int32).toInt ≤ 20 * ((0 : Nat) : Int); decide⟩
  | n + 1, hn => by
    have ih := sum_bd h n (by omega)
    have q := isW_iff.mp (h n (by omega))
    rw [show (0 : Int32).toInt = 0 from rfl, show (20 : Int32).toInt = 20 from rfl] at q
    rw [sumN, Int32.toInt_add, Int.bmod_eq_of_le (by omega) (by omega)]
    omega
theorem sum_pos {t : Ter} (h : mOk t) : ¬ sumN (tMood t) 8 ≤ -1 := by
  have q := sum_bd h 8 (by omega)
  rw [fc_le, show (-1 : Int32).toInt = -1 from rfl]
  omega
theorem bst_2 {f : Nat → Int32} (h0 : ¬ f 0 ≤ -1) : (bst f 2).1 = if f 1 ≤ f 0 then 0 else 1 := by
  have e1 : bst f 1 = (nI 0, f 0) := by rw [bst, show bst f 0 = (0, -1) from rfl, if_neg h0]
  rw [bst, e1]
  by_cases h : f 1 ≤ f 0
  · rw [if_pos h, if_pos h]; rfl
  · rw [if_neg h, if_neg h]; rfl
theorem hour_w {h : Int32} (hh : isW h 0 99999 = 1) {N : Nat} (hN : N ≤ 100) : (h ≤ 99999 - nI N) ↔ (h + nI N ≤ 99999) := by
  have q := isW_iff.mp hh
  rw [show (0 : Int32).toInt = 0 from rfl, show (99999 : Int32).toInt = 99999 from rfl] at q
  have e : (nI N).toInt = N := nI_toInt (by omega)
  rw [fc_le, fc_le, Int32.toInt_sub, Int32.toInt_add, e, show (99999 : Int32).toInt = 99999 from rfl, Int.bmod_eq_of_le (by omega) (by omega), Int.bmod_eq_of_le (by omega) (by omega)]
  omega
