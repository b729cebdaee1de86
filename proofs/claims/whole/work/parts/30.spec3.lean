/-! what each call answers and makes of what is kept -/
abbrev aB : Int32 := -1000000001
def cB (f : Int32) (c : Cor) : Int32 × Cor := (f, c.1, c.2.1, c.2.2.1, c.2.2.2.1, c.2.2.2.2.1, c.2.2.2.2.2.1, c.2.2.2.2.2.2.1, c.2.2.2.2.2.2.2.1, bump f c.2.2.2.2.2.2.2.2)
def sp_man (c : Cor) (w v : Int32) : Int32 × Cor := if isHis w v = 0 then cB (-1000000001) c else (enc c.1 (1 + w).toNatClampNeg, tPut c.1 (1 + w).toNatClampNeg v, c.2)
def sp_now (c : Cor) (w : Int32) : Int32 × Cor := if isW w 0 7 = 0 then cB (-1000000001) c else if 7 ≤ w then (sRest c.1.1, c) else (enc c.1 w.toNatClampNeg, c)
def sp_of (c : Cor) (h w : Int32) : Int32 × Cor := if isW h 0 7 = 0 then cB (-1000000001) c else if isW w 0 4 = 0 then cB (-1000000001) c else if 3 < w then (toneAt c.1 h, c) else (enc c.1 (spot h w).toNatClampNeg, c)
def sp_minds (c : Cor) (h t : Int32) : Int32 × Cor := if isW h 0 7 = 0 then cB (-1000000001) c else if isW t 0 6 = 0 then cB (-1000000001) c else (100 + mindAt c.1 h t, c)
def sp_buys (c : Cor) (h t : Int32) : Int32 × Cor := if isW h 0 7 = 0 then cB (-1000000001) c else if isW t 0 6 = 0 then cB (-1000000001) c else (buyAt c.1 h t, c)
def setLim (w : Int32) : Int32 := if w = 1 then 20 else if w = 2 then 999 else 9999
def sp_set (c : Cor) (h w v : Int32) : Int32 × Cor := if isW h 0 7 = 0 then cB (-1000000001) c else if isW w 1 3 = 0 then cB (-1000000001) c else if isW v 0 (setLim w) = 0 then cB (-1000000001) c else (enc c.1 (spot h w).toNatClampNeg, tPut c.1 (spot h w).toNatClampNeg v, c.2)
def sp_turn (c : Cor) (h k : Int32) : Int32 × Cor := if isW h 0 7 = 0 then cB (-1000000001) c else if isW k 0 5 = 0 then cB (-1000000001) c else (enc c.1 (spot h 0).toNatClampNeg, tPut c.1 (spot h 0).toNatClampNeg k, c.2)
def sp_as (c : Cor) (h k : Int32) : Int32 × Cor := if isW h 0 7 = 0 then cB (-1000000001) c else if isW k 0 5 = 0 then cB (-1000000001) c else if oneOf 6 (tKind c.1 h.toNatClampNeg) k = 0 then cB (-1000000003) c else (tMood c.1 h.toNatClampNeg, c)
def sp_move (c : Cor) (h o : Int32) : Int32 × Cor := if isW h 0 7 = 0 then cB (-1000000001) c else if isW o 0 7 = 0 then cB (-1000000001) c else if h = o then cB (-1000000001) c else (1, chFam c.1 h o, c.2)
def sp_hours (c : Cor) (n : Int32) : Int32 × Cor := if isW n 1 100 = 0 then cB (-1000000001) c else if c.1.1 + n ≤ 99999 then (tTak (goHs n.toNatClampNeg c.1), goHs n.toNatClampNeg c.1, c.2) else cB (-1000000005) c
def sp_on (c : Cor) (h n w : Int32) : Int32 × Cor := if isW h 0 7 = 0 then cB (-1000000001) c else if isW n 0 200 = 0 then cB (-1000000001) c else if isW w 0 1 = 0 then cB (-1000000001) c else if w = 0 then (tMood (goHs n.toNatClampNeg c.1) h.toNatClampNeg, c) else (tAte (goHs n.toNatClampNeg c.1) h.toNatClampNeg, c)
def sp_rang (c : Cor) (n : Int32) : Int32 × Cor := if isW n 0 200 = 0 then cB (-1000000001) c else (tRang (goHs n.toNatClampNeg c.1), c)
def sp_takings (c : Cor) (n : Int32) : Int32 × Cor := if isW n 0 200 = 0 then cB (-1000000001) c else (tTak (goHs n.toNatClampNeg c.1), c)
def sp_moods (c : Cor) (n : Int32) : Int32 × Cor := if isW n 0 200 = 0 then cB (-1000000001) c else (sumN (tMood (goHs n.toNatClampNeg c.1)) 8, c)
def cF (k : Nat) (v : Int32) (c : Cor) : Int32 × Cor := if fstAs k v 201 c.1 ≤ 200 then (nI (fstAs k v 201 c.1), c) else cB (-1000000004) c
def sp_empty (c : Cor) : Int32 × Cor := cF 3 0 c
def sp_comes (c : Cor) (h : Int32) : Int32 × Cor := if isW h 0 7 = 0 then cB (-1000000001) c else cF 1 h c
def sp_when (c : Cor) (t : Int32) : Int32 × Cor := if isW t 0 6 = 0 then cB (-1000000001) c else cF 4 t c
def sp_begin (c : Cor) (n : Int32) : Int32 × Cor := if isW n 1 60 = 0 then cB (-1000000001) c else ((bst (fun v => tTak (goHs n.toNatClampNeg (tPut c.1 1 (nI v)))) 8).1, c)
def sp_way (c : Cor) (n : Int32) : Int32 × Cor := if isW n 1 60 = 0 then cB (-1000000001) c else ((bst (fun v => sumN (tMood (goHs n.toNatClampNeg (tPut c.1 2 (nI v)))) 8) 2).1, c)
def sp_mood (c : Cor) (h n : Int32) : Int32 × Cor := if isW h 0 7 = 0 then cB (-1000000001) c else if isW n 1 60 = 0 then cB (-1000000001) c else ((bst (fun v => tTak (goHs n.toNatClampNeg (tPut c.1 (spot h 1).toNatClampNeg (nI v)))) 21).1, c)
def sp_kind (c : Cor) (h n : Int32) : Int32 × Cor := if isW h 0 7 = 0 then cB (-1000000001) c else if isW n 1 60 = 0 then cB (-1000000001) c else ((bst (fun v => tAte (goHs n.toNatClampNeg (tPut c.1 (spot h 0).toNatClampNeg (nI v))) h.toNatClampNeg) 6).1, c)
/-- the first place from i on, of n, where b holds; -1: none -/
def frst (b : Nat → Bool) : Nat → Nat → Int32
  | 0, _ => -1
  | n + 1, i => if b i = true then nI i else frst b n (i + 1)
/-- the last place below n where b holds; -1: none -/
def brst (b : Nat → Bool) : Nat → Int32
  | 0 => -1
  | n + 1 => if b n = true then nI n else brst b n
def cN (r : Int32) (c : Cor) : Int32 × Cor := if 0 ≤ r then (r, c) else cB (-1000000004) c
def enB (t : Ter) (N : Nat) (v : Nat) : Bool := decide (0 < tTray (goHs N (tPut t 3 (nI v))))
def beB (t : Ter) (N : Nat) (v : Int32) (k : Nat) : Bool := decide (v ≤ tTak (goHs N (tPut t 5 (nI k))))
def sp_enough (c : Cor) (n : Int32) : Int32 × Cor := if isW n 1 60 = 0 then cB (-1000000001) c else cN (frst (enB c.1 n.toNatClampNeg) 200 0) c
def sp_bears (c : Cor) (n v : Int32) : Int32 × Cor := if isW n 1 60 = 0 then cB (-1000000001) c else if isW v 0 99999 = 0 then cB (-1000000001) c else cN (brst (beB c.1 n.toNatClampNeg v) 100) c
def swS (t : Ter) (N : Nat) (s : Int32 × Int32) (h o : Nat) : Int32 × Int32 := if sumN (tMood (goHs N (chFam t (nI h) (nI o)))) 8 ≤ s.2 then s else (10 * nI h + nI o, sumN (tMood (goHs N (chFam t (nI h) (nI o)))) 8)
def swI (t : Ter) (N h : Nat) : Nat → Nat → Int32 × Int32 → Int32 × Int32
  | 0, _, s => s
  | n + 1, o, s => swI t N h n (o + 1) (swS t N s h o)
def swO (t : Ter) (N : Nat) : Nat → Nat → Int32 × Int32 → Int32 × Int32
  | 0, _, s => s
  | n + 1, h, s => swO t N n (h + 1) (swI t N h (7 - h) (h + 1) s)
def sp_swap (c : Cor) (n : Int32) : Int32 × Cor := if isW n 1 60 = 0 then cB (-1000000001) c else cN (swO c.1 n.toNatClampNeg 8 0 (-1, sumN (tMood (goHs n.toNatClampNeg c.1)) 8)).1 c
def sadL (m : Nat → Int32) : Nat → Nat → Nat → Nat
  | 0, _, b => b
  | n + 1, i, b => sadL m n (i + 1) (if m b ≤ m i then b else i)
def sp_saddest (c : Cor) (n : Int32) : Int32 × Cor := if isW n 0 200 = 0 then cB (-1000000001) c else (nI (sadL (tMood (goHs n.toNatClampNeg c.1)) 7 1 0), c)
def sp_wipe (c : Cor) : Int32 × Cor := (c.2.2.2.2.1, c.1, c.2.1, c.2.2.1, c.2.2.2.1, 0, c.2.2.2.2.2)
def sp_image (c : Cor) : Int32 × Cor := (1, c.1, c.1, 1, c.2.2.2)
def sp_undo (c : Cor) : Int32 × Cor := if c.2.2.1 = 0 then cB (-1000000004) c else (c.2.1.1, c.2.1, c.2)
def sp_tear (c : Cor) : Int32 × Cor := (if c.2.2.1 = 0 then 0 else 1, c.1, c.2.1, 0, c.2.2.2)
def sp_count (c : Cor) (w : Int32) : Int32 × Cor := if w = 0 then (cntN (tKind c.1) 8, c) else if w = 1 then (c.2.2.2.2.1, c) else if w = 2 then (sumN (tMood c.1) 8, c) else if w = 3 then (sumN (tAte c.1) 8, c) else cB (-1000000001) c
def sp_status (c : Cor) (w : Int32) : Int32 × Cor := if w = -1 then (sumN c.2.2.2.2.2.2.2.2 7, c) else if isW w 0 6 = 0 then cB (-1000000001) c else (c.2.2.2.2.2.2.2.2 w.toNatClampNeg, c)
/-- what must hold of what is kept -/
def tOk (t : Ter) : Prop := vp_in (tAt t) 8 ∧ (∀ j, j < 8 → isW (tKind t j) 0 5 = 1) ∧ (∀ j, j < 8 → isW (tMood t j) 0 20 = 1) ∧ isW (tHour t) 0 99999 = 1
def cOk (c : Cor) : Prop := tOk c.1 ∧ tOk c.2.1 ∧ isW c.2.2.2.2.1 0 120 = 1 ∧ ∀ s, s < 4 → isW (c.2.2.2.2.2.2.1 s) 0 40 = 1
theorem xleaf {E : gE} {a : Nat → Nat} {sp : Int32 × Cor} {r : Int32} {C : Cor} {G : Gar} (h : sp = (r, C)) : ∃ g', r = sp.1 ∧ xW E a C G = xW E a sp.2 g' := ⟨G, by rw [h], by rw [h]⟩
theorem mleaf {E : gE} {a : Nat → Nat} {sp : Int32 × Cor} {r : Int32} {C : Cor} {G : Mar} (h : sp = (r, C)) : ∃ g', r = sp.1 ∧ mW E a C G = mW E a sp.2 g' := ⟨G, by rw [h], by rw [h]⟩
theorem vp_isW {x : Int32} (N : Nat) (h : vp_in x (N + 1)) (hN : N + 1 < 2 ^ 31) : ¬ isW x 0 (nI N) = 0 := by
  obtain ⟨j, hj, rfl⟩ := vp_in_of h hN
  rw [isW_one]
  · decide
  · exact nI_pos (by omega)
  · rw [nI_ltI (by omega) (by omega)]; omega
theorem isW_nI1 {v : Int32} (N : Nat) (h : ¬ isW v 1 (nI N) = 0) (hN : N < 2 ^ 31) : ∃ j : Nat, 1 ≤ j ∧ j ≤ N ∧ v = nI j := by
  obtain ⟨h1, h2⟩ := isW_ne0 h
  have h3 : ¬ v < 0 := by
    rw [fc_lt] at h1 ⊢
    rw [show (1 : Int32).toInt = 1 from rfl] at h1
    rw [show (0 : Int32).toInt = 0 from rfl]
    omega
  obtain ⟨j, hj, rfl⟩ := nI_w N h3 h2 hN
  refine ⟨j, ?_, hj, rfl⟩
  rw [show (1 : Int32) = nI 1 from rfl, nI_ltI (by omega) (by decide)] at h1
  omega
theorem sRest_b (h : Int32) : sRest h = 0 ∨ sRest h = 1 := by
  unfold sRest
  by_cases q : h - h / 5 * 5 = 4
  · exact Or.inr (if_pos q)
  · exact Or.inl (if_neg q)
