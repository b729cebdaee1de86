/-! sheets -/
def narL (b : Int32) (v : Int64) : Int64 := if b = 8 then v.toInt32.toInt8.toInt32.toInt64 else if b = 16 then v.toInt32.toInt16.toInt32.toInt64 else v
def isBt (b : Int32) : Int32 := if b = 0 then 1 else if b = 8 then 1 else if b = 16 then 1 else if b = 64 then 1 else 0
def upN (m : Nat → Nat → Int64) (j : Nat) (f : Nat → Int64) : Nat → Nat → Int64 := fun k => if k = j then f else m k
def hsp (z f n : Int32) : Int32 := if n < 0 then 0 else if z < n then 0 else if f < 0 then 0 else if z - n < f then 0 else 1
abbrev cBits (c : Cor) : Nat → Int32 := c.2.2.2.2.2.1
abbrev cSize (c : Cor) : Nat → Int32 := c.2.2.2.2.2.2.1
abbrev cNums (c : Cor) : Nat → Nat → Int64 := c.2.2.2.2.2.2.2.1
def cSh (c : Cor) (j : Nat) (b z : Int32) (f : Nat → Int64) : Cor := (c.1, c.2.1, c.2.2.1, c.2.2.2.1, c.2.2.2.2.1, upd (cBits c) j b, upd (cSize c) j z, upN (cNums c) j f, c.2.2.2.2.2.2.2.2)
def cNm (c : Cor) (j : Nat) (f : Nat → Int64) : Cor := (c.1, c.2.1, c.2.2.1, c.2.2.2.1, c.2.2.2.2.1, c.2.2.2.2.2.1, c.2.2.2.2.2.2.1, upN (cNums c) j f, c.2.2.2.2.2.2.2.2)
def laySz (b n : Int32) : Int32 := if b = 0 then 0 else n
def sp_sheet (c : Cor) (s b n : Int32) : Int32 × Cor := if isW s 0 3 = 0 then cB (-1000000001) c else if isBt b = 0 then cB (-1000000001) c else if 0 ≤ n then (if n ≤ 40 then (laySz b n, cSh c s.toNatClampNeg b (laySz b n) (fun _ => 0)) else cB (-1000000001) c) else cB (-1000000007) c
def cBl (f : Int32) (c : Cor) : Int64 × Cor := (f.toInt64, (cB f c).2)
def sp_write (c : Cor) (s i : Int32) (v : Int64) : Int64 × Cor := if isW s 0 3 = 0 then cBl (-1000000001) c else if cBits c s.toNatClampNeg = 0 then cBl (-1000000006) c else if i < 0 then cBl (-1000000001) c else if i < cSize c s.toNatClampNeg then (cNums c s.toNatClampNeg i.toNatClampNeg, cNm c s.toNatClampNeg (vp_updL (cNums c s.toNatClampNeg) i.toNatClampNeg (narL (cBits c s.toNatClampNeg) v))) else cBl (-1000000001) c
def sp_copy (c : Cor) (s f t o n : Int32) : Int32 × Cor := if isW s 0 3 = 0 then cB (-1000000001) c else if isW t 0 3 = 0 then cB (-1000000001) c else if cBits c s.toNatClampNeg = 0 then cB (-1000000006) c else if cBits c t.toNatClampNeg = 0 then cB (-1000000006) c else if cBits c s.toNatClampNeg = cBits c t.toNatClampNeg then (if hsp (cSize c s.toNatClampNeg) f n = 0 then cB (-1000000001) c else if hsp (cSize c t.toNatClampNeg) o n = 0 then cB (-1000000001) c else (n, cNm c t.toNatClampNeg (va_cpy (cNums c s.toNatClampNeg) (cNums c t.toNatClampNeg) f.toNatClampNeg o.toNatClampNeg n.toNatClampNeg))) else cB (-1000000003) c
/-- numbers become moods: the first n places -/
def layS (m : Nat → Int64) : Nat → (Nat → Int32) × Int32 → (Nat → Int32) × Int32
  | 0, s => s
  | n + 1, s => if inL (m n) 0 20 = 0 then layS m n s else (upd (layS m n s).1 n (m n).toInt32, (layS m n s).2 + 1)
def cMo (c : Cor) (f : Nat → Int32) : Cor := ((c.1.1, c.1.2.1, c.1.2.2.1, c.1.2.2.2.1, c.1.2.2.2.2.1, c.1.2.2.2.2.2.1, c.1.2.2.2.2.2.2.1, c.1.2.2.2.2.2.2.2.1, f, c.1.2.2.2.2.2.2.2.2.2), c.2)
def min8 (z : Nat) : Nat := if z ≤ 8 then z else 8
def sp_lays (c : Cor) (s : Int32) : Int32 × Cor := if isW s 0 3 = 0 then cB (-1000000001) c else if cBits c s.toNatClampNeg = 0 then cB (-1000000006) c else ((layS (cNums c s.toNatClampNeg) (min8 (cSize c s.toNatClampNeg).toNatClampNeg) (tMood c.1, 0)).2, cMo c (layS (cNums c s.toNatClampNeg) (min8 (cSize c s.toNatClampNeg).toNatClampNeg) (tMood c.1, 0)).1)
def bkN (b : Int32) (t : Ter) (m : Nat → Int64) : Nat → Nat → Int64
  | 0 => m
  | n + 1 => vp_updL (bkN b t m n) n (narL b (tRang (goHs n t)).toInt64)
def sp_book (c : Cor) (s : Int32) : Int32 × Cor := if isW s 0 3 = 0 then cB (-1000000001) c else if cBits c s.toNatClampNeg = 0 then cB (-1000000006) c else (cSize c s.toNatClampNeg, cNm c s.toNatClampNeg (bkN (cBits c s.toNatClampNeg) c.1 (cNums c s.toNatClampNeg) (cSize c s.toNatClampNeg).toNatClampNeg))
/-- do the numbers from i on, n of them, ring as the terrace does -/
def rgL (m : Nat → Int64) : Nat → Nat → Ter → Int32
  | 0, _, _ => 1
  | n + 1, i, u => if m i = (tRang u).toInt64 then rgL m n (i + 1) (goHour u) else 0
def tKM (t : Ter) (h : Nat) (k m : Int32) : Ter := (t.1, t.2.1, t.2.2.1, t.2.2.2.1, t.2.2.2.2.1, t.2.2.2.2.2.1, t.2.2.2.2.2.2.1, upd (tKind t) h k, upd (tMood t) h m, t.2.2.2.2.2.2.2.2.2)
def rdC (m : Nat → Int64) (z : Nat) (t : Ter) (h : Nat) : Nat → Int32
  | 0 => 0
  | n + 1 => if rgL m z 0 (tKM t h (nI (n / 21)) (nI (n % 21))) = 0 then rdC m z t h n else rdC m z t h n + 1
def sp_read (c : Cor) (s h : Int32) : Int32 × Cor := if isW s 0 3 = 0 then cB (-1000000001) c else if cBits c s.toNatClampNeg = 0 then cB (-1000000006) c else if isW h 0 7 = 0 then cB (-1000000001) c else (rdC (cNums c s.toNatClampNeg) (cSize c s.toNatClampNeg).toNatClampNeg c.1 h.toNatClampNeg 126, c)
theorem goHs_succ : ∀ (n : Nat) (t : Ter), goHs (n + 1) t = goHour (goHs n t)
  | 0, _ => rfl
  | n + 1, t => by
    show goHs (n + 1) (goHour t) = goHour (goHs n (goHour t))
    exact goHs_succ n (goHour t)
theorem xleafl {E : gE} {a : Nat → Nat} {sp : Int64 × Cor} {r : Int64} {C : Cor} {G : Gar} (h : sp = (r, C)) : ∃ g', r = sp.1 ∧ xW E a C G = xW E a sp.2 g' := ⟨G, by rw [h], by rw [h]⟩
theorem mleafl {E : gE} {a : Nat → Nat} {sp : Int64 × Cor} {r : Int64} {C : Cor} {G : Mar} (h : sp = (r, C)) : ∃ g', r = sp.1 ∧ mW E a C G = mW E a sp.2 g' := ⟨G, by rw [h], by rw [h]⟩
theorem sz_nI {c : Cor} (hok : cOk c) {j : Nat} (hj : j < 4) : ∃ Z : Nat, Z ≤ 40 ∧ c.2.2.2.2.2.2.1 j = nI Z := isW_nI 40 (by rw [show (nI 40 : Int32) = 40 from rfl, hok.2.2.2 j hj]; decide) (by decide)
theorem fil40 {f g : Nat → Int64} (n : Nat) : ∀ j, j < n → (fun k => if k < n then f k else g k) j = f j := fun j hj => if_pos hj
abbrev shW (E : gE) (a : Nat → Nat) (s : Int32 × Int32 × (Nat → Int64)) : va_W := [(a 0, .inr (0, [.int s.1, .int s.2.1, .ref (a 1)])), (a 1, .inl (gJ E, 40, .inr (.inl s.2.2)))]
/-- the first i places hold v -/
def filC (v : Int64) (g : Nat → Int64) (i : Nat) : Nat → Int64 := fun j => if j < i then v else g j
theorem filC_0 (v : Int64) (g : Nat → Int64) : filC v g 0 = g := by
  funext j
  unfold filC
  rw [if_neg (Nat.not_lt_zero j)]
theorem filC_s (v : Int64) (g : Nat → Int64) (i : Nat) : vp_updL (filC v g i) i v = filC v g (i + 1) := by
  funext j
  unfold vp_updL filC
  by_cases h : j = i
  · rw [if_pos h, if_pos (by omega)]
  · rw [if_neg h]
    by_cases h2 : j < i
    · rw [if_pos h2, if_pos (by omega)]
    · rw [if_neg h2, if_neg (by omega)]
/-- the first i places hold v -/
def filI (v : Int32) (g : Nat → Int32) (i : Nat) : Nat → Int32 := fun j => if j < i then v else g j
theorem filI_0 (v : Int32) (g : Nat → Int32) : filI v g 0 = g := by
  funext j
  unfold filI
  rw [if_neg (Nat.not_lt_zero j)]
theorem filI_s (v : Int32) (g : Nat → Int32) (i : Nat) : upd (filI v g i) i v = filI v g (i + 1) := by
  funext j
  unfold upd filI
  by_cases h : j = i
  · rw [if_pos h, if_pos (by omega)]
  · rw [if_neg h]
    by_cases h2 : j < i
    · rw [if_pos h2, if_pos (by omega)]
    · rw [if_neg h2, if_neg (by omega)]
