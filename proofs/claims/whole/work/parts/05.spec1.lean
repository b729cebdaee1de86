/-! what a terrace is, and what its hours do: hour, at, way, tray, rang, crack, takings, kinds, moods, pence, ate -/
abbrev Ter : Type := Int32 × Int32 × Int32 × Int32 × Int32 × Int32 × Int32 × (Nat → Int32) × (Nat → Int32) × (Nat → Int32) × (Nat → Int32)
abbrev tHour (t : Ter) : Int32 := t.1
abbrev tAt (t : Ter) : Int32 := t.2.1
abbrev tWay (t : Ter) : Int32 := t.2.2.1
abbrev tTray (t : Ter) : Int32 := t.2.2.2.1
abbrev tRang (t : Ter) : Int32 := t.2.2.2.2.1
abbrev tCrack (t : Ter) : Int32 := t.2.2.2.2.2.1
abbrev tTak (t : Ter) : Int32 := t.2.2.2.2.2.2.1
abbrev tKind (t : Ter) : Nat → Int32 := t.2.2.2.2.2.2.2.1
abbrev tMood (t : Ter) : Nat → Int32 := t.2.2.2.2.2.2.2.2.1
abbrev tPen (t : Ter) : Nat → Int32 := t.2.2.2.2.2.2.2.2.2.1
abbrev tAte (t : Ter) : Nat → Int32 := t.2.2.2.2.2.2.2.2.2.2
abbrev tW (E : gE) (a : Nat → Nat) (t : Ter) : va_W := [(a 0, .inr (2, [.int t.1, .int t.2.1, .int t.2.2.1, .int t.2.2.2.1, .int t.2.2.2.2.1, .int t.2.2.2.2.2.1, .int t.2.2.2.2.2.2.1, .ref (a 1), .ref (a 2), .ref (a 3), .ref (a 4)])), (a 1, .inl (gI E, 8, .inl t.2.2.2.2.2.2.2.1)), (a 2, .inl (gI E, 8, .inl t.2.2.2.2.2.2.2.2.1)), (a 3, .inl (gI E, 8, .inl t.2.2.2.2.2.2.2.2.2.1)), (a 4, .inl (gI E, 8, .inl t.2.2.2.2.2.2.2.2.2.2))]
abbrev t2W (E : gE) (a : Nat → Nat) (t u : Ter) : va_W := [(a 0, .inr (2, [.int t.1, .int t.2.1, .int t.2.2.1, .int t.2.2.2.1, .int t.2.2.2.2.1, .int t.2.2.2.2.2.1, .int t.2.2.2.2.2.2.1, .ref (a 1), .ref (a 2), .ref (a 3), .ref (a 4)])), (a 1, .inl (gI E, 8, .inl t.2.2.2.2.2.2.2.1)), (a 2, .inl (gI E, 8, .inl t.2.2.2.2.2.2.2.2.1)), (a 3, .inl (gI E, 8, .inl t.2.2.2.2.2.2.2.2.2.1)), (a 4, .inl (gI E, 8, .inl t.2.2.2.2.2.2.2.2.2.2)), (a 5, .inr (2, [.int u.1, .int u.2.1, .int u.2.2.1, .int u.2.2.2.1, .int u.2.2.2.2.1, .int u.2.2.2.2.2.1, .int u.2.2.2.2.2.2.1, .ref (a 6), .ref (a 7), .ref (a 8), .ref (a 9)])), (a 6, .inl (gI E, 8, .inl u.2.2.2.2.2.2.2.1)), (a 7, .inl (gI E, 8, .inl u.2.2.2.2.2.2.2.2.1)), (a 8, .inl (gI E, 8, .inl u.2.2.2.2.2.2.2.2.2.1)), (a 9, .inl (gI E, 8, .inl u.2.2.2.2.2.2.2.2.2.2))]
def isW (v a b : Int32) : Int32 := if v < a then 0 else if b < v then 0 else 1
def gayT (p : Int32) : Int32 := if 6 ≤ p then 6 else p + 1
def graveT (p : Int32) : Int32 := if p ≤ 2 then 0 else p - 2
def sTone (k m h : Int32) : Int32 := if k = 1 then gayT (m / 3) else if k = 2 then graveT (m / 3) else if k = 3 then 3 else if k = 4 then (if h - h / 3 * 3 = 1 then 0 else gayT (m / 3)) else if k = 5 then (if 12 ≤ m then graveT (m / 3) else 0) else m / 3
def plainM (r o : Int32) : Int32 := if r ≤ o then (if o ≤ r then 0 else -1) else 1
def gayM (r p : Int32) : Int32 := if r ≤ 3 then p else p + 1
def sMind (k r o : Int32) : Int32 := if k = 1 then gayM r (plainM r o) else if k = 2 then -1 else if k = 3 then (if r - r / 2 * 2 = 1 then -2 else 1) else if k = 4 then 2 * gayM r (plainM r o) else if k = 5 then (if r = 0 then 0 else -1) else plainM r o
def gayW (r : Int32) : Int32 := if r ≤ 4 then 1 else 1 + 1
def graveW (r : Int32) : Int32 := if 2 ≤ r then 1 else 3
def sWant (k r : Int32) : Int32 := if k = 1 then gayW r else if k = 2 then graveW r else if k = 3 then (if r - r / 2 * 2 = 1 then 0 else 1) else if k = 4 then gayW r + 1 else if k = 5 then 2 * graveW r else 1
def sHeld (v a b : Int32) : Int32 := maxI a (minI b v)
def sAbove (k : Int32) : Int32 := if k = 1 then 0 else if k = 2 then 0 else if k = 3 then 0 else if k = 4 then 1 else if k = 5 then 2 else -1
/-- is a kind one of another: n steps more -/
def oneOf : Nat → Int32 → Int32 → Int32
  | 0, _, _ => 0
  | n + 1, k, w => if k = -1 then 0 else if k = w then 1 else oneOf n (sAbove k) w
def sRest (h : Int32) : Int32 := if h - h / 5 * 5 = 4 then 1 else 0
def toneAt (t : Ter) (h : Int32) : Int32 := sTone (tKind t h.toNatClampNeg) (tMood t h.toNatClampNeg) (tHour t)
def mindAt (t : Ter) (h r : Int32) : Int32 := sMind (tKind t h.toNatClampNeg) r (sTone (tKind t h.toNatClampNeg) (tMood t h.toNatClampNeg) (tHour t))
def buyAt (t : Ter) (h r : Int32) : Int32 := minI (sWant (tKind t h.toNatClampNeg) r) (minI (tPen t h.toNatClampNeg / 2) (tTray t))
def hbMood (t : Ter) : Ter := (t.1, t.2.1, t.2.2.1, t.2.2.2.1, t.2.2.2.2.1, t.2.2.2.2.2.1, t.2.2.2.2.2.2.1, t.2.2.2.2.2.2.2.1, upd (tMood t) (tAt t).toNatClampNeg (sHeld (tMood t (tAt t).toNatClampNeg + mindAt t (tAt t) (tRang t)) 0 20), t.2.2.2.2.2.2.2.2.2.1, t.2.2.2.2.2.2.2.2.2.2)
def hbBuy (t : Ter) (m : Int32) : Ter := (t.1, t.2.1, t.2.2.1, tTray t - m, t.2.2.2.2.1, t.2.2.2.2.2.1, minI 99999 (tTak t + 2 * m), t.2.2.2.2.2.2.2.1, t.2.2.2.2.2.2.2.2.1, upd (tPen t) (tAt t).toNatClampNeg (tPen t (tAt t).toNatClampNeg - 2 * m), upd (tAte t) (tAt t).toNatClampNeg (minI 9999 (tAte t (tAt t).toNatClampNeg + m)))
def hearBuy (t : Ter) : Ter := hbBuy (hbMood t) (buyAt (hbMood t) (tAt t) (tRang t))
def sListen (t : Ter) : Ter := (t.1, t.2.1, t.2.2.1, t.2.2.2.1, if tCrack t < 50 then toneAt t (tAt t) else 3, minI 99 (tCrack t + 1), t.2.2.2.2.2.2)
def stepW (w : Int32) : Int32 := if w = 1 then 1 else 7
def sWalk (t : Ter) : Ter := (t.1, (tAt t + stepW (tWay t)) - (tAt t + stepW (tWay t)) / 8 * 8, t.2.2)
def nextH (t : Ter) : Ter := (t.1 + 1, t.2)
def goHour (t : Ter) : Ter := if sRest (tHour t) = 0 then (if tRang t = -1 then nextH (sWalk (sListen t)) else nextH (sWalk (sListen (hearBuy t)))) else nextH t
def goHs : Nat → Ter → Ter
  | 0, t => t
  | n + 1, t => goHs n (goHour t)
def swp (f : Nat → Int32) (h o : Int32) : Nat → Int32 := upd (upd f o.toNatClampNeg (f h.toNatClampNeg)) h.toNatClampNeg (f o.toNatClampNeg)
def chFam (t : Ter) (h o : Int32) : Ter := (t.1, t.2.1, t.2.2.1, t.2.2.2.1, t.2.2.2.2.1, t.2.2.2.2.2.1, t.2.2.2.2.2.2.1, swp (tKind t) h o, swp (tMood t) h o, swp (tPen t) h o, swp (tAte t) h o)
/-- sum of the first n -/
def sumN (f : Nat → Int32) : Nat → Int32
  | 0 => 0
  | n + 1 => sumN f n + f n
/-- how many of the first n aren't 0 -/
def cntN (f : Nat → Int32) : Nat → Int32
  | 0 => 0
  | n + 1 => if f n = 0 then cntN f n else cntN f n + 1
