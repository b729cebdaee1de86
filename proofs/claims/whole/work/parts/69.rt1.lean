/-- the byte at a place, -1 past the end -/
def btA (b : Nat → Int32) (T p : Nat) : Int32 := if T ≤ p then -1 else b p
theorem bt_in {b : Nat → Int32} {T p : Nat} (h : ¬ T ≤ p) : btA b T p = b p := if_neg h
theorem bt_out {b : Nat → Int32} {T p : Nat} (h : T ≤ p) : btA b T p = -1 := if_pos h
theorem bt_is {b : Nat → Int32} {T p : Nat} {x : Int32} (hx : ¬ x = -1) (h : btA b T p = x) : ¬ T ≤ p ∧ b p = x := by
  by_cases q : T ≤ p
  · rw [bt_out q] at h; exact absurd h.symm hx
  · rw [bt_in q] at h; exact ⟨q, h⟩
theorem bt_W {b : Nat → Int32} {T p : Nat} {lo hi : Int32} (h0 : isW (-1) lo hi = 0) (h : ¬ isW (btA b T p) lo hi = 0) : ¬ T ≤ p ∧ ¬ isW (b p) lo hi = 0 := by
  by_cases q : T ≤ p
  · rw [bt_out q] at h; exact absurd h0 h
  · rw [bt_in q] at h; exact ⟨q, h⟩
theorem sk_stop {b : Nat → Int32} {T p : Nat} {lo hi : Int32} (h : isW (btA b T p) lo hi = 0) : skA b lo hi T p = p := by
  by_cases q : T ≤ p
  · exact skA_out q
  · rw [bt_in q] at h
    unfold isW at h
    by_cases h0 : b p < lo
    · exact skA_lo h0
    · rw [if_neg h0] at h
      by_cases h1 : hi < b p
      · exact skA_hi h0 h1
      · rw [if_neg h1] at h; exact absurd h (by decide)
theorem sk_go {b : Nat → Int32} {T p : Nat} {lo hi : Int32} (h0 : isW (-1) lo hi = 0) (h : ¬ isW (btA b T p) lo hi = 0) : ¬ T ≤ p ∧ skA b lo hi T p = skA b lo hi T (p + 1) := by
  obtain ⟨q, r⟩ := bt_W h0 h
  obtain ⟨h1, h2⟩ := isW_ne0 r
  exact ⟨q, skA_s q h1 h2⟩
theorem sp_go {b : Nat → Int32} {T p : Nat} (h : btA b T p = 32) : ¬ T ≤ p ∧ tkS b T p = tkS b T (p + 1) := by
  obtain ⟨q, r⟩ := bt_is (by decide) h
  exact ⟨q, skA_s q (by rw [r]; decide) (by rw [r]; decide)⟩
theorem sp_stop {b : Nat → Int32} {T p : Nat} (h : ¬ btA b T p = 32) : tkS b T p = p := by
  apply sk_stop
  unfold isW
  by_cases h1 : btA b T p < 32
  · rw [if_pos h1]
  · rw [if_neg h1]
    by_cases h2 : (32 : Int32) < btA b T p
    · rw [if_pos h2]
    · exact absurd (Int32.le_antisymm (Int32.not_lt.mp h2) (Int32.not_lt.mp h1)) h
/-- where the token ends, as far as it is known -/
def tkF (b : Nat → Int32) (T : Nat) (L D : Int32) (e : Nat) : Nat := if L = 0 then (if D = 0 then e else skA b 48 57 T e) else skA b 97 122 T e
theorem LD {b : Nat → Int32} {T p : Nat} (h : ¬ isW (btA b T p) 97 122 = 0) : isW (btA b T p) 48 57 = 0 := by
  obtain ⟨h1, h2⟩ := isW_ne0 h
  apply isW_out
  right
  rw [fc_lt, show (97 : Int32).toInt = 97 from rfl] at h1
  show (57 : Int32).toInt < _
  rw [show (57 : Int32).toInt = 57 from rfl]
  omega
theorem tk_out {b : Nat → Int32} {T p : Nat} (h : T ≤ p) : tkE b T p = tkF b T (isW (btA b T p) 97 122) (isW (btA b T p) 48 57) p := by
  rw [bt_out h, tkE, if_pos h]
  rfl
theorem tk_in {b : Nat → Int32} {T p : Nat} (h : ¬ T ≤ p) : tkE b T p = tkF b T (isW (btA b T p) 97 122) (isW (btA b T p) 48 57) (p + 1) := by
  have hb := bt_in (b := b) h
  rw [tkE, if_neg h]
  unfold tkF
  by_cases h1 : isW (btA b T p) 97 122 = 0
  · rw [if_pos h1, if_pos (hb ▸ h1)]
    by_cases h2 : isW (btA b T p) 48 57 = 0
    · rw [if_pos h2, if_pos (hb ▸ h2)]
    · rw [if_neg h2, if_neg (hb ▸ h2)]
      exact (sk_go (by decide) h2).2
  · rw [if_neg h1, if_neg (hb ▸ h1)]
    exact (sk_go (by decide) h1).2

abbrev rmX6_byteAt : Room := { frames := 0, cells := 0, slots := 0, locals := 0 }
theorem hYX6_byteAt : gY yX6_byteAt wsX6_byteAt cX6_byteAt 2 (some .int) 1 := ⟨⟨_, rfl⟩, by decide +kernel, by decide +kernel, by decide +kernel⟩
theorem iwX6_byteAt_X6 : ∀ w ∈ u_ws RX6 TX6 16, w ∈ wsX6_byteAt := by decide +kernel
theorem lkX6_byteAt_173 : Cond.fieldLink RX6 173 "MuffinBellsModel" "taped" "I" ∈ wsX6_byteAt := by decide +kernel
theorem lkX6_byteAt_25 : Cond.fieldLink RX6 25 "MuffinBellsModel" "tape" "[I" ∈ wsX6_byteAt := by decide +kernel
set_option maxRecDepth 100000 in
set_option maxHeartbeats 4000000 in
theorem c_X6_byteAt (l : Launch) (E : gE) (a : Nat → Nat) (c : Cor) (h : Mar) (b : Nat → Int32) (T : Nat) (p : Nat) (hT : T ≤ 120) (hp9 : p ≤ T) : cti l yX6_byteAt wsX6_byteAt rmX6_byteAt E [.ref (a 0), .int (nI p)] (mW E a (c.1, c.2.1, c.2.2.1, b, nI T, c.2.2.2.2.2.1, c.2.2.2.2.2.2.1, c.2.2.2.2.2.2.2.1, c.2.2.2.2.2.2.2.2) h) (fun r w => r = btA b T p ∧ w = (mW E a (c.1, c.2.1, c.2.2.1, b, nI T, c.2.2.2.2.2.1, c.2.2.2.2.2.2.1, c.2.2.2.2.2.2.2.1, c.2.2.2.2.2.2.2.2) h)) := by
  refine mt_i (cc := cX6_byteAt) (maxL := 2) (ret := some .int) (lv0 := [(0, .ref (a 0)), (1, .int (nI p))]) (by decide) rfl rfl (Nat.le_of_ble_eq_true rfl) (fun X cx gr hI => ?_)
  refine g_iload_n cx dX6_byteAt_0 1 rfl ?_
  refine g_aload_n cx dX6_byteAt_1 0 rfl ?_
  refine g_get (C := RX6) (T := TX6) (N := 16) (v := .int (nI T)) cx iwX6_byteAt_X6 0 7 rfl rfl (by decide) lkX6_byteAt_173 rfl dX6_byteAt_2 ?_
  refine g_icmp_ge (tgt := 17) cx dX6_byteAt_5 (by decide) (fun c_1 => ?_) (fun c_1 => ?_)
  · refine g_iconst (v := (-1)) cx dX6_byteAt_17 (by decide) ?_
    exact g_iret cx gr (Nat.zero_le _) (Nat.zero_le _) dX6_byteAt_18 ⟨by rw [bt_out ((nI_leI (by omega) (by omega)).mp c_1)], rfl⟩
  · refine g_aload_n cx dX6_byteAt_8 0 rfl ?_
    refine g_get (C := RX6) (T := TX6) (N := 16) (v := .ref (a 6)) cx iwX6_byteAt_X6 0 6 rfl rfl (by decide) lkX6_byteAt_25 rfl dX6_byteAt_9 ?_
    refine g_iload_n cx dX6_byteAt_12 1 rfl ?_
    refine g_iald cx 6 rfl rfl (vp_in_nI (by have : ¬ T ≤ p := fun q => c_1 ((nI_leI (by omega) (by omega)).mpr q); omega) (by decide)) dX6_byteAt_13 ?_
    refine g_goto (tgt := 18) cx dX6_byteAt_14 (by decide) ?_
    exact g_iret cx gr (Nat.zero_le _) (Nat.zero_le _) dX6_byteAt_18 ⟨by rw [bt_in (fun q => c_1 ((nI_leI (by omega) (by omega)).mpr q)), nI_clamp (by omega)], rfl⟩
