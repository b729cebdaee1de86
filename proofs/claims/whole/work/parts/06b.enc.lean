/-! the reference keeps a terrace as one row: enc t -/
def enc (t : Ter) : Nat → Int32 := fun k => if k = 0 then t.1 else if k = 1 then t.2.1 else if k = 2 then t.2.2.1 else if k = 3 then t.2.2.2.1 else if k = 4 then t.2.2.2.2.1 else if k = 5 then t.2.2.2.2.2.1 else if k = 6 then t.2.2.2.2.2.2.1 else if (k - 7) % 4 = 0 then tKind t ((k - 7) / 4) else if (k - 7) % 4 = 1 then tMood t ((k - 7) / 4) else if (k - 7) % 4 = 2 then tPen t ((k - 7) / 4) else tAte t ((k - 7) / 4)
def dec (f : Nat → Int32) : Ter := (f 0, f 1, f 2, f 3, f 4, f 5, f 6, fun h => f (7 + 4 * h), fun h => f (7 + 4 * h + 1), fun h => f (7 + 4 * h + 2), fun h => f (7 + 4 * h + 3))
theorem enc_hi (t : Ter) (k : Nat) (h : 7 ≤ k) : enc t k = if (k - 7) % 4 = 0 then tKind t ((k - 7) / 4) else if (k - 7) % 4 = 1 then tMood t ((k - 7) / 4) else if (k - 7) % 4 = 2 then tPen t ((k - 7) / 4) else tAte t ((k - 7) / 4) := by
  unfold enc
  rw [if_neg (by omega), if_neg (by omega), if_neg (by omega), if_neg (by omega), if_neg (by omega), if_neg (by omega), if_neg (by omega)]
theorem enc_K (t : Ter) (h : Nat) : enc t (7 + 4 * h) = tKind t h := by
  rw [enc_hi t _ (by omega), if_pos (by omega), show (7 + 4 * h - 7) / 4 = h by omega]
theorem enc_M (t : Ter) (h : Nat) : enc t (7 + 4 * h + 1) = tMood t h := by
  rw [enc_hi t _ (by omega), if_neg (by omega), if_pos (by omega), show (7 + 4 * h + 1 - 7) / 4 = h by omega]
theorem enc_P (t : Ter) (h : Nat) : enc t (7 + 4 * h + 2) = tPen t h := by
  rw [enc_hi t _ (by omega), if_neg (by omega), if_neg (by omega), if_pos (by omega), show (7 + 4 * h + 2 - 7) / 4 = h by omega]
theorem enc_A (t : Ter) (h : Nat) : enc t (7 + 4 * h + 3) = tAte t h := by
  rw [enc_hi t _ (by omega), if_neg (by omega), if_neg (by omega), if_neg (by omega), show (7 + 4 * h + 3 - 7) / 4 = h by omega]
theorem enc_dec (f : Nat → Int32) : enc (dec f) = f := by
  funext k
  by_cases h : 7 ≤ k
  · rw [enc_hi _ _ h]
    by_cases h0 : (k - 7) % 4 = 0
    · rw [if_pos h0]; show f (7 + 4 * ((k - 7) / 4)) = f k; congr 1; omega
    · rw [if_neg h0]
      by_cases h1 : (k - 7) % 4 = 1
      · rw [if_pos h1]; show f (7 + 4 * ((k - 7) / 4) + 1) = f k; congr 1; omega
      · rw [if_neg h1]
        by_cases h2 : (k - 7) % 4 = 2
        · rw [if_pos h2]; show f (7 + 4 * ((k - 7) / 4) + 2) = f k; congr 1; omega
        · rw [if_neg h2]; show f (7 + 4 * ((k - 7) / 4) + 3) = f k; congr 1; omega
  · rcases (show k = 0 ∨ k = 1 ∨ k = 2 ∨ k = 3 ∨ k = 4 ∨ k = 5 ∨ k = 6 by omega) with rfl | rfl | rfl | rfl | rfl | rfl | rfl <;> rfl
theorem dec_eq (f : Nat → Int32) (t : Ter) (h0 : f 0 = t.1) (h1 : f 1 = t.2.1) (h2 : f 2 = t.2.2.1) (h3 : f 3 = t.2.2.2.1) (h4 : f 4 = t.2.2.2.2.1) (h5 : f 5 = t.2.2.2.2.2.1) (h6 : f 6 = t.2.2.2.2.2.2.1) (hK : ∀ h, f (7 + 4 * h) = tKind t h) (hM : ∀ h, f (7 + 4 * h + 1) = tMood t h) (hP : ∀ h, f (7 + 4 * h + 2) = tPen t h) (hA : ∀ h, f (7 + 4 * h + 3) = tAte t h) : dec f = t := by
  unfold dec
  rw [h0, h1, h2, h3, h4, h5, h6, show (fun h => f (7 + 4 * h)) = tKind t from funext hK, show (fun h => f (7 + 4 * h + 1)) = tMood t from funext hM, show (fun h => f (7 + 4 * h + 2)) = tPen t from funext hP, show (fun h => f (7 + 4 * h + 3)) = tAte t from funext hA]
theorem dec_enc (t : Ter) : dec (enc t) = t := dec_eq _ t rfl rfl rfl rfl rfl rfl rfl (enc_K t) (enc_M t) (enc_P t) (enc_A t)
def tPut (t : Ter) (k : Nat) (v : Int32) : Ter := dec (upd (enc t) k v)
theorem enc_put (t : Ter) (k : Nat) (v : Int32) : upd (enc t) k v = enc (tPut t k v) := (enc_dec _).symm
theorem put_0 (t : Ter) (v : Int32) : tPut t 0 v = (v, t.2.1, t.2.2.1, t.2.2.2.1, t.2.2.2.2.1, t.2.2.2.2.2.1, t.2.2.2.2.2.2.1, t.2.2.2.2.2.2.2.1, t.2.2.2.2.2.2.2.2.1, t.2.2.2.2.2.2.2.2.2.1, t.2.2.2.2.2.2.2.2.2.2) := by
  refine dec_eq _ _ rfl rfl rfl rfl rfl rfl rfl (fun h => ?_) (fun h => ?_) (fun h => ?_) (fun h => ?_)
  · rw [pk_un (by omega), enc_K]
  · rw [pk_un (by omega), enc_M]
  · rw [pk_un (by omega), enc_P]
  · rw [pk_un (by omega), enc_A]
theorem put_1 (t : Ter) (v : Int32) : tPut t 1 v = (t.1, v, t.2.2.1, t.2.2.2.1, t.2.2.2.2.1, t.2.2.2.2.2.1, t.2.2.2.2.2.2.1, t.2.2.2.2.2.2.2.1, t.2.2.2.2.2.2.2.2.1, t.2.2.2.2.2.2.2.2.2.1, t.2.2.2.2.2.2.2.2.2.2) := by
  refine dec_eq _ _ rfl rfl rfl rfl rfl rfl rfl (fun h => ?_) (fun h => ?_) (fun h => ?_) (fun h => ?_)
  · rw [pk_un (by omega), enc_K]
  · rw [pk_un (by omega), enc_M]
  · rw [pk_un (by omega), enc_P]
  · rw [pk_un (by omega), enc_A]
theorem put_2 (t : Ter) (v : Int32) : tPut t 2 v = (t.1, t.2.1, v, t.2.2.2.1, t.2.2.2.2.1, t.2.2.2.2.2.1, t.2.2.2.2.2.2.1, t.2.2.2.2.2.2.2.1, t.2.2.2.2.2.2.2.2.1, t.2.2.2.2.2.2.2.2.2.1, t.2.2.2.2.2.2.2.2.2.2) := by
  refine dec_eq _ _ rfl rfl rfl rfl rfl rfl rfl (fun h => ?_) (fun h => ?_) (fun h => ?_) (fun h => ?_)
  · rw [pk_un (by omega), enc_K]
  · rw [pk_un (by omega), enc_M]
  · rw [pk_un (by omega), enc_P]
  · rw [pk_un (by omega), enc_A]
theorem put_3 (t : Ter) (v : Int32) : tPut t 3 v = (t.1, t.2.1, t.2.2.1, v, t.2.2.2.2.1, t.2.2.2.2.2.1, t.2.2.2.2.2.2.1, t.2.2.2.2.2.2.2.1, t.2.2.2.2.2.2.2.2.1, t.2.2.2.2.2.2.2.2.2.1, t.2.2.2.2.2.2.2.2.2.2) := by
  refine dec_eq _ _ rfl rfl rfl rfl rfl rfl rfl (fun h => ?_) (fun h => ?_) (fun h => ?_) (fun h => ?_)
  · rw [pk_un (by omega), enc_K]
  · rw [pk_un (by omega), enc_M]
  · rw [pk_un (by omega), enc_P]
  · rw [pk_un (by omega), enc_A]
theorem put_4 (t : Ter) (v : Int32) : tPut t 4 v = (t.1, t.2.1, t.2.2.1, t.2.2.2.1, v, t.2.2.2.2.2.1, t.2.2.2.2.2.2.1, t.2.2.2.2.2.2.2.1, t.2.2.2.2.2.2.2.2.1, t.2.2.2.2.2.2.2.2.2.1, t.2.2.2.2.2.2.2.2.2.2) := by
  refine dec_eq _ _ rfl rfl rfl rfl rfl rfl rfl (fun h => ?_) (fun h => ?_) (fun h => ?_) (fun h => ?_)
  · rw [pk_un (by omega), enc_K]
  · rw [pk_un (by omega), enc_M]
  · rw [pk_un (by omega), enc_P]
  · rw [pk_un (by omega), enc_A]
theorem put_5 (t : Ter) (v : Int32) : tPut t 5 v = (t.1, t.2.1, t.2.2.1, t.2.2.2.1, t.2.2.2.2.1, v, t.2.2.2.2.2.2.1, t.2.2.2.2.2.2.2.1, t.2.2.2.2.2.2.2.2.1, t.2.2.2.2.2.2.2.2.2.1, t.2.2.2.2.2.2.2.2.2.2) := by
  refine dec_eq _ _ rfl rfl rfl rfl rfl rfl rfl (fun h => ?_) (fun h => ?_) (fun h => ?_) (fun h => ?_)
  · rw [pk_un (by omega), enc_K]
  · rw [pk_un (by omega), enc_M]
  · rw [pk_un (by omega), enc_P]
  · rw [pk_un (by omega), enc_A]
theorem put_6 (t : Ter) (v : Int32) : tPut t 6 v = (t.1, t.2.1, t.2.2.1, t.2.2.2.1, t.2.2.2.2.1, t.2.2.2.2.2.1, v, t.2.2.2.2.2.2.2.1, t.2.2.2.2.2.2.2.2.1, t.2.2.2.2.2.2.2.2.2.1, t.2.2.2.2.2.2.2.2.2.2) := by
  refine dec_eq _ _ rfl rfl rfl rfl rfl rfl rfl (fun h => ?_) (fun h => ?_) (fun h => ?_) (fun h => ?_)
  · rw [pk_un (by omega), enc_K]
  · rw [pk_un (by omega), enc_M]
  · rw [pk_un (by omega), enc_P]
  · rw [pk_un (by omega), enc_A]
theorem put_K (t : Ter) (q : Nat) (v : Int32) : tPut t (7 + 4 * q) v = (t.1, t.2.1, t.2.2.1, t.2.2.2.1, t.2.2.2.2.1, t.2.2.2.2.2.1, t.2.2.2.2.2.2.1, upd (tKind t) q v, t.2.2.2.2.2.2.2.2.1, t.2.2.2.2.2.2.2.2.2.1, t.2.2.2.2.2.2.2.2.2.2) := by
  refine dec_eq _ _ (pk_un (by omega)) (pk_un (by omega)) (pk_un (by omega)) (pk_un (by omega)) (pk_un (by omega)) (pk_un (by omega)) (pk_un (by omega)) (fun h => ?_) (fun h => ?_) (fun h => ?_) (fun h => ?_)
  · by_cases hq : h = q
    · rw [hq, pk_us]; exact pk_us.symm
    · rw [pk_un (by omega), enc_K]; exact (pk_un hq).symm
  · rw [pk_un (by omega), enc_M]
  · rw [pk_un (by omega), enc_P]
  · rw [pk_un (by omega), enc_A]
theorem put_M (t : Ter) (q : Nat) (v : Int32) : tPut t (7 + 4 * q + 1) v = (t.1, t.2.1, t.2.2.1, t.2.2.2.1, t.2.2.2.2.1, t.2.2.2.2.2.1, t.2.2.2.2.2.2.1, t.2.2.2.2.2.2.2.1, upd (tMood t) q v, t.2.2.2.2.2.2.2.2.2.1, t.2.2.2.2.2.2.2.2.2.2) := by
  refine dec_eq _ _ (pk_un (by omega)) (pk_un (by omega)) (pk_un (by omega)) (pk_un (by omega)) (pk_un (by omega)) (pk_un (by omega)) (pk_un (by omega)) (fun h => ?_) (fun h => ?_) (fun h => ?_) (fun h => ?_)
  · rw [pk_un (by omega), enc_K]
  · by_cases hq : h = q
    · rw [hq, pk_us]; exact pk_us.symm
    · rw [pk_un (by omega), enc_M]; exact (pk_un hq).symm
  · rw [pk_un (by omega), enc_P]
  · rw [pk_un (by omega), enc_A]
theorem put_P (t : Ter) (q : Nat) (v : Int32) : tPut t (7 + 4 * q + 2) v = (t.1, t.2.1, t.2.2.1, t.2.2.2.1, t.2.2.2.2.1, t.2.2.2.2.2.1, t.2.2.2.2.2.2.1, t.2.2.2.2.2.2.2.1, t.2.2.2.2.2.2.2.2.1, upd (tPen t) q v, t.2.2.2.2.2.2.2.2.2.2) := by
  refine dec_eq _ _ (pk_un (by omega)) (pk_un (by omega)) (pk_un (by omega)) (pk_un (by omega)) (pk_un (by omega)) (pk_un (by omega)) (pk_un (by omega)) (fun h => ?_) (fun h => ?_) (fun h => ?_) (fun h => ?_)
  · rw [pk_un (by omega), enc_K]
  · rw [pk_un (by omega), enc_M]
  · by_cases hq : h = q
    · rw [hq, pk_us]; exact pk_us.symm
    · rw [pk_un (by omega), enc_P]; exact (pk_un hq).symm
  · rw [pk_un (by omega), enc_A]
theorem put_A (t : Ter) (q : Nat) (v : Int32) : tPut t (7 + 4 * q + 3) v = (t.1, t.2.1, t.2.2.1, t.2.2.2.1, t.2.2.2.2.1, t.2.2.2.2.2.1, t.2.2.2.2.2.2.1, t.2.2.2.2.2.2.2.1, t.2.2.2.2.2.2.2.2.1, t.2.2.2.2.2.2.2.2.2.1, upd (tAte t) q v) := by
  refine dec_eq _ _ (pk_un (by omega)) (pk_un (by omega)) (pk_un (by omega)) (pk_un (by omega)) (pk_un (by omega)) (pk_un (by omega)) (pk_un (by omega)) (fun h => ?_) (fun h => ?_) (fun h => ?_) (fun h => ?_)
  · rw [pk_un (by omega), enc_K]
  · rw [pk_un (by omega), enc_M]
  · rw [pk_un (by omega), enc_P]
  · by_cases hq : h = q
    · rw [hq, pk_us]; exact pk_us.symm
    · rw [pk_un (by omega), enc_A]; exact (pk_un hq).symm
def spot (h w : Int32) : Int32 := 7 + 4 * h + w
theorem spot_nI (j w : Nat) : spot (nI j) (nI w) = nI (7 + 4 * j + w) := by
  show (nI 7 + nI 4 * nI j) + nI w = nI (7 + 4 * j + w)
  rw [pk_mul, nI_add, nI_add]
theorem spot_n {h : Int32} (hh : vp_in h 8) (w : Nat) (hw : w ≤ 3) : (spot h (nI w)).toNatClampNeg = 7 + 4 * h.toNatClampNeg + w := by
  obtain ⟨j, hj, rfl⟩ := vp_in_of hh (by decide)
  rw [spot_nI, nI_clamp (by omega), nI_clamp (by omega)]
theorem spot_in {h : Int32} (hh : vp_in h 8) (w : Nat) (hw : w ≤ 3) : vp_in (spot h (nI w)) 39 := by
  obtain ⟨j, hj, rfl⟩ := vp_in_of hh (by decide)
  rw [spot_nI]
  exact vp_in_nI (by omega) (by decide)
theorem sp_K {h : Int32} (hh : vp_in h 8) (t : Ter) : enc t (spot h 0).toNatClampNeg = tKind t h.toNatClampNeg := by
  rw [show (0 : Int32) = nI 0 from rfl, spot_n hh 0 (by decide)]; exact enc_K t _
theorem si_K {h : Int32} (hh : vp_in h 8) : vp_in (spot h 0) 39 := spot_in hh 0 (by decide)
theorem su_K {h : Int32} (hh : vp_in h 8) (t : Ter) (v : Int32) : upd (enc t) (spot h 0).toNatClampNeg v = enc (t.1, t.2.1, t.2.2.1, t.2.2.2.1, t.2.2.2.2.1, t.2.2.2.2.2.1, t.2.2.2.2.2.2.1, upd (tKind t) h.toNatClampNeg v, t.2.2.2.2.2.2.2.2.1, t.2.2.2.2.2.2.2.2.2.1, t.2.2.2.2.2.2.2.2.2.2) := by
  rw [show (0 : Int32) = nI 0 from rfl, spot_n hh 0 (by decide), enc_put]; exact congrArg enc (put_K t _ v)
theorem sp_M {h : Int32} (hh : vp_in h 8) (t : Ter) : enc t (spot h 1).toNatClampNeg = tMood t h.toNatClampNeg := by
  rw [show (1 : Int32) = nI 1 from rfl, spot_n hh 1 (by decide)]; exact enc_M t _
theorem si_M {h : Int32} (hh : vp_in h 8) : vp_in (spot h 1) 39 := spot_in hh 1 (by decide)
theorem su_M {h : Int32} (hh : vp_in h 8) (t : Ter) (v : Int32) : upd (enc t) (spot h 1).toNatClampNeg v = enc (t.1, t.2.1, t.2.2.1, t.2.2.2.1, t.2.2.2.2.1, t.2.2.2.2.2.1, t.2.2.2.2.2.2.1, t.2.2.2.2.2.2.2.1, upd (tMood t) h.toNatClampNeg v, t.2.2.2.2.2.2.2.2.2.1, t.2.2.2.2.2.2.2.2.2.2) := by
  rw [show (1 : Int32) = nI 1 from rfl, spot_n hh 1 (by decide), enc_put]; exact congrArg enc (put_M t _ v)
theorem sp_P {h : Int32} (hh : vp_in h 8) (t : Ter) : enc t (spot h 2).toNatClampNeg = tPen t h.toNatClampNeg := by
  rw [show (2 : Int32) = nI 2 from rfl, spot_n hh 2 (by decide)]; exact enc_P t _
theorem si_P {h : Int32} (hh : vp_in h 8) : vp_in (spot h 2) 39 := spot_in hh 2 (by decide)
theorem su_P {h : Int32} (hh : vp_in h 8) (t : Ter) (v : Int32) : upd (enc t) (spot h 2).toNatClampNeg v = enc (t.1, t.2.1, t.2.2.1, t.2.2.2.1, t.2.2.2.2.1, t.2.2.2.2.2.1, t.2.2.2.2.2.2.1, t.2.2.2.2.2.2.2.1, t.2.2.2.2.2.2.2.2.1, upd (tPen t) h.toNatClampNeg v, t.2.2.2.2.2.2.2.2.2.2) := by
  rw [show (2 : Int32) = nI 2 from rfl, spot_n hh 2 (by decide), enc_put]; exact congrArg enc (put_P t _ v)
theorem sp_A {h : Int32} (hh : vp_in h 8) (t : Ter) : enc t (spot h 3).toNatClampNeg = tAte t h.toNatClampNeg := by
  rw [show (3 : Int32) = nI 3 from rfl, spot_n hh 3 (by decide)]; exact enc_A t _
theorem si_A {h : Int32} (hh : vp_in h 8) : vp_in (spot h 3) 39 := spot_in hh 3 (by decide)
theorem su_A {h : Int32} (hh : vp_in h 8) (t : Ter) (v : Int32) : upd (enc t) (spot h 3).toNatClampNeg v = enc (t.1, t.2.1, t.2.2.1, t.2.2.2.1, t.2.2.2.2.1, t.2.2.2.2.2.1, t.2.2.2.2.2.2.1, t.2.2.2.2.2.2.2.1, t.2.2.2.2.2.2.2.2.1, t.2.2.2.2.2.2.2.2.2.1, upd (tAte t) h.toNatClampNeg v) := by
  rw [show (3 : Int32) = nI 3 from rfl, spot_n hh 3 (by decide), enc_put]; exact congrArg enc (put_A t _ v)
theorem eu_0 (t : Ter) (v : Int32) : upd (enc t) (0 : Int32).toNatClampNeg v = enc (v, t.2.1, t.2.2.1, t.2.2.2.1, t.2.2.2.2.1, t.2.2.2.2.2.1, t.2.2.2.2.2.2.1, t.2.2.2.2.2.2.2.1, t.2.2.2.2.2.2.2.2.1, t.2.2.2.2.2.2.2.2.2.1, t.2.2.2.2.2.2.2.2.2.2) := by
  rw [show (0 : Int32).toNatClampNeg = 0 from rfl, enc_put, put_0]
theorem eu_1 (t : Ter) (v : Int32) : upd (enc t) (1 : Int32).toNatClampNeg v = enc (t.1, v, t.2.2.1, t.2.2.2.1, t.2.2.2.2.1, t.2.2.2.2.2.1, t.2.2.2.2.2.2.1, t.2.2.2.2.2.2.2.1, t.2.2.2.2.2.2.2.2.1, t.2.2.2.2.2.2.2.2.2.1, t.2.2.2.2.2.2.2.2.2.2) := by
  rw [show (1 : Int32).toNatClampNeg = 1 from rfl, enc_put, put_1]
theorem eu_2 (t : Ter) (v : Int32) : upd (enc t) (2 : Int32).toNatClampNeg v = enc (t.1, t.2.1, v, t.2.2.2.1, t.2.2.2.2.1, t.2.2.2.2.2.1, t.2.2.2.2.2.2.1, t.2.2.2.2.2.2.2.1, t.2.2.2.2.2.2.2.2.1, t.2.2.2.2.2.2.2.2.2.1, t.2.2.2.2.2.2.2.2.2.2) := by
  rw [show (2 : Int32).toNatClampNeg = 2 from rfl, enc_put, put_2]
theorem eu_3 (t : Ter) (v : Int32) : upd (enc t) (3 : Int32).toNatClampNeg v = enc (t.1, t.2.1, t.2.2.1, v, t.2.2.2.2.1, t.2.2.2.2.2.1, t.2.2.2.2.2.2.1, t.2.2.2.2.2.2.2.1, t.2.2.2.2.2.2.2.2.1, t.2.2.2.2.2.2.2.2.2.1, t.2.2.2.2.2.2.2.2.2.2) := by
  rw [show (3 : Int32).toNatClampNeg = 3 from rfl, enc_put, put_3]
theorem eu_4 (t : Ter) (v : Int32) : upd (enc t) (4 : Int32).toNatClampNeg v = enc (t.1, t.2.1, t.2.2.1, t.2.2.2.1, v, t.2.2.2.2.2.1, t.2.2.2.2.2.2.1, t.2.2.2.2.2.2.2.1, t.2.2.2.2.2.2.2.2.1, t.2.2.2.2.2.2.2.2.2.1, t.2.2.2.2.2.2.2.2.2.2) := by
  rw [show (4 : Int32).toNatClampNeg = 4 from rfl, enc_put, put_4]
theorem eu_5 (t : Ter) (v : Int32) : upd (enc t) (5 : Int32).toNatClampNeg v = enc (t.1, t.2.1, t.2.2.1, t.2.2.2.1, t.2.2.2.2.1, v, t.2.2.2.2.2.2.1, t.2.2.2.2.2.2.2.1, t.2.2.2.2.2.2.2.2.1, t.2.2.2.2.2.2.2.2.2.1, t.2.2.2.2.2.2.2.2.2.2) := by
  rw [show (5 : Int32).toNatClampNeg = 5 from rfl, enc_put, put_5]
theorem eu_6 (t : Ter) (v : Int32) : upd (enc t) (6 : Int32).toNatClampNeg v = enc (t.1, t.2.1, t.2.2.1, t.2.2.2.1, t.2.2.2.2.1, t.2.2.2.2.2.1, v, t.2.2.2.2.2.2.2.1, t.2.2.2.2.2.2.2.2.1, t.2.2.2.2.2.2.2.2.2.1, t.2.2.2.2.2.2.2.2.2.2) := by
  rw [show (6 : Int32).toNatClampNeg = 6 from rfl, enc_put, put_6]
def inL (v a b : Int64) : Int32 := if v < a then 0 else if b < v then 0 else 1
theorem w_lt (a b : Int32) : a.toInt64 < b.toInt64 ↔ a < b := by
  rw [Int64.lt_iff_toInt_lt, Int32.lt_iff_toInt_lt, Int32.toInt_toInt64, Int32.toInt_toInt64]
theorem inL_isW (x a b : Int32) : inL x.toInt64 a.toInt64 b.toInt64 = isW x a b := by
  unfold inL isW
  by_cases h1 : x < a
  · rw [if_pos h1, if_pos ((w_lt x a).mpr h1)]
  · rw [if_neg h1, if_neg (fun h => h1 ((w_lt x a).mp h))]
    by_cases h2 : b < x
    · rw [if_pos h2, if_pos ((w_lt b x).mpr h2)]
    · rw [if_neg h2, if_neg (fun h => h2 ((w_lt b x).mp h))]
theorem div3 (m : Int32) : (m / 3).toInt = m.toInt.tdiv 3 := by
  rw [Int32.toInt_div_of_ne_right _ _ (by decide)]; rfl
theorem min_gay (m : Int32) : minI 6 (m / 3 + 1) = gayT (m / 3) := by
  have h1 := div3 m
  have h0 : (m.toInt.tdiv 3).natAbs = m.toInt.natAbs / 3 := Int.natAbs_tdiv m.toInt 3
  have h2 : m.toInt < 2 ^ 31 := Int32.toInt_lt m
  have h3 : -2 ^ 31 ≤ m.toInt := Int32.le_toInt m
  have h4 : (m / 3 + 1).toInt = (m / 3).toInt + 1 := by
    rw [Int32.toInt_add, show (1 : Int32).toInt = 1 from rfl, Int.bmod_eq_of_le (by omega) (by omega)]
  have h6 : (6 : Int32).toInt = 6 := rfl
  unfold minI gayT
  by_cases h : 6 ≤ m / 3
  · rw [if_pos h, if_neg]
    rw [fc_le, h6] at h
    rw [fc_lt, h4, h6]
    omega
  · rw [if_neg h]
    rw [fc_le, h6] at h
    by_cases h7 : m / 3 + 1 < 6
    · rw [if_pos h7]
    · rw [if_neg h7]
      apply Int32.toInt_inj.mp
      rw [fc_lt, h4, h6] at h7
      rw [h4, h6]
      omega
theorem max_grave (m : Int32) : maxI 0 (m / 3 - 2) = graveT (m / 3) := by
  have h1 := div3 m
  have h0 : (m.toInt.tdiv 3).natAbs = m.toInt.natAbs / 3 := Int.natAbs_tdiv m.toInt 3
  have h2 : m.toInt < 2 ^ 31 := Int32.toInt_lt m
  have h3 : -2 ^ 31 ≤ m.toInt := Int32.le_toInt m
  have h4 : (m / 3 - 2).toInt = (m / 3).toInt - 2 := by
    rw [Int32.toInt_sub, show (2 : Int32).toInt = 2 from rfl, Int.bmod_eq_of_le (by omega) (by omega)]
  have h5 : (2 : Int32).toInt = 2 := rfl
  have h6 : (0 : Int32).toInt = 0 := rfl
  unfold maxI graveT
  by_cases h : m / 3 ≤ 2
  · rw [if_pos h, if_neg]
    rw [fc_le, h5] at h
    rw [fc_lt, h4, h6]
    omega
  · rw [if_neg h, if_pos]
    rw [fc_le, h5] at h
    rw [fc_lt, h4, h6]
    omega
theorem min_held (v : Int32) : minI 20 (maxI 0 v) = sHeld v 0 20 := by
  have h5 : (20 : Int32).toInt = 20 := rfl
  have h6 : (0 : Int32).toInt = 0 := rfl
  unfold sHeld minI maxI
  by_cases h : (0 : Int32) < v
  · rw [if_pos h]
    by_cases h1 : v < 20
    · rw [if_pos h1, if_pos h]
    · rw [if_neg h1, if_pos (by decide)]
  · rw [if_neg h, if_pos (by decide)]
    have h1 : v < 20 := by
      rw [fc_lt, h6] at h
      rw [fc_lt, h5]
      omega
    rw [if_pos h1, if_neg h]
theorem min_buy (a b c : Int32) : minI c (minI b a) = minI a (minI b c) := by
  apply Int32.toInt_inj.mp
  unfold minI
  by_cases h1 : a < b <;> by_cases h2 : c < b <;> by_cases h3 : a < c <;> by_cases h4 : b < c <;> by_cases h5 : c < a <;> by_cases h6 : b < a <;> simp only [h1, h2, h3, h4, h5, h6, if_true, if_false] <;> (rw [fc_lt] at h1 h2 h3 h4 h5 h6; omega)
def bump (f : Int32) (s : Nat → Int32) : Nat → Int32 := upd s (-1000000001 - f).toNatClampNeg (s (-1000000001 - f).toNatClampNeg + 1)
/-- the first i of f, then g -/
def fil (f g : Nat → Int32) (i : Nat) : Nat → Int32 := fun j => if j < i then f j else g j
theorem fil_0 (f g : Nat → Int32) : fil f g 0 = g := by
  funext j
  unfold fil
  rw [if_neg (Nat.not_lt_zero j)]
theorem fil_up (f g : Nat → Int32) (i : Nat) : upd (fil f g i) i (f i) = fil f g (i + 1) := by
  funext j
  unfold upd fil
  by_cases h : j = i
  · rw [if_pos h, if_pos (by omega), h]
  · rw [if_neg h]
    by_cases h2 : j < i
    · rw [if_pos h2, if_pos (by omega)]
    · rw [if_neg h2, if_neg (by omega)]
theorem fil_in {f g : Nat → Int32} {i j : Nat} (h : j < i) : fil f g i j = f j := by
  unfold fil
  rw [if_pos h]
/-- in how many hours something is a number first -/
def fstAs (k : Nat) (v : Int32) : Nat → Ter → Nat
  | 0, _ => 0
  | n + 1, t => if enc t k = v then 0 else fstAs k v n (goHour t) + 1
/-- the first of the greatest, and the greatest: of f 0 .. f (n - 1), from -1 on -/
def bst (f : Nat → Int32) : Nat → Int32 × Int32
  | 0 => (0, -1)
  | n + 1 => if f n ≤ (bst f n).2 then bst f n else (nI n, f n)
/-- a mark of numbers laid side by side -/
def flatN (m : Nat → Nat → Int64) : Nat → Int64 := fun k => m (k / 40) (k % 40)
theorem min_le {v h : Int32} (c : v ≤ h) : minI h v = v := by
  unfold minI
  by_cases h1 : v < h
  · rw [if_pos h1]
  · rw [if_neg h1]
    apply Int32.toInt_inj.mp
    rw [fc_le] at c
    rw [fc_lt] at h1
    omega
theorem min_gt {v h : Int32} (c : ¬ v ≤ h) : minI h v = h := by
  unfold minI
  rw [if_neg]
  rw [fc_le] at c
  rw [fc_lt]
  omega
theorem max_ge {v : Int32} (c : 0 ≤ v) : maxI 0 v = v := by
  unfold maxI
  by_cases h1 : 0 < v
  · rw [if_pos h1]
  · rw [if_neg h1]
    apply Int32.toInt_inj.mp
    rw [fc_le] at c
    rw [fc_lt] at h1
    omega
theorem max_lt {v : Int32} (c : ¬ 0 ≤ v) : maxI 0 v = 0 := by
  unfold maxI
  rw [if_neg]
  rw [fc_le] at c
  rw [fc_lt]
  omega
theorem isW_bool (v a b : Int32) : narrow .boolean (.int (isW v a b)) = .int (isW v a b) := by
  unfold isW
  by_cases h1 : v < a
  · rw [if_pos h1]; rfl
  · rw [if_neg h1]
    by_cases h2 : b < v
    · rw [if_pos h2]; rfl
    · rw [if_neg h2]; rfl
def isHis (w v : Int32) : Int32 := if w = 0 then isW v 0 7 else if w = 1 then isW v 0 1 else if w = 2 then isW v 0 999 else if w = 3 then isW v (-1) 6 else if w = 4 then (if isW v 0 99 = 0 then 0 else 1) else 0
