/-! the constructors -/
abbrev tR0 : Ter := (0, 0, 1, 40, -1, 0, 0, fun _ => 0, fun _ => 10, fun _ => 30, fun _ => 0)
abbrev tZ0 : Ter := (0, 0, 0, 0, 0, 0, 0, fun _ => 0, fun _ => 0, fun _ => 0, fun _ => 0)
abbrev cR0 (k : Ter) : Cor := (tR0, k, 0, fun _ => 0, 0, fun _ => 0, fun _ => 0, fun _ _ => 0, fun _ => 0)
section GO
variable {X : gX} {ws : va_W} {k n pc : Nat} {lv : List (Nat × Value)} {st : List Value}
theorem g_cgO {ws' : va_W} {cA : ClassId} {N a : Nat} {f g : Nat → Option Nat} (q0 : Nat) (he : ws[q0]? = some (a, .inl (cA, N, .inr (.inr (.inr (.inr f)))))) (hfg : ∀ j, j < N → f j = g j) (hws : ws.set q0 (a, .inl (cA, N, .inr (.inr (.inr (.inr g))))) = ws') (kk : gG X k n ws' pc lv st) : gG X k n ws pc lv st := by
  refine g_set he (fun D H h => ?_) hws kk
  have h : H[a]? = some (arrV cA N (fun j => va_rf (f j))) := h
  show H[a]? = some (arrV cA N (fun j => va_rf (g j)))
  rw [h, arrV_cong (fun j hj => by rw [hfg j hj])]
end GO

theorem dfX1 : ∀ j, j < 3 → defaultValue (tyX1 j) = vp_V [.int 0, .int 0, .null] j := by
  intro j hj
  rcases (show j = 0 ∨ j = 1 ∨ j = 2 by omega) with rfl | rfl | rfl <;> rfl

theorem dfX2 : ∀ j, j < 2 → defaultValue (tyX2 j) = vp_V [.null, .int 0] j := by
  intro j hj
  rcases (show j = 0 ∨ j = 1 by omega) with rfl | rfl <;> rfl

theorem dfX3 : ∀ j, j < 11 → defaultValue (tyX3 j) = vp_V [.int 0, .int 0, .int 0, .int 0, .int 0, .int 0, .int 0, .null, .null, .null, .null] j := by
  intro j hj
  rcases (show j = 0 ∨ j = 1 ∨ j = 2 ∨ j = 3 ∨ j = 4 ∨ j = 5 ∨ j = 6 ∨ j = 7 ∨ j = 8 ∨ j = 9 ∨ j = 10 by omega) with rfl | rfl | rfl | rfl | rfl | rfl | rfl | rfl | rfl | rfl | rfl <;> rfl

theorem dfX4 : ∀ j, j < 5 → defaultValue (tyX4 j) = vp_V [.null, .int 0, .int 0, .int 0, .int 0] j := by
  intro j hj
  rcases (show j = 0 ∨ j = 1 ∨ j = 2 ∨ j = 3 ∨ j = 4 by omega) with rfl | rfl | rfl | rfl | rfl <;> rfl

theorem dfX5 : ∀ j, j < 8 → defaultValue (tyX5 j) = vp_V [.null, .null, .null, .int 0, .null, .null, .null, .null] j := by
  intro j hj
  rcases (show j = 0 ∨ j = 1 ∨ j = 2 ∨ j = 3 ∨ j = 4 ∨ j = 5 ∨ j = 6 ∨ j = 7 by omega) with rfl | rfl | rfl | rfl | rfl | rfl | rfl | rfl <;> rfl

theorem dfX6 : ∀ j, j < 16 → defaultValue (tyX6 j) = vp_V [.null, .null, .null, .null, .null, .int 0, .null, .int 0, .int 0, .int 0, .int 0, .int 0, .null, .null, .null, .null] j := by
  intro j hj
  rcases (show j = 0 ∨ j = 1 ∨ j = 2 ∨ j = 3 ∨ j = 4 ∨ j = 5 ∨ j = 6 ∨ j = 7 ∨ j = 8 ∨ j = 9 ∨ j = 10 ∨ j = 11 ∨ j = 12 ∨ j = 13 ∨ j = 14 ∨ j = 15 by omega) with rfl | rfl | rfl | rfl | rfl | rfl | rfl | rfl | rfl | rfl | rfl | rfl | rfl | rfl | rfl | rfl <;> rfl

abbrev rmX1_init : Room := { frames := 1, cells := 1, slots := 40, locals := 20 }
theorem hYX1_init : gY yX1_init wsX1_init cX1_init 1 (none) 0 := ⟨⟨_, rfl⟩, by decide +kernel, by decide +kernel, by decide +kernel⟩
theorem mwX1_init_oi : ∀ w ∈ ([Cond.methodLink RX1 3 objectInit, Cond.instanceMethod objectInit] : List Cond), w ∈ wsX1_init := by decide +kernel
theorem m1X1_init_oic : Cond.code objectInit ⟨#[0xb1]⟩ 1 none ∈ wsX1_init := List.mem_of_getElem? (i := 3) rfl
theorem iwX1_init_X1 : ∀ w ∈ u_ws RX1 TX1 3, w ∈ wsX1_init := by decide +kernel
theorem lkX1_init_11 : Cond.fieldLink RX1 11 "MuffinBells$Sheet" "bits" "I" ∈ wsX1_init := by decide +kernel
theorem lkX1_init_15 : Cond.fieldLink RX1 15 "MuffinBells$Sheet" "size" "I" ∈ wsX1_init := by decide +kernel
theorem m1X1_init_aaJ : Cond.arrayClass .long ∈ wsX1_init := by decide +kernel
theorem lkX1_init_18 : Cond.fieldLink RX1 18 "MuffinBells$Sheet" "numbers" "[J" ∈ wsX1_init := by decide +kernel
set_option maxRecDepth 100000 in
set_option maxHeartbeats 4000000 in
theorem c_X1_init (l : Launch) (E : gE) (b : Nat) : ctv l yX1_init wsX1_init rmX1_init E [.ref b] [(b, .inr (0, [.int 0, .int 0, .null]))] (fun w => ∃ q0 : Nat, w = [(b, .inr (0, [.int 0, .int 0, .ref q0])), (q0, .inl (gJ E, 40, .inr (.inl (fun _ => 0))))]) := by
  refine mt_v (cc := cX1_init) (maxL := 1) (ret := none) (lv0 := [(0, .ref b)]) (by decide) rfl rfl (Nat.le_of_ble_eq_true rfl) (fun X cx gr hI => ?_)
  refine g_aload_n cx dX1_init_0 0 rfl ?_
  refine g_oinit cx mwX1_init_oi m1X1_init_oic (by decide) (Nat.le_of_ble_eq_true rfl) dX1_init_1 ?_
  refine g_aload_n cx dX1_init_4 0 rfl ?_
  refine g_iconst (v := 0) cx dX1_init_5 (by decide) ?_
  refine g_put (C := RX1) (T := TX1) (N := 3) (ws' := [(b, .inr (0, [.int 0, .int 0, .null]))]) cx iwX1_init_X1 tyX1 tyX1_ok nmX1 0 0 rfl rfl (by decide) lkX1_init_11 rfl rfl rfl (Nat.le_of_ble_eq_true rfl) dX1_init_6 rfl ?_
  refine g_aload_n cx dX1_init_9 0 rfl ?_
  refine g_iconst (v := 0) cx dX1_init_10 (by decide) ?_
  refine g_put (C := RX1) (T := TX1) (N := 3) (ws' := [(b, .inr (0, [.int 0, .int 0, .null]))]) cx iwX1_init_X1 tyX1 tyX1_ok nmX1 0 1 rfl rfl (by decide) lkX1_init_15 rfl rfl rfl (Nat.le_of_ble_eq_true rfl) dX1_init_11 rfl ?_
  refine g_aload_n cx dX1_init_14 0 rfl ?_
  refine g_bipush (v := 40) cx dX1_init_15 (by decide) ?_
  refine g_newJ (N' := 40) cx m1X1_init_aaJ (by decide) (by decide) (by decide) (Nat.le_of_ble_eq_true rfl) (Nat.le_of_ble_eq_true rfl) dX1_init_17 (fun q_1 => ?_)
  refine g_w (show _ = ([(b, .inr (0, [.int 0, .int 0, .null])), (q_1, .inl (gJ E, 40, .inr (.inl (fun _ => 0))))] : va_W) from rfl) ?_
  refine g_putF (C := RX1) (T := TX1) (N := 3) (ws' := [(b, .inr (0, [.int 0, .int 0, .ref q_1])), (q_1, .inl (gJ E, 40, .inr (.inl (fun _ => 0))))]) cx (hI rfl) iwX1_init_X1 tyX1 tyX1_ok nmX1 0 2 rfl rfl (by decide) lkX1_init_18 rfl rfl rfl rfl (Nat.le_of_ble_eq_true rfl) dX1_init_19 rfl ?_
  exact g_vret cx gr (Nat.le_of_ble_eq_true rfl) (Nat.le_of_ble_eq_true rfl) dX1_init_22 (⟨_, rfl⟩)

abbrev rmX2_init : Room := { frames := 1, cells := 1, slots := 120, locals := 20 }
theorem hYX2_init : gY yX2_init wsX2_init cX2_init 1 (none) 0 := ⟨⟨_, rfl⟩, by decide +kernel, by decide +kernel, by decide +kernel⟩
theorem mwX2_init_oi : ∀ w ∈ ([Cond.methodLink RX2 3 objectInit, Cond.instanceMethod objectInit] : List Cond), w ∈ wsX2_init := by decide +kernel
theorem m1X2_init_oic : Cond.code objectInit ⟨#[0xb1]⟩ 1 none ∈ wsX2_init := List.mem_of_getElem? (i := 3) rfl
theorem m1X2_init_aaI : Cond.arrayClass .int ∈ wsX2_init := by decide +kernel
theorem iwX2_init_X2 : ∀ w ∈ u_ws RX2 TX2 2, w ∈ wsX2_init := by decide +kernel
theorem lkX2_init_9 : Cond.fieldLink RX2 9 "MuffinBells$Tape" "bytes" "[I" ∈ wsX2_init := by decide +kernel
theorem lkX2_init_15 : Cond.fieldLink RX2 15 "MuffinBells$Tape" "length" "I" ∈ wsX2_init := by decide +kernel
set_option maxRecDepth 100000 in
set_option maxHeartbeats 4000000 in
theorem c_X2_init (l : Launch) (E : gE) (b : Nat) : ctv l yX2_init wsX2_init rmX2_init E [.ref b] [(b, .inr (1, [.null, .int 0]))] (fun w => ∃ q0 : Nat, w = [(b, .inr (1, [.ref q0, .int 0])), (q0, .inl (gI E, 120, .inl (fun _ => 0)))]) := by
  refine mt_v (cc := cX2_init) (maxL := 1) (ret := none) (lv0 := [(0, .ref b)]) (by decide) rfl rfl (Nat.le_of_ble_eq_true rfl) (fun X cx gr hI => ?_)
  refine g_aload_n cx dX2_init_0 0 rfl ?_
  refine g_oinit cx mwX2_init_oi m1X2_init_oic (by decide) (Nat.le_of_ble_eq_true rfl) dX2_init_1 ?_
  refine g_aload_n cx dX2_init_4 0 rfl ?_
  refine g_bipush (v := 120) cx dX2_init_5 (by decide) ?_
  refine g_newI (N' := 120) cx m1X2_init_aaI (by decide) (by decide) (by decide) (Nat.le_of_ble_eq_true rfl) (Nat.le_of_ble_eq_true rfl) dX2_init_7 (fun q_1 => ?_)
  refine g_w (show _ = ([(b, .inr (1, [.null, .int 0])), (q_1, .inl (gI E, 120, .inl (fun _ => 0)))] : va_W) from rfl) ?_
  refine g_putF (C := RX2) (T := TX2) (N := 2) (ws' := [(b, .inr (1, [.ref q_1, .int 0])), (q_1, .inl (gI E, 120, .inl (fun _ => 0)))]) cx (hI rfl) iwX2_init_X2 tyX2 tyX2_ok nmX2 0 0 rfl rfl (by decide) lkX2_init_9 rfl rfl rfl rfl (Nat.le_of_ble_eq_true rfl) dX2_init_9 rfl ?_
  refine g_aload_n cx dX2_init_12 0 rfl ?_
  refine g_iconst (v := 0) cx dX2_init_13 (by decide) ?_
  refine g_put (C := RX2) (T := TX2) (N := 2) (ws' := [(b, .inr (1, [.ref q_1, .int 0])), (q_1, .inl (gI E, 120, .inl (fun _ => 0)))]) cx iwX2_init_X2 tyX2 tyX2_ok nmX2 0 1 rfl rfl (by decide) lkX2_init_15 rfl rfl rfl (Nat.le_of_ble_eq_true rfl) dX2_init_14 rfl ?_
  exact g_vret cx gr (Nat.le_of_ble_eq_true rfl) (Nat.le_of_ble_eq_true rfl) dX2_init_17 (⟨_, rfl⟩)

abbrev rmX3_init : Room := { frames := 1, cells := 4, slots := 32, locals := 23 }
theorem hYX3_init : gY yX3_init wsX3_init cX3_init 1 (none) 0 := ⟨⟨_, rfl⟩, by decide +kernel, by decide +kernel, by decide +kernel⟩
theorem mwX3_init_oi : ∀ w ∈ ([Cond.methodLink RX3 3 objectInit, Cond.instanceMethod objectInit] : List Cond), w ∈ wsX3_init := by decide +kernel
theorem m1X3_init_oic : Cond.code objectInit ⟨#[0xb1]⟩ 1 none ∈ wsX3_init := List.mem_of_getElem? (i := 3) rfl
theorem iwX3_init_X3 : ∀ w ∈ u_ws RX3 TX3 11, w ∈ wsX3_init := by decide +kernel
theorem lkX3_init_9 : Cond.fieldLink RX3 9 "MuffinBells$Terrace" "hour" "I" ∈ wsX3_init := by decide +kernel
theorem lkX3_init_15 : Cond.fieldLink RX3 15 "MuffinBells$Terrace" "at" "I" ∈ wsX3_init := by decide +kernel
theorem lkX3_init_18 : Cond.fieldLink RX3 18 "MuffinBells$Terrace" "way" "I" ∈ wsX3_init := by decide +kernel
theorem lkX3_init_21 : Cond.fieldLink RX3 21 "MuffinBells$Terrace" "tray" "I" ∈ wsX3_init := by decide +kernel
theorem lkX3_init_24 : Cond.fieldLink RX3 24 "MuffinBells$Terrace" "rang" "I" ∈ wsX3_init := by decide +kernel
theorem lkX3_init_27 : Cond.fieldLink RX3 27 "MuffinBells$Terrace" "crack" "I" ∈ wsX3_init := by decide +kernel
theorem lkX3_init_30 : Cond.fieldLink RX3 30 "MuffinBells$Terrace" "takings" "I" ∈ wsX3_init := by decide +kernel
theorem m1X3_init_aaI : Cond.arrayClass .int ∈ wsX3_init := by decide +kernel
theorem lkX3_init_33 : Cond.fieldLink RX3 33 "MuffinBells$Terrace" "kinds" "[I" ∈ wsX3_init := by decide +kernel
theorem lkX3_init_37 : Cond.fieldLink RX3 37 "MuffinBells$Terrace" "moods" "[I" ∈ wsX3_init := by decide +kernel
theorem lkX3_init_40 : Cond.fieldLink RX3 40 "MuffinBells$Terrace" "pence" "[I" ∈ wsX3_init := by decide +kernel
theorem lkX3_init_43 : Cond.fieldLink RX3 43 "MuffinBells$Terrace" "ate" "[I" ∈ wsX3_init := by decide +kernel
set_option maxRecDepth 100000 in
set_option maxHeartbeats 4000000 in
theorem c_X3_init (l : Launch) (E : gE) (b : Nat) : ctv l yX3_init wsX3_init rmX3_init E [.ref b] [(b, .inr (2, [.int 0, .int 0, .int 0, .int 0, .int 0, .int 0, .int 0, .null, .null, .null, .null]))] (fun w => ∃ q0 q1 q2 q3 : Nat, w = [(b, .inr (2, [.int 0, .int 0, .int 1, .int 40, .int (-1), .int 0, .int 0, .ref q0, .ref q1, .ref q2, .ref q3])), (q0, .inl (gI E, 8, .inl (fun _ => 0))), (q1, .inl (gI E, 8, .inl (fun _ => 10))), (q2, .inl (gI E, 8, .inl (fun _ => 30))), (q3, .inl (gI E, 8, .inl (fun _ => 0)))]) := by
  refine mt_v (cc := cX3_init) (maxL := 1) (ret := none) (lv0 := [(0, .ref b)]) (by decide) rfl rfl (Nat.le_of_ble_eq_true rfl) (fun X cx gr hI => ?_)
  refine g_aload_n cx dX3_init_0 0 rfl ?_
  refine g_oinit cx mwX3_init_oi m1X3_init_oic (by decide) (Nat.le_of_ble_eq_true rfl) dX3_init_1 ?_
  refine g_aload_n cx dX3_init_4 0 rfl ?_
  refine g_iconst (v := 0) cx dX3_init_5 (by decide) ?_
  refine g_put (C := RX3) (T := TX3) (N := 11) (ws' := [(b, .inr (2, [.int 0, .int 0, .int 0, .int 0, .int 0, .int 0, .int 0, .null, .null, .null, .null]))]) cx iwX3_init_X3 tyX3 tyX3_ok nmX3 0 0 rfl rfl (by decide) lkX3_init_9 rfl rfl rfl (Nat.le_of_ble_eq_true rfl) dX3_init_6 rfl ?_
  refine g_aload_n cx dX3_init_9 0 rfl ?_
  refine g_iconst (v := 0) cx dX3_init_10 (by decide) ?_
  refine g_put (C := RX3) (T := TX3) (N := 11) (ws' := [(b, .inr (2, [.int 0, .int 0, .int 0, .int 0, .int 0, .int 0, .int 0, .null, .null, .null, .null]))]) cx iwX3_init_X3 tyX3 tyX3_ok nmX3 0 1 rfl rfl (by decide) lkX3_init_15 rfl rfl rfl (Nat.le_of_ble_eq_true rfl) dX3_init_11 rfl ?_
  refine g_aload_n cx dX3_init_14 0 rfl ?_
  refine g_iconst (v := 1) cx dX3_init_15 (by decide) ?_
  refine g_put (C := RX3) (T := TX3) (N := 11) (ws' := [(b, .inr (2, [.int 0, .int 0, .int 1, .int 0, .int 0, .int 0, .int 0, .null, .null, .null, .null]))]) cx iwX3_init_X3 tyX3 tyX3_ok nmX3 0 2 rfl rfl (by decide) lkX3_init_18 rfl rfl rfl (Nat.le_of_ble_eq_true rfl) dX3_init_16 rfl ?_
  refine g_aload_n cx dX3_init_19 0 rfl ?_
  refine g_bipush (v := 40) cx dX3_init_20 (by decide) ?_
  refine g_put (C := RX3) (T := TX3) (N := 11) (ws' := [(b, .inr (2, [.int 0, .int 0, .int 1, .int 40, .int 0, .int 0, .int 0, .null, .null, .null, .null]))]) cx iwX3_init_X3 tyX3 tyX3_ok nmX3 0 3 rfl rfl (by decide) lkX3_init_21 rfl rfl rfl (Nat.le_of_ble_eq_true rfl) dX3_init_22 rfl ?_
  refine g_aload_n cx dX3_init_25 0 rfl ?_
  refine g_iconst (v := (-1)) cx dX3_init_26 (by decide) ?_
  refine g_put (C := RX3) (T := TX3) (N := 11) (ws' := [(b, .inr (2, [.int 0, .int 0, .int 1, .int 40, .int (-1), .int 0, .int 0, .null, .null, .null, .null]))]) cx iwX3_init_X3 tyX3 tyX3_ok nmX3 0 4 rfl rfl (by decide) lkX3_init_24 rfl rfl rfl (Nat.le_of_ble_eq_true rfl) dX3_init_27 rfl ?_
  refine g_aload_n cx dX3_init_30 0 rfl ?_
  refine g_iconst (v := 0) cx dX3_init_31 (by decide) ?_
  refine g_put (C := RX3) (T := TX3) (N := 11) (ws' := [(b, .inr (2, [.int 0, .int 0, .int 1, .int 40, .int (-1), .int 0, .int 0, .null, .null, .null, .null]))]) cx iwX3_init_X3 tyX3 tyX3_ok nmX3 0 5 rfl rfl (by decide) lkX3_init_27 rfl rfl rfl (Nat.le_of_ble_eq_true rfl) dX3_init_32 rfl ?_
  refine g_aload_n cx dX3_init_35 0 rfl ?_
  refine g_iconst (v := 0) cx dX3_init_36 (by decide) ?_
  refine g_put (C := RX3) (T := TX3) (N := 11) (ws' := [(b, .inr (2, [.int 0, .int 0, .int 1, .int 40, .int (-1), .int 0, .int 0, .null, .null, .null, .null]))]) cx iwX3_init_X3 tyX3 tyX3_ok nmX3 0 6 rfl rfl (by decide) lkX3_init_30 rfl rfl rfl (Nat.le_of_ble_eq_true rfl) dX3_init_37 rfl ?_
  refine g_aload_n cx dX3_init_40 0 rfl ?_
  refine g_bipush (v := 8) cx dX3_init_41 (by decide) ?_
  refine g_newI (N' := 8) cx m1X3_init_aaI (by decide) (by decide) (by decide) (Nat.le_of_ble_eq_true rfl) (Nat.le_of_ble_eq_true rfl) dX3_init_43 (fun q_1 => ?_)
  refine g_w (show _ = ([(b, .inr (2, [.int 0, .int 0, .int 1, .int 40, .int (-1), .int 0, .int 0, .null, .null, .null, .null])), (q_1, .inl (gI E, 8, .inl (fun _ => 0)))] : va_W) from rfl) ?_
  refine g_putF (C := RX3) (T := TX3) (N := 11) (ws' := [(b, .inr (2, [.int 0, .int 0, .int 1, .int 40, .int (-1), .int 0, .int 0, .ref q_1, .null, .null, .null])), (q_1, .inl (gI E, 8, .inl (fun _ => 0)))]) cx (hI rfl) iwX3_init_X3 tyX3 tyX3_ok nmX3 0 7 rfl rfl (by decide) lkX3_init_33 rfl rfl rfl rfl (Nat.le_of_ble_eq_true rfl) dX3_init_45 rfl ?_
  refine g_aload_n cx dX3_init_48 0 rfl ?_
  refine g_bipush (v := 8) cx dX3_init_49 (by decide) ?_
  refine g_newI (N' := 8) cx m1X3_init_aaI (by decide) (by decide) (by decide) (Nat.le_of_ble_eq_true rfl) (Nat.le_of_ble_eq_true rfl) dX3_init_51 (fun q_2 => ?_)
  refine g_w (show _ = ([(b, .inr (2, [.int 0, .int 0, .int 1, .int 40, .int (-1), .int 0, .int 0, .ref q_1, .null, .null, .null])), (q_1, .inl (gI E, 8, .inl (fun _ => 0))), (q_2, .inl (gI E, 8, .inl (fun _ => 0)))] : va_W) from rfl) ?_
  refine g_putF (C := RX3) (T := TX3) (N := 11) (ws' := [(b, .inr (2, [.int 0, .int 0, .int 1, .int 40, .int (-1), .int 0, .int 0, .ref q_1, .ref q_2, .null, .null])), (q_1, .inl (gI E, 8, .inl (fun _ => 0))), (q_2, .inl (gI E, 8, .inl (fun _ => 0)))]) cx (hI rfl) iwX3_init_X3 tyX3 tyX3_ok nmX3 0 8 rfl rfl (by decide) lkX3_init_37 rfl rfl rfl rfl (Nat.le_of_ble_eq_true rfl) dX3_init_53 rfl ?_
  refine g_aload_n cx dX3_init_56 0 rfl ?_
  refine g_bipush (v := 8) cx dX3_init_57 (by decide) ?_
  refine g_newI (N' := 8) cx m1X3_init_aaI (by decide) (by decide) (by decide) (Nat.le_of_ble_eq_true rfl) (Nat.le_of_ble_eq_true rfl) dX3_init_59 (fun q_3 => ?_)
  refine g_w (show _ = ([(b, .inr (2, [.int 0, .int 0, .int 1, .int 40, .int (-1), .int 0, .int 0, .ref q_1, .ref q_2, .null, .null])), (q_1, .inl (gI E, 8, .inl (fun _ => 0))), (q_2, .inl (gI E, 8, .inl (fun _ => 0))), (q_3, .inl (gI E, 8, .inl (fun _ => 0)))] : va_W) from rfl) ?_
  refine g_putF (C := RX3) (T := TX3) (N := 11) (ws' := [(b, .inr (2, [.int 0, .int 0, .int 1, .int 40, .int (-1), .int 0, .int 0, .ref q_1, .ref q_2, .ref q_3, .null])), (q_1, .inl (gI E, 8, .inl (fun _ => 0))), (q_2, .inl (gI E, 8, .inl (fun _ => 0))), (q_3, .inl (gI E, 8, .inl (fun _ => 0)))]) cx (hI rfl) iwX3_init_X3 tyX3 tyX3_ok nmX3 0 9 rfl rfl (by decide) lkX3_init_40 rfl rfl rfl rfl (Nat.le_of_ble_eq_true rfl) dX3_init_61 rfl ?_
  refine g_aload_n cx dX3_init_64 0 rfl ?_
  refine g_bipush (v := 8) cx dX3_init_65 (by decide) ?_
  refine g_newI (N' := 8) cx m1X3_init_aaI (by decide) (by decide) (by decide) (Nat.le_of_ble_eq_true rfl) (Nat.le_of_ble_eq_true rfl) dX3_init_67 (fun q_4 => ?_)
  refine g_w (show _ = ([(b, .inr (2, [.int 0, .int 0, .int 1, .int 40, .int (-1), .int 0, .int 0, .ref q_1, .ref q_2, .ref q_3, .null])), (q_1, .inl (gI E, 8, .inl (fun _ => 0))), (q_2, .inl (gI E, 8, .inl (fun _ => 0))), (q_3, .inl (gI E, 8, .inl (fun _ => 0))), (q_4, .inl (gI E, 8, .inl (fun _ => 0)))] : va_W) from rfl) ?_
  refine g_putF (C := RX3) (T := TX3) (N := 11) (ws' := [(b, .inr (2, [.int 0, .int 0, .int 1, .int 40, .int (-1), .int 0, .int 0, .ref q_1, .ref q_2, .ref q_3, .ref q_4])), (q_1, .inl (gI E, 8, .inl (fun _ => 0))), (q_2, .inl (gI E, 8, .inl (fun _ => 0))), (q_3, .inl (gI E, 8, .inl (fun _ => 0))), (q_4, .inl (gI E, 8, .inl (fun _ => 0)))]) cx (hI rfl) iwX3_init_X3 tyX3 tyX3_ok nmX3 0 10 rfl rfl (by decide) lkX3_init_43 rfl rfl rfl rfl (Nat.le_of_ble_eq_true rfl) dX3_init_69 rfl ?_
  refine g_aload_n cx dX3_init_72 0 rfl ?_
  refine g_get (C := RX3) (T := TX3) (N := 11) (v := .ref q_2) cx iwX3_init_X3 0 8 rfl rfl (by decide) lkX3_init_37 rfl dX3_init_73 ?_
  refine g_bipush (v := 10) cx dX3_init_76 (by decide) ?_
  refine g_Sv (rest := []) (As := [.ref q_2, .int 10]) (wr := [(b, .inr (2, [.int 0, .int 0, .int 1, .int 40, .int (-1), .int 0, .int 0, .ref q_1, .ref q_2, .ref q_3, .ref q_4])), (q_1, .inl (gI E, 8, .inl (fun _ => 0))), (q_3, .inl (gI E, 8, .inl (fun _ => 0))), (q_4, .inl (gI E, 8, .inl (fun _ => 0)))]) cx hYJ7_fill_53178 gX3_init_J7_fill_53178 (c_J7_fill_53178 l E q_2 8 (fun _ => 0) 10 (by decide)) [2] [0, 1, 3, 4] rfl rfl rfl rfl (by decide) ⟨Nat.le_of_ble_eq_true rfl, Nat.le_of_ble_eq_true rfl⟩ rfl rfl (Nat.le_of_ble_eq_true rfl) ⟨Nat.le_of_ble_eq_true rfl, Nat.le_of_ble_eq_true rfl⟩ dX3_init_78 (fun w1 hp => ?_)
  obtain rfl := hp
  refine g_w (show _ = ([(b, .inr (2, [.int 0, .int 0, .int 1, .int 40, .int (-1), .int 0, .int 0, .ref q_1, .ref q_2, .ref q_3, .ref q_4])), (q_1, .inl (gI E, 8, .inl (fun _ => 0))), (q_3, .inl (gI E, 8, .inl (fun _ => 0))), (q_4, .inl (gI E, 8, .inl (fun _ => 0))), (q_2, .inl (gI E, 8, .inl (fun _ => 10)))] : va_W) from rfl) ?_
  refine g_aload_n cx dX3_init_81 0 rfl ?_
  refine g_get (C := RX3) (T := TX3) (N := 11) (v := .ref q_3) cx iwX3_init_X3 0 9 rfl rfl (by decide) lkX3_init_40 rfl dX3_init_82 ?_
  refine g_bipush (v := 30) cx dX3_init_85 (by decide) ?_
  refine g_Sv (rest := []) (As := [.ref q_3, .int 30]) (wr := [(b, .inr (2, [.int 0, .int 0, .int 1, .int 40, .int (-1), .int 0, .int 0, .ref q_1, .ref q_2, .ref q_3, .ref q_4])), (q_1, .inl (gI E, 8, .inl (fun _ => 0))), (q_4, .inl (gI E, 8, .inl (fun _ => 0))), (q_2, .inl (gI E, 8, .inl (fun _ => 10)))]) cx hYJ7_fill_53178 gX3_init_J7_fill_53178 (c_J7_fill_53178 l E q_3 8 (fun _ => 0) 30 (by decide)) [2] [0, 1, 3, 4] rfl rfl rfl rfl (by decide) ⟨Nat.le_of_ble_eq_true rfl, Nat.le_of_ble_eq_true rfl⟩ rfl rfl (Nat.le_of_ble_eq_true rfl) ⟨Nat.le_of_ble_eq_true rfl, Nat.le_of_ble_eq_true rfl⟩ dX3_init_87 (fun w1 hp => ?_)
  obtain rfl := hp
  refine g_w (show _ = ([(b, .inr (2, [.int 0, .int 0, .int 1, .int 40, .int (-1), .int 0, .int 0, .ref q_1, .ref q_2, .ref q_3, .ref q_4])), (q_1, .inl (gI E, 8, .inl (fun _ => 0))), (q_4, .inl (gI E, 8, .inl (fun _ => 0))), (q_2, .inl (gI E, 8, .inl (fun _ => 10))), (q_3, .inl (gI E, 8, .inl (fun _ => 30)))] : va_W) from rfl) ?_
  refine g_ws (ws' := [(b, .inr (2, [.int 0, .int 0, .int 1, .int 40, .int (-1), .int 0, .int 0, .ref q_1, .ref q_2, .ref q_3, .ref q_4])), (q_1, .inl (gI E, 8, .inl (fun _ => 0))), (q_2, .inl (gI E, 8, .inl (fun _ => 10))), (q_3, .inl (gI E, 8, .inl (fun _ => 30))), (q_4, .inl (gI E, 8, .inl (fun _ => 0)))]) [0, 1, 3, 4, 2] rfl rfl ?_
  exact g_vret cx gr (Nat.le_of_ble_eq_true rfl) (Nat.le_of_ble_eq_true rfl) dX3_init_90 (⟨_, _, _, _, rfl⟩)

abbrev rmX4_init : Room := { frames := 1, cells := 0, slots := 0, locals := 20 }
theorem hYX4_init : gY yX4_init wsX4_init cX4_init 2 (none) 1 := ⟨⟨_, rfl⟩, by decide +kernel, by decide +kernel, by decide +kernel⟩
theorem mwX4_init_oi : ∀ w ∈ ([Cond.methodLink RX4 3 objectInit, Cond.instanceMethod objectInit] : List Cond), w ∈ wsX4_init := by decide +kernel
theorem m1X4_init_oic : Cond.code objectInit ⟨#[0xb1]⟩ 1 none ∈ wsX4_init := List.mem_of_getElem? (i := 3) rfl
theorem iwX4_init_X4 : ∀ w ∈ u_ws RX4 TX4 5, w ∈ wsX4_init := by decide +kernel
theorem lkX4_init_9 : Cond.fieldLink RX4 9 "MuffinBells$TerraceText" "tape" "LMuffinBells$Tape;" ∈ wsX4_init := by decide +kernel
theorem lkX4_init_15 : Cond.fieldLink RX4 15 "MuffinBells$TerraceText" "sort" "I" ∈ wsX4_init := by decide +kernel
theorem lkX4_init_19 : Cond.fieldLink RX4 19 "MuffinBells$TerraceText" "start" "I" ∈ wsX4_init := by decide +kernel
theorem lkX4_init_22 : Cond.fieldLink RX4 22 "MuffinBells$TerraceText" "end" "I" ∈ wsX4_init := by decide +kernel
theorem lkX4_init_25 : Cond.fieldLink RX4 25 "MuffinBells$TerraceText" "number" "I" ∈ wsX4_init := by decide +kernel
set_option maxRecDepth 100000 in
set_option maxHeartbeats 4000000 in
theorem c_X4_init (l : Launch) (E : gE) (b : Nat) (p : Nat) : ctv l yX4_init wsX4_init rmX4_init E [.ref b, .ref p] [(b, .inr (3, [.null, .int 0, .int 0, .int 0, .int 0]))] (fun w => w = [(b, .inr (3, [.ref p, .int 0, .int 0, .int 0, .int 0]))]) := by
  refine mt_v (cc := cX4_init) (maxL := 2) (ret := none) (lv0 := [(0, .ref b), (1, .ref p)]) (by decide) rfl rfl (Nat.le_of_ble_eq_true rfl) (fun X cx gr hI => ?_)
  refine g_aload_n cx dX4_init_0 0 rfl ?_
  refine g_oinit cx mwX4_init_oi m1X4_init_oic (by decide) (Nat.le_of_ble_eq_true rfl) dX4_init_1 ?_
  refine g_aload_n cx dX4_init_4 0 rfl ?_
  refine g_aload_n cx dX4_init_5 1 rfl ?_
  refine g_putF (C := RX4) (T := TX4) (N := 5) (ws' := [(b, .inr (3, [.ref p, .int 0, .int 0, .int 0, .int 0]))]) cx (hI rfl) iwX4_init_X4 tyX4 tyX4_ok nmX4 0 0 rfl rfl (by decide) lkX4_init_9 rfl rfl rfl rfl (Nat.le_of_ble_eq_true rfl) dX4_init_6 rfl ?_
  refine g_aload_n cx dX4_init_9 0 rfl ?_
  refine g_iconst (v := 0) cx dX4_init_10 (by decide) ?_
  refine g_put (C := RX4) (T := TX4) (N := 5) (ws' := [(b, .inr (3, [.ref p, .int 0, .int 0, .int 0, .int 0]))]) cx iwX4_init_X4 tyX4 tyX4_ok nmX4 0 1 rfl rfl (by decide) lkX4_init_15 rfl rfl rfl (Nat.le_of_ble_eq_true rfl) dX4_init_11 rfl ?_
  refine g_aload_n cx dX4_init_14 0 rfl ?_
  refine g_iconst (v := 0) cx dX4_init_15 (by decide) ?_
  refine g_put (C := RX4) (T := TX4) (N := 5) (ws' := [(b, .inr (3, [.ref p, .int 0, .int 0, .int 0, .int 0]))]) cx iwX4_init_X4 tyX4 tyX4_ok nmX4 0 2 rfl rfl (by decide) lkX4_init_19 rfl rfl rfl (Nat.le_of_ble_eq_true rfl) dX4_init_16 rfl ?_
  refine g_aload_n cx dX4_init_19 0 rfl ?_
  refine g_iconst (v := 0) cx dX4_init_20 (by decide) ?_
  refine g_put (C := RX4) (T := TX4) (N := 5) (ws' := [(b, .inr (3, [.ref p, .int 0, .int 0, .int 0, .int 0]))]) cx iwX4_init_X4 tyX4 tyX4_ok nmX4 0 3 rfl rfl (by decide) lkX4_init_22 rfl rfl rfl (Nat.le_of_ble_eq_true rfl) dX4_init_21 rfl ?_
  refine g_aload_n cx dX4_init_24 0 rfl ?_
  refine g_iconst (v := 0) cx dX4_init_25 (by decide) ?_
  refine g_put (C := RX4) (T := TX4) (N := 5) (ws' := [(b, .inr (3, [.ref p, .int 0, .int 0, .int 0, .int 0]))]) cx iwX4_init_X4 tyX4 tyX4_ok nmX4 0 4 rfl rfl (by decide) lkX4_init_25 rfl rfl rfl (Nat.le_of_ble_eq_true rfl) dX4_init_26 rfl ?_
  exact g_vret cx gr (Nat.le_of_ble_eq_true rfl) (Nat.le_of_ble_eq_true rfl) dX4_init_29 (rfl)
