set_option maxRecDepth 100000 in
set_option maxHeartbeats 4000000 in
theorem fx_ex : ∀ i, i < 12 → Cond.exactly (Term.string RX4 (gKx.getD i 0)) "java/lang/String" ∈ flatC (Jvm.Cond.and given_1 narrow_1) := by decide +kernel
set_option maxRecDepth 100000 in
set_option maxHeartbeats 4000000 in
theorem fx_co : ∀ i, i < 12 → Cond.eq (Term.field (Term.string RX4 (gKx.getD i 0)) "java/lang/String" "coder" "B") (Term.int 0) ∈ flatC (Jvm.Cond.and given_1 narrow_1) := by decide +kernel
set_option maxRecDepth 100000 in
set_option maxHeartbeats 4000000 in
theorem fx_ar : ∀ i, i < 12 → Cond.arrayOf (Term.field (Term.string RX4 (gKx.getD i 0)) "java/lang/String" "value" "[B") .byte ∈ flatC (Jvm.Cond.and given_1 narrow_1) := by decide +kernel
set_option maxRecDepth 100000 in
set_option maxHeartbeats 4000000 in
theorem fx_le : ∀ i, i < 12 → Cond.eq (Term.length (Term.field (Term.string RX4 (gKx.getD i 0)) "java/lang/String" "value" "[B")) (Term.int (Int32.ofNat (gLen.getD i 0))) ∈ flatC (Jvm.Cond.and given_1 narrow_1) := by decide +kernel
set_option maxRecDepth 100000 in
set_option maxHeartbeats 4000000 in
theorem fx_el : ∀ i, i < 12 → ∀ j, j < gLen.getD i 0 → Cond.eq (Term.elem (Term.field (Term.string RX4 (gKx.getD i 0)) "java/lang/String" "value" "[B") (Term.int (Int32.ofNat j))) (Term.int ((gByt.getD i []).getD j 0)) ∈ flatC (Jvm.Cond.and given_1 narrow_1) := by decide +kernel
set_option maxRecDepth 100000 in
set_option maxHeartbeats 4000000 in
theorem fx_ne : ∀ i, i < 12 → ∀ j, j < 12 → i ≠ j → Cond.not (Cond.eq (Term.string RX4 (gKx.getD i 0)) (Term.string RX4 (gKx.getD j 0))) ∈ flatC (Jvm.Cond.and given_1 narrow_1) ∨ Cond.not (Cond.eq (Term.string RX4 (gKx.getD j 0)) (Term.string RX4 (gKx.getD i 0))) ∈ flatC (Jvm.Cond.and given_1 narrow_1) := by decide +kernel
set_option maxRecDepth 100000 in
set_option maxHeartbeats 4000000 in
theorem fx_sr : ∀ i, i < 12 → lw_tbl[([574, 580, 585, 572, 573, 579, 506, 507, 508, 509, 510, 511] : List Nat).getD i 0]? = some (Cond.stringRef RX4 (gKx.getD i 0) (gTx.getD i "")) := by decide +kernel
set_option maxRecDepth 100000 in
set_option maxHeartbeats 4000000 in
theorem fx_cs : Cond.eq (Term.static "java/lang/String" "COMPACT_STRINGS" "Z") (Term.int 1) ∈ flatC (Jvm.Cond.and given_1 narrow_1) := by decide +kernel
set_option maxRecDepth 100000 in
set_option maxHeartbeats 4000000 in
theorem fx_fo : Cond.isRef (Term.static "jdk/internal/util/Preconditions" "SIOOBE_FORMATTER" "Ljava/util/function/BiFunction;") ∈ flatC (Jvm.Cond.and given_1 narrow_1) := by decide +kernel
set_option maxRecDepth 100000 in
set_option maxHeartbeats 4000000 in
/-- the classes, arrays, texts and statics that the law starts with -/
theorem law_env {s : State} {b : Nat} (hts : ∀ w ∈ lw_tbl, w.before #[Value.ref b] s = true) (hgv : (Jvm.Cond.and given_1 narrow_1).before #[Value.ref b] s = true) : ∃ E : gE, gEV E (fun q => s.heap.size ≤ q) s s.heap := by
  have hs := flat_of_before _ hgv
  have tb : ∀ (i : Nat) (w : Cond), lw_tbl[i]? = some w → w.before #[Value.ref b] s = true := fun i w h => hts w (List.mem_of_getElem? h)
  have hA : ∀ q : Nat, q < s.heap.size → ¬ (fun q : Nat => s.heap.size ≤ q) q := fun q h r => absurd h (Nat.not_lt.mpr r)
  obtain ⟨cX1, iX1, kX1⟩ := u_known (C := RX1) (T := TX1) (N := 3) (n := 3) hts li_wsX10 (tb 177 (.instantiable RX1 3) rfl)
  obtain ⟨cX2, iX2, kX2⟩ := u_known (C := RX2) (T := TX2) (N := 2) (n := 2) hts li_wsX20 (tb 138 (.instantiable RX2 2) rfl)
  obtain ⟨cX3, iX3, kX3⟩ := u_known (C := RX3) (T := TX3) (N := 11) (n := 11) hts li_wsX30 (tb 76 (.instantiable RX3 11) rfl)
  obtain ⟨cX4, iX4, kX4⟩ := u_known (C := RX4) (T := TX4) (N := 5) (n := 5) hts li_wsX40 (tb 154 (.instantiable RX4 5) rfl)
  obtain ⟨cX5, iX5, kX5⟩ := u_known (C := RX5) (T := TX5) (N := 8) (n := 8) hts li_wsX50 (tb 68 (.instantiable RX5 8) rfl)
  obtain ⟨cX6, iX6, kX6⟩ := u_known (C := RX6) (T := TX6) (N := 16) (n := 16) hts li_wsX60 (tb 673 (.instantiable RX6 16) rfl)
  obtain ⟨dC, dI, hKc⟩ : ∃ (dC : Nat → ClassId) (dI : Nat → Nat → Nat), ∀ (k : Nat) (q : vw_C), vwCl[k]? = some q → u_Kn s q.1 q.2.1 q.2.2 (dC k) (dI k) := by
    refine ⟨fun k => if k = 0 then cX1 else if k = 1 then cX2 else if k = 2 then cX3 else if k = 3 then cX4 else if k = 4 then cX5 else cX6, fun k => if k = 0 then iX1 else if k = 1 then iX2 else if k = 2 then iX3 else if k = 3 then iX4 else if k = 4 then iX5 else iX6, ?_⟩
    intro k q hq
    match k, hq with
    | 0, hq => cases hq; exact kX1
    | 1, hq => cases hq; exact kX2
    | 2, hq => cases hq; exact kX3
    | 3, hq => cases hq; exact kX4
    | 4, hq => cases hq; exact kX5
    | 5, hq => cases hq; exact kX6
    | k + 6, hq => simp [vwCl] at hq
  obtain ⟨cI, kI, pI, a1, a2, a3⟩ := Cond.arrayClass_spec (tb 136 (.arrayClass .int) rfl)
  obtain ⟨cJ, kJ, pJ, j1, j2, j3⟩ := Cond.arrayClass_spec (tb 195 (.arrayClass .long) rfl)
  obtain ⟨pO, cO, kO, o1, o2, o3, o4, o5⟩ := Cond.arrayOver_spec (tb 176 (.arrayOver (.object RX1)) rfl)
  obtain ⟨adK, adV, hS, hT⟩ := vk_Sof (args := #[Value.ref b]) (s := s) (N := 12) (tm := fun i => Term.string RX4 (gKx.getD i 0)) (len := gLen) (byt := gByt) (A := fun q => s.heap.size ≤ q) gl_lt (fun i hi => hs _ (fx_ex i hi)) (fun i hi => hs _ (fx_co i hi)) (fun i hi => hs _ (fx_ar i hi)) (fun i hi => hs _ (fx_le i hi)) (fun i hi j hj => hs _ (fx_el i hi j hj)) (fun i j hi hj hij => (fx_ne i hi j hj hij).imp (hs _) (hs _)) hA
  refine ⟨((dC, dI), (cI, cJ, cO), adK, adV), ⟨hKc, ?_⟩, ⟨va_Nw.of rfl (tb 317 (.methodLinkNest RX0 9 yX5_isWithin "MuffinBells") rfl), va_Nw.of rfl (tb 337 (.methodLinkNest RX3 76 yX5_exchange "MuffinBells") rfl), va_Nw.of rfl (tb 358 (.methodLinkNest RX3 99 yX5_held "MuffinBells") rfl)⟩, fun i hi => vk_R.of (tb _ _ (fx_sr i hi)) (hT i hi), hS, va_Zof (tb 525 (.laysStatic "java/lang/String" "COMPACT_STRINGS" "Z") rfl) (tb 63 (.initialized "java/lang/String") rfl) (Cond.eq_int (hs _ fx_cs) rfl) hA, va_Zqof (tb 541 (.laysStatic "jdk/internal/util/Preconditions" "SIOOBE_FORMATTER" "Ljava/util/function/BiFunction;") rfl) (tb 65 (.initialized "jdk/internal/util/Preconditions") rfl) (hs _ fx_fo) hA, va_AO.of (tb 176 (.arrayOver (.object RX1)) rfl)⟩
  intro k q hq
  match k, hq with
  | 0, hq => cases hq; exact ⟨fun n z => ⟨fun k h => (by cases h), kI, a2, pI, a3⟩, a1⟩
  | 1, hq => cases hq; exact ⟨fun n z => ⟨fun k h => (by cases h), kJ, j2, pJ, j3⟩, j1⟩
  | 2, hq => cases hq; exact ⟨fun n z => ⟨fun k h => (by cases h), kO, o3, pO, o4⟩, kO, pO, o3, o4, o1, o5⟩
  | k + 3, hq => simp [gty] at hq
