set_option maxRecDepth 100000 in
set_option maxHeartbeats 4000000 in
theorem iwL_X5 : ∀ w ∈ u_ws RX5 TX5 8, w ∈ wsL_law := mem_pos [936, 937, 938, 939, 940, 941, 942, 943] rfl
set_option maxRecDepth 100000 in
set_option maxHeartbeats 4000000 in
theorem iwL_X6 : ∀ w ∈ u_ws RX6 TX6 16, w ∈ wsL_law := mem_pos [944, 945, 946, 947, 948, 949, 950, 951, 952, 953, 954, 955, 956, 957, 958, 959] rfl
set_option maxRecDepth 100000 in
set_option maxHeartbeats 4000000 in
theorem mwL_n5 : ∀ w ∈ [Cond.classLink RL 7 RX5, Cond.instantiable RX5 8, Cond.initialized RX5], w ∈ wsL_law := mem_pos [0, 1, 2] rfl
set_option maxRecDepth 100000 in
set_option maxHeartbeats 4000000 in
theorem mwL_n6 : ∀ w ∈ [Cond.classLink RL 10 RX6, Cond.instantiable RX6 16, Cond.initialized RX6], w ∈ wsL_law := mem_pos [3, 4, 5] rfl
set_option maxRecDepth 100000 in
set_option maxHeartbeats 4000000 in
theorem mwL_i5 : ∀ w ∈ [Cond.initialized yX5_init.cls, Cond.methodLink RL 9 yX5_init, Cond.instanceMethod yX5_init], w ∈ wsL_law := mem_pos [2, 7, 8] rfl
set_option maxRecDepth 100000 in
set_option maxHeartbeats 4000000 in
theorem mwL_i6 : ∀ w ∈ [Cond.initialized yX6_init.cls, Cond.methodLink RL 12 yX6_init, Cond.instanceMethod yX6_init], w ∈ wsL_law := mem_pos [5, 76, 77] rfl
set_option maxRecDepth 100000 in
set_option maxHeartbeats 4000000 in
theorem law_main {l : Launch} {X : gX} {E : gE} {b0 L : Nat} {xs : Nat → Int32} (cx : gC l X room_1 4 cL_law RL wsL_law E) (hX : gS X b0 L xs) (hL : L ≤ 3072) (hend : ∀ (ws : va_W) (lv : List (Nat × Value)), gG X 40 954 ws 1319 lv [.int 1]) : gG X 0 0 [] 0 [(0, .ref b0)] [] := by
  refine g_new (C := RX5) (T := TX5) (N := 8) (ci := 4) (fs := [.null, .null, .null, .int 0, .null, .null, .null, .null]) cx iwL_X5 tyX5 tyX5_ok mwL_n5 rfl dfX5 (Nat.le_of_ble_eq_true rfl) (Nat.le_of_ble_eq_true rfl) dL_law_0 (fun q1 => ?_)
  refine g_w (show _ = ([(q1, .inr (4, [.null, .null, .null, .int 0, .null, .null, .null, .null]))] : va_W) from rfl) ?_
  refine g_dup cx dL_law_3 rfl ?_
  refine g_I (ret := none) (rest := [.ref q1]) (As := []) (wr := []) cx hYX5_init gL_law_X5_init rfl mwL_i5 (c_X5_init l E q1) [0] [] rfl rfl rfl rfl (by decide) ⟨Nat.le_of_ble_eq_true rfl, Nat.le_of_ble_eq_true rfl⟩ rfl rfl (Nat.le_of_ble_eq_true rfl) ⟨Nat.le_of_ble_eq_true rfl, Nat.le_of_ble_eq_true rfl⟩ dL_law_4 (fun w1 hp => ?_)
  obtain ⟨a, rfl, rfl⟩ := hp
  refine g_w (show _ = xW E a (cR0 tR0) (tR0, 0, 0, 0, 0) from rfl) ?_
  refine g_astore_n (lv' := [(1, .ref (a 0)), (0, .ref b0)]) cx dL_law_7 (by decide) rfl ?_
  refine g_new (C := RX6) (T := TX6) (N := 16) (ci := 5) (fs := [.null, .null, .null, .null, .null, .int 0, .null, .int 0, .int 0, .int 0, .int 0, .int 0, .null, .null, .null, .null]) cx iwL_X6 tyX6 tyX6_ok mwL_n6 rfl dfX6 (Nat.le_of_ble_eq_true rfl) (Nat.le_of_ble_eq_true rfl) dL_law_8 (fun q2 => ?_)
  refine g_dup cx dL_law_11 rfl ?_
  refine g_I (ret := none) (rest := [.ref q2]) (As := []) (wr := xW E a (cR0 tR0) (tR0, 0, 0, 0, 0)) cx hYX6_init gL_law_X6_init rfl mwL_i6 (c_X6_init l E q2) [29] [0, 1, 2, 3, 4, 5, 6, 7, 8, 9, 10, 11, 12, 13, 14, 15, 16, 17, 18, 19, 20, 21, 22, 23, 24, 25, 26, 27, 28] rfl rfl rfl rfl (by decide) ⟨Nat.le_of_ble_eq_true rfl, Nat.le_of_ble_eq_true rfl⟩ rfl rfl (Nat.le_of_ble_eq_true rfl) ⟨Nat.le_of_ble_eq_true rfl, Nat.le_of_ble_eq_true rfl⟩ dL_law_12 (fun w1 hp => ?_)
  obtain ⟨a2, rfl, rfl⟩ := hp
  refine g_astore_n (lv' := [(2, .ref (a2 0)), (1, .ref (a 0)), (0, .ref b0)]) cx dL_law_15 (by decide) rfl ?_
  refine g_iconst (v := 0) cx dL_law_16 (by decide) ?_
  refine g_istore_n (lv' := [(3, .int 0), (2, .ref (a2 0)), (1, .ref (a 0)), (0, .ref b0)]) cx dL_law_17 (by decide) rfl ?_
  refine g_wd (k' := 40) (n' := 954) (Nat.le_of_ble_eq_true rfl) (Nat.le_of_ble_eq_true rfl) ?_
  exact g_lv [3, 2, 1, 0] rfl (law_loop cx hX hL hend (L + 6) 0 0 _ _ _ _ (by omega) (by omega) rfl Rel_0)

set_option maxRecDepth 100000 in
set_option maxHeartbeats 4000000 in
/-- YOUR PART: from the entry, for every script of at most 3072 ints, the law comes to its end with true -/
theorem whole_start {p : Program} {e : Env} {s : State} {m : MethodId} {below : List Frame} {meth : Method} {c : Code} (l : Launch) {b L : Nat} {xs : Nat → Int32} (hL : L ≤ 3072) (C0 : lw_At p s m meth c b L xs) : W p l e room_1 s m #[Value.ref b] below meth c s.heap [] 0 0 (lw_Z below #[Value.ref b] s) (entryFrame m ([Value.ref b] : List Value).toArray 4) := by
  obtain ⟨hx, hb, hr, hml, hown, hts0, hX, hbl, hlocks, hgv⟩ := C0
  obtain ⟨E, hEV⟩ := law_env hts0 hgv
  have cx : gC l (lX p l e s m b below meth c E) room_1 4 cL_law RL wsL_law E := ⟨rfl, rfl, rfl, rfl, hx, hb, hml, hown, fun w hw => hts0 w (wsL_law_in w hw), hEV, fun q h => h⟩
  have hgS : gS (lX p l e s m b below meth c E) b L xs := ⟨hX, hbl, Nat.not_le.mpr hbl⟩
  have main := law_main cx hgS hL (fun ws lv => g_lend hx hb hr hlocks (by decide) (by decide) dL_law_1319)
  have hP : va_P E.1 vwCl [] s.heap := fun k q h => by simp at h
  have hD : va_D (fun q : Nat => s.heap.size ≤ q) [] := ⟨fun i j p q h => by simp at h, fun k q h => by simp at h⟩
  have hl := lv_entry ([.ref b]) (n := 4) (Nat.le_of_ble_eq_true rfl)
  rw [lg_entry_eq]
  exact main s.heap [] _ hP hD va_S.rf hl
