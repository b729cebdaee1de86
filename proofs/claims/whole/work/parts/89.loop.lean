set_option maxRecDepth 100000 in
set_option maxHeartbeats 4000000 in
theorem law_loop {l : Launch} {X : gX} {E : gE} {a b : Nat → Nat} {b0 L : Nat} {xs : Nat → Int32} (cx : gC l X room_1 4 cL_law RL wsL_law E) (hX : gS X b0 L xs) (hL : L ≤ 3072) (hend : ∀ (ws : va_W) (lv : List (Nat × Value)), gG X 40 954 ws 1319 lv [.int 1]) : ∀ (f i : Nat) (x : Int32) (c d : Cor) (g : Gar) (h : Mar), L + 6 ≤ i + f → i ≤ L + 5 → x = nI i → Rel c d → gG X 40 954 (xW E a c g ++ mW E b d h) 18 [(0, .ref b0), (1, .ref (a 0)), (2, .ref (b 0)), (3, .int x)] [] := by
  intro f
  induction f with
  | zero =>
    intro i x c d g h h1 h2 hx hr
    omega
  | succ f ih =>
    intro i x c d g h h1 h2 hx hr
    refine g_iload_n cx dL_law_18 3 rfl ?_
    refine g_aload_n cx dL_law_19 0 rfl ?_
    refine g_slen cx hX dL_law_20 ?_
    refine g_bipush (v := 6) cx dL_law_21 (by decide) ?_
    refine g_isub cx dL_law_23 ?_
    refine g_icmp_gt (tgt := 1318) cx dL_law_24 (by decide) (fun q => ?_) (fun q => ?_)
    · refine g_iconst (v := 1) cx dL_law_1318 (by decide) ?_
      exact hend _ _
    · have hi := sc_le hx h2 hL q
      have kk : ∀ (c' d' : Cor) (g' : Gar) (h' : Mar), Rel c' d' → gG X 40 954 (xW E a c' g' ++ mW E b d' h') 1312 [(0, .ref b0), (1, .ref (a 0)), (2, .ref (b 0)), (3, .int x)] [] := by
        intro c' d' g' h' hr'
        refine g_iinc (v := x + 6) (lv' := [(3, .int (x + 6)), (0, .ref b0), (1, .ref (a 0)), (2, .ref (b 0))]) cx dL_law_1312 3 rfl rfl (by decide) rfl ?_
        refine g_goto (tgt := 18) cx dL_law_1315 (by decide) ?_
        exact g_lv [1, 2, 3, 0] rfl (ih (i + 6) (x + 6) c' d' g' h' (by omega) (by omega) (by rw [hx]; exact nI_add i 6) hr')
      refine g_aload_n cx dL_law_27 0 rfl ?_
      refine g_iload_n cx dL_law_28 3 rfl ?_
      refine g_sld cx hX (sc_in0 hx hi hL) dL_law_29 ?_
      refine g_bipush (v := 63) cx dL_law_30 (by decide) ?_
      refine g_iand cx dL_law_32 ?_
      refine g_tsw cx dL_law_33 1312 (by decide) (fun j hj cs => ?_) (fun cs => ?_)
      · rcases j with _ | _ | _ | _ | _ | _ | _ | _ | _ | _ | _ | _ | _ | _ | _ | _ | _ | _ | _ | _ | _ | _ | _ | _ | _ | _ | _ | _ | _ | _ | _ | _ | _ | _ | _ | _ | _ | _ | _ | j
        · exact ⟨_, 204, rfl, by decide, lc_man cx hX hL hi hx hr kk⟩
        · exact ⟨_, 237, rfl, by decide, lc_now cx hX hL hi hx hr kk⟩
        · exact ⟨_, 260, rfl, by decide, lc_of cx hX hL hi hx hr kk⟩
        · exact ⟨_, 293, rfl, by decide, lc_minds cx hX hL hi hx hr kk⟩
        · exact ⟨_, 326, rfl, by decide, lc_buys cx hX hL hi hx hr kk⟩
        · exact ⟨_, 359, rfl, by decide, lc_set cx hX hL hi hx hr kk⟩
        · exact ⟨_, 402, rfl, by decide, lc_turn cx hX hL hi hx hr kk⟩
        · exact ⟨_, 435, rfl, by decide, lc_as cx hX hL hi hx hr kk⟩
        · exact ⟨_, 468, rfl, by decide, lc_move cx hX hL hi hx hr kk⟩
        · exact ⟨_, 501, rfl, by decide, lc_hours cx hX hL hi hx hr kk⟩
        · exact ⟨_, 524, rfl, by decide, lc_on cx hX hL hi hx hr kk⟩
        · exact ⟨_, 567, rfl, by decide, lc_rang cx hX hL hi hx hr kk⟩
        · exact ⟨_, 590, rfl, by decide, lc_takings cx hX hL hi hx hr kk⟩
        · exact ⟨_, 613, rfl, by decide, lc_moods cx hX hL hi hx hr kk⟩
        · exact ⟨_, 636, rfl, by decide, lc_empty cx hX hL hi hx hr kk⟩
        · exact ⟨_, 649, rfl, by decide, lc_comes cx hX hL hi hx hr kk⟩
        · exact ⟨_, 672, rfl, by decide, lc_when cx hX hL hi hx hr kk⟩
        · exact ⟨_, 695, rfl, by decide, lc_begin cx hX hL hi hx hr kk⟩
        · exact ⟨_, 718, rfl, by decide, lc_way cx hX hL hi hx hr kk⟩
        · exact ⟨_, 741, rfl, by decide, lc_mood cx hX hL hi hx hr kk⟩
        · exact ⟨_, 774, rfl, by decide, lc_kind cx hX hL hi hx hr kk⟩
        · exact ⟨_, 807, rfl, by decide, lc_enough cx hX hL hi hx hr kk⟩
        · exact ⟨_, 830, rfl, by decide, lc_bears cx hX hL hi hx hr kk⟩
        · exact ⟨_, 863, rfl, by decide, lc_swap cx hX hL hi hx hr kk⟩
        · exact ⟨_, 886, rfl, by decide, lc_saddest cx hX hL hi hx hr kk⟩
        · exact ⟨_, 909, rfl, by decide, lc_feed cx hX hL hi hx hr kk⟩
        · exact ⟨_, 942, rfl, by decide, lc_wipe cx hX hL hi hx hr kk⟩
        · exact ⟨_, 955, rfl, by decide, lc_terrace cx hX hL hi hx hr kk⟩
        · exact ⟨_, 968, rfl, by decide, lc_sheet cx hX hL hi hx hr kk⟩
        · exact ⟨_, 1011, rfl, by decide, lc_write cx hX hL hi hx hr kk⟩
        · exact ⟨_, 1085, rfl, by decide, lc_copy cx hX hL hi hx hr kk⟩
        · exact ⟨_, 1148, rfl, by decide, lc_lays cx hX hL hi hx hr kk⟩
        · exact ⟨_, 1171, rfl, by decide, lc_book cx hX hL hi hx hr kk⟩
        · exact ⟨_, 1194, rfl, by decide, lc_read cx hX hL hi hx hr kk⟩
        · exact ⟨_, 1227, rfl, by decide, lc_image cx hX hL hi hx hr kk⟩
        · exact ⟨_, 1240, rfl, by decide, lc_undo cx hX hL hi hx hr kk⟩
        · exact ⟨_, 1253, rfl, by decide, lc_tear cx hX hL hi hx hr kk⟩
        · exact ⟨_, 1266, rfl, by decide, lc_count cx hX hL hi hx hr kk⟩
        · exact ⟨_, 1289, rfl, by decide, lc_status cx hX hL hi hx hr kk⟩
        · exact absurd hj (by omega)
      · exact kk _ _ _ _ hr
