set_option maxRecDepth 100000 in
set_option maxHeartbeats 4000000 in
theorem lc_moods {l : Launch} {X : gX} {E : gE} {a b : Nat → Nat} {c d : Cor} {g : Gar} {h : Mar} {b0 L i : Nat} {xs : Nat → Int32} {x : Int32} (cx : gC l X room_1 4 cL_law RL wsL_law E) (hX : gS X b0 L xs) (hL : L ≤ 3072) (hi : i + 6 ≤ L) (hx : x = nI i) (hr : Rel c d) (kk : ∀ (c' d' : Cor) (g' : Gar) (h' : Mar), Rel c' d' → gG X 40 954 (xW E a c' g' ++ mW E b d' h') 1312 [(0, .ref b0), (1, .ref (a 0)), (2, .ref (b 0)), (3, .int x)] []) : gG X 40 954 (xW E a c g ++ mW E b d h) 613 [(0, .ref b0), (1, .ref (a 0)), (2, .ref (b 0)), (3, .int x)] [] := by
  refine g_aload_n cx dL_law_613 1 rfl ?_
  refine g_aload_n cx dL_law_614 0 rfl ?_
  refine g_iload_n cx dL_law_615 3 rfl ?_
  refine g_iconst (v := 1) cx dL_law_616 (by decide) ?_
  refine g_iadd cx dL_law_617 ?_
  refine g_sld cx hX (sc_in hx hi hL 1 (by decide)) dL_law_618 ?_
  refine g_LXi (rest := []) (As := [.int (xs (x + 1 : Int32).toNatClampNeg)]) cx hYX5_moods gL_law_X5_moods (c_X5_moods l E a c g (xs (x + 1 : Int32).toNatClampNeg) hr.1) rfl ⟨Nat.le_of_ble_eq_true rfl, Nat.le_of_ble_eq_true rfl⟩ rfl rfl (Nat.le_of_ble_eq_true rfl) rfl rfl (Nat.le_of_ble_eq_true rfl) (Nat.le_of_ble_eq_true rfl) dL_law_619 (fun g1 => ?_)
  refine g_aload_n cx dL_law_622 2 rfl ?_
  refine g_aload_n cx dL_law_623 0 rfl ?_
  refine g_iload_n cx dL_law_624 3 rfl ?_
  refine g_iconst (v := 1) cx dL_law_625 (by decide) ?_
  refine g_iadd cx dL_law_626 ?_
  refine g_sld cx hX (sc_in hx hi hL 1 (by decide)) dL_law_627 ?_
  refine g_LMi (rest := [.int ((sp_moods c (xs (x + 1 : Int32).toNatClampNeg)).1)]) (As := [.int (xs (x + 1 : Int32).toNatClampNeg)]) cx hYX6_moods gL_law_X6_moods (c_X6_moods l E b d h (xs (x + 1 : Int32).toNatClampNeg) hr.2.1) rfl ⟨Nat.le_of_ble_eq_true rfl, Nat.le_of_ble_eq_true rfl⟩ rfl rfl (Nat.le_of_ble_eq_true rfl) rfl rfl (Nat.le_of_ble_eq_true rfl) (Nat.le_of_ble_eq_true rfl) dL_law_628 (fun g2 => ?_)
  refine g_icmp_eq (tgt := 1312) cx dL_law_631 (by decide) (fun _ => ?_) (fun q => absurd (re_moods hr (xs (x + 1 : Int32).toNatClampNeg)).1 q)
  exact kk _ _ _ _ (re_moods hr (xs (x + 1 : Int32).toNatClampNeg)).2

set_option maxRecDepth 100000 in
set_option maxHeartbeats 4000000 in
theorem lc_empty {l : Launch} {X : gX} {E : gE} {a b : Nat → Nat} {c d : Cor} {g : Gar} {h : Mar} {b0 L i : Nat} {xs : Nat → Int32} {x : Int32} (cx : gC l X room_1 4 cL_law RL wsL_law E) (hX : gS X b0 L xs) (hL : L ≤ 3072) (hi : i + 6 ≤ L) (hx : x = nI i) (hr : Rel c d) (kk : ∀ (c' d' : Cor) (g' : Gar) (h' : Mar), Rel c' d' → gG X 40 954 (xW E a c' g' ++ mW E b d' h') 1312 [(0, .ref b0), (1, .ref (a 0)), (2, .ref (b 0)), (3, .int x)] []) : gG X 40 954 (xW E a c g ++ mW E b d h) 636 [(0, .ref b0), (1, .ref (a 0)), (2, .ref (b 0)), (3, .int x)] [] := by
  refine g_aload_n cx dL_law_636 1 rfl ?_
  refine g_LXi (rest := []) (As := []) cx hYX5_empty gL_law_X5_empty (c_X5_empty l E a c g hr.1) rfl ⟨Nat.le_of_ble_eq_true rfl, Nat.le_of_ble_eq_true rfl⟩ rfl rfl (Nat.le_of_ble_eq_true rfl) rfl rfl (Nat.le_of_ble_eq_true rfl) (Nat.le_of_ble_eq_true rfl) dL_law_637 (fun g1 => ?_)
  refine g_aload_n cx dL_law_640 2 rfl ?_
  refine g_LMi (rest := [.int ((sp_empty c).1)]) (As := []) cx hYX6_empty gL_law_X6_empty (c_X6_empty l E b d h hr.2.1) rfl ⟨Nat.le_of_ble_eq_true rfl, Nat.le_of_ble_eq_true rfl⟩ rfl rfl (Nat.le_of_ble_eq_true rfl) rfl rfl (Nat.le_of_ble_eq_true rfl) (Nat.le_of_ble_eq_true rfl) dL_law_641 (fun g2 => ?_)
  refine g_icmp_eq (tgt := 1312) cx dL_law_644 (by decide) (fun _ => ?_) (fun q => absurd (re_empty hr).1 q)
  exact kk _ _ _ _ (re_empty hr).2

set_option maxRecDepth 100000 in
set_option maxHeartbeats 4000000 in
theorem lc_comes {l : Launch} {X : gX} {E : gE} {a b : Nat → Nat} {c d : Cor} {g : Gar} {h : Mar} {b0 L i : Nat} {xs : Nat → Int32} {x : Int32} (cx : gC l X room_1 4 cL_law RL wsL_law E) (hX : gS X b0 L xs) (hL : L ≤ 3072) (hi : i + 6 ≤ L) (hx : x = nI i) (hr : Rel c d) (kk : ∀ (c' d' : Cor) (g' : Gar) (h' : Mar), Rel c' d' → gG X 40 954 (xW E a c' g' ++ mW E b d' h') 1312 [(0, .ref b0), (1, .ref (a 0)), (2, .ref (b 0)), (3, .int x)] []) : gG X 40 954 (xW E a c g ++ mW E b d h) 649 [(0, .ref b0), (1, .ref (a 0)), (2, .ref (b 0)), (3, .int x)] [] := by
  refine g_aload_n cx dL_law_649 1 rfl ?_
  refine g_aload_n cx dL_law_650 0 rfl ?_
  refine g_iload_n cx dL_law_651 3 rfl ?_
  refine g_iconst (v := 1) cx dL_law_652 (by decide) ?_
  refine g_iadd cx dL_law_653 ?_
  refine g_sld cx hX (sc_in hx hi hL 1 (by decide)) dL_law_654 ?_
  refine g_LXi (rest := []) (As := [.int (xs (x + 1 : Int32).toNatClampNeg)]) cx hYX5_comes gL_law_X5_comes (c_X5_comes l E a c g (xs (x + 1 : Int32).toNatClampNeg) hr.1) rfl ⟨Nat.le_of_ble_eq_true rfl, Nat.le_of_ble_eq_true rfl⟩ rfl rfl (Nat.le_of_ble_eq_true rfl) rfl rfl (Nat.le_of_ble_eq_true rfl) (Nat.le_of_ble_eq_true rfl) dL_law_655 (fun g1 => ?_)
  refine g_aload_n cx dL_law_658 2 rfl ?_
  refine g_aload_n cx dL_law_659 0 rfl ?_
  refine g_iload_n cx dL_law_660 3 rfl ?_
  refine g_iconst (v := 1) cx dL_law_661 (by decide) ?_
  refine g_iadd cx dL_law_662 ?_
  refine g_sld cx hX (sc_in hx hi hL 1 (by decide)) dL_law_663 ?_
  refine g_LMi (rest := [.int ((sp_comes c (xs (x + 1 : Int32).toNatClampNeg)).1)]) (As := [.int (xs (x + 1 : Int32).toNatClampNeg)]) cx hYX6_comes gL_law_X6_comes (c_X6_comes l E b d h (xs (x + 1 : Int32).toNatClampNeg) hr.2.1) rfl ⟨Nat.le_of_ble_eq_true rfl, Nat.le_of_ble_eq_true rfl⟩ rfl rfl (Nat.le_of_ble_eq_true rfl) rfl rfl (Nat.le_of_ble_eq_true rfl) (Nat.le_of_ble_eq_true rfl) dL_law_664 (fun g2 => ?_)
  refine g_icmp_eq (tgt := 1312) cx dL_law_667 (by decide) (fun _ => ?_) (fun q => absurd (re_comes hr (xs (x + 1 : Int32).toNatClampNeg)).1 q)
  exact kk _ _ _ _ (re_comes hr (xs (x + 1 : Int32).toNatClampNeg)).2

set_option maxRecDepth 100000 in
set_option maxHeartbeats 4000000 in
theorem lc_when {l : Launch} {X : gX} {E : gE} {a b : Nat → Nat} {c d : Cor} {g : Gar} {h : Mar} {b0 L i : Nat} {xs : Nat → Int32} {x : Int32} (cx : gC l X room_1 4 cL_law RL wsL_law E) (hX : gS X b0 L xs) (hL : L ≤ 3072) (hi : i + 6 ≤ L) (hx : x = nI i) (hr : Rel c d) (kk : ∀ (c' d' : Cor) (g' : Gar) (h' : Mar), Rel c' d' → gG X 40 954 (xW E a c' g' ++ mW E b d' h') 1312 [(0, .ref b0), (1, .ref (a 0)), (2, .ref (b 0)), (3, .int x)] []) : gG X 40 954 (xW E a c g ++ mW E b d h) 672 [(0, .ref b0), (1, .ref (a 0)), (2, .ref (b 0)), (3, .int x)] [] := by
  refine g_aload_n cx dL_law_672 1 rfl ?_
  refine g_aload_n cx dL_law_673 0 rfl ?_
  refine g_iload_n cx dL_law_674 3 rfl ?_
  refine g_iconst (v := 1) cx dL_law_675 (by decide) ?_
  refine g_iadd cx dL_law_676 ?_
  refine g_sld cx hX (sc_in hx hi hL 1 (by decide)) dL_law_677 ?_
  refine g_LXi (rest := []) (As := [.int (xs (x + 1 : Int32).toNatClampNeg)]) cx hYX5_when gL_law_X5_when (c_X5_when l E a c g (xs (x + 1 : Int32).toNatClampNeg) hr.1) rfl ⟨Nat.le_of_ble_eq_true rfl, Nat.le_of_ble_eq_true rfl⟩ rfl rfl (Nat.le_of_ble_eq_true rfl) rfl rfl (Nat.le_of_ble_eq_true rfl) (Nat.le_of_ble_eq_true rfl) dL_law_678 (fun g1 => ?_)
  refine g_aload_n cx dL_law_681 2 rfl ?_
  refine g_aload_n cx dL_law_682 0 rfl ?_
  refine g_iload_n cx dL_law_683 3 rfl ?_
  refine g_iconst (v := 1) cx dL_law_684 (by decide) ?_
  refine g_iadd cx dL_law_685 ?_
  refine g_sld cx hX (sc_in hx hi hL 1 (by decide)) dL_law_686 ?_
  refine g_LMi (rest := [.int ((sp_when c (xs (x + 1 : Int32).toNatClampNeg)).1)]) (As := [.int (xs (x + 1 : Int32).toNatClampNeg)]) cx hYX6_when gL_law_X6_when (c_X6_when l E b d h (xs (x + 1 : Int32).toNatClampNeg) hr.2.1) rfl ⟨Nat.le_of_ble_eq_true rfl, Nat.le_of_ble_eq_true rfl⟩ rfl rfl (Nat.le_of_ble_eq_true rfl) rfl rfl (Nat.le_of_ble_eq_true rfl) (Nat.le_of_ble_eq_true rfl) dL_law_687 (fun g2 => ?_)
  refine g_icmp_eq (tgt := 1312) cx dL_law_690 (by decide) (fun _ => ?_) (fun q => absurd (re_when hr (xs (x + 1 : Int32).toNatClampNeg)).1 q)
  exact kk _ _ _ _ (re_when hr (xs (x + 1 : Int32).toNatClampNeg)).2

set_option maxRecDepth 100000 in
set_option maxHeartbeats 4000000 in
theorem lc_begin {l : Launch} {X : gX} {E : gE} {a b : Nat → Nat} {c d : Cor} {g : Gar} {h : Mar} {b0 L i : Nat} {xs : Nat → Int32} {x : Int32} (cx : gC l X room_1 4 cL_law RL wsL_law E) (hX : gS X b0 L xs) (hL : L ≤ 3072) (hi : i + 6 ≤ L) (hx : x = nI i) (hr : Rel c d) (kk : ∀ (c' d' : Cor) (g' : Gar) (h' : Mar), Rel c' d' → gG X 40 954 (xW E a c' g' ++ mW E b d' h') 1312 [(0, .ref b0), (1, .ref (a 0)), (2, .ref (b 0)), (3, .int x)] []) : gG X 40 954 (xW E a c g ++ mW E b d h) 695 [(0, .ref b0), (1, .ref (a 0)), (2, .ref (b 0)), (3, .int x)] [] := by
  refine g_aload_n cx dL_law_695 1 rfl ?_
  refine g_aload_n cx dL_law_696 0 rfl ?_
  refine g_iload_n cx dL_law_697 3 rfl ?_
  refine g_iconst (v := 1) cx dL_law_698 (by decide) ?_
  refine g_iadd cx dL_law_699 ?_
  refine g_sld cx hX (sc_in hx hi hL 1 (by decide)) dL_law_700 ?_
  refine g_LXi (rest := []) (As := [.int (xs (x + 1 : Int32).toNatClampNeg)]) cx hYX5_begin gL_law_X5_begin (c_X5_begin l E a c g (xs (x + 1 : Int32).toNatClampNeg) hr.1) rfl ⟨Nat.le_of_ble_eq_true rfl, Nat.le_of_ble_eq_true rfl⟩ rfl rfl (Nat.le_of_ble_eq_true rfl) rfl rfl (Nat.le_of_ble_eq_true rfl) (Nat.le_of_ble_eq_true rfl) dL_law_701 (fun g1 => ?_)
  refine g_aload_n cx dL_law_704 2 rfl ?_
  refine g_aload_n cx dL_law_705 0 rfl ?_
  refine g_iload_n cx dL_law_706 3 rfl ?_
  refine g_iconst (v := 1) cx dL_law_707 (by decide) ?_
  refine g_iadd cx dL_law_708 ?_
  refine g_sld cx hX (sc_in hx hi hL 1 (by decide)) dL_law_709 ?_
  refine g_LMi (rest := [.int ((sp_begin c (xs (x + 1 : Int32).toNatClampNeg)).1)]) (As := [.int (xs (x + 1 : Int32).toNatClampNeg)]) cx hYX6_begin gL_law_X6_begin (c_X6_begin l E b d h (xs (x + 1 : Int32).toNatClampNeg) hr.2.1) rfl ⟨Nat.le_of_ble_eq_true rfl, Nat.le_of_ble_eq_true rfl⟩ rfl rfl (Nat.le_of_ble_eq_true rfl) rfl rfl (Nat.le_of_ble_eq_true rfl) (Nat.le_of_ble_eq_true rfl) dL_law_710 (fun g2 => ?_)
  refine g_icmp_eq (tgt := 1312) cx dL_law_713 (by decide) (fun _ => ?_) (fun q => absurd (re_begin hr (xs (x + 1 : Int32).toNatClampNeg)).1 q)
  exact kk _ _ _ _ (re_begin hr (xs (x + 1 : Int32).toNatClampNeg)).2

set_option maxRecDepth 100000 in
set_option maxHeartbeats 4000000 in
theorem lc_way {l : Launch} {X : gX} {E : gE} {a b : Nat → Nat} {c d : Cor} {g : Gar} {h : Mar} {b0 L i : Nat} {xs : Nat → Int32} {x : Int32} (cx : gC l X room_1 4 cL_law RL wsL_law E) (hX : gS X b0 L xs) (hL : L ≤ 3072) (hi : i + 6 ≤ L) (hx : x = nI i) (hr : Rel c d) (kk : ∀ (c' d' : Cor) (g' : Gar) (h' : Mar), Rel c' d' → gG X 40 954 (xW E a c' g' ++ mW E b d' h') 1312 [(0, .ref b0), (1, .ref (a 0)), (2, .ref (b 0)), (3, .int x)] []) : gG X 40 954 (xW E a c g ++ mW E b d h) 718 [(0, .ref b0), (1, .ref (a 0)), (2, .ref (b 0)), (3, .int x)] [] := by
  refine g_aload_n cx dL_law_718 1 rfl ?_
  refine g_aload_n cx dL_law_719 0 rfl ?_
  refine g_iload_n cx dL_law_720 3 rfl ?_
  refine g_iconst (v := 1) cx dL_law_721 (by decide) ?_
  refine g_iadd cx dL_law_722 ?_
  refine g_sld cx hX (sc_in hx hi hL 1 (by decide)) dL_law_723 ?_
  refine g_LXi (rest := []) (As := [.int (xs (x + 1 : Int32).toNatClampNeg)]) cx hYX5_way gL_law_X5_way (c_X5_way l E a c g (xs (x + 1 : Int32).toNatClampNeg) hr.1) rfl ⟨Nat.le_of_ble_eq_true rfl, Nat.le_of_ble_eq_true rfl⟩ rfl rfl (Nat.le_of_ble_eq_true rfl) rfl rfl (Nat.le_of_ble_eq_true rfl) (Nat.le_of_ble_eq_true rfl) dL_law_724 (fun g1 => ?_)
  refine g_aload_n cx dL_law_727 2 rfl ?_
  refine g_aload_n cx dL_law_728 0 rfl ?_
  refine g_iload_n cx dL_law_729 3 rfl ?_
  refine g_iconst (v := 1) cx dL_law_730 (by decide) ?_
  refine g_iadd cx dL_law_731 ?_
  refine g_sld cx hX (sc_in hx hi hL 1 (by decide)) dL_law_732 ?_
  refine g_LMi (rest := [.int ((sp_way c (xs (x + 1 : Int32).toNatClampNeg)).1)]) (As := [.int (xs (x + 1 : Int32).toNatClampNeg)]) cx hYX6_way gL_law_X6_way (c_X6_way l E b d h (xs (x + 1 : Int32).toNatClampNeg) hr.2.1) rfl ⟨Nat.le_of_ble_eq_true rfl, Nat.le_of_ble_eq_true rfl⟩ rfl rfl (Nat.le_of_ble_eq_true rfl) rfl rfl (Nat.le_of_ble_eq_true rfl) (Nat.le_of_ble_eq_true rfl) dL_law_733 (fun g2 => ?_)
  refine g_icmp_eq (tgt := 1312) cx dL_law_736 (by decide) (fun _ => ?_) (fun q => absurd (re_way hr (xs (x + 1 : Int32).toNatClampNeg)).1 q)
  exact kk _ _ _ _ (re_way hr (xs (x + 1 : Int32).toNatClampNeg)).2

set_option maxRecDepth 100000 in
set_option maxHeartbeats 4000000 in
theorem lc_mood {l : Launch} {X : gX} {E : gE} {a b : Nat → Nat} {c d : Cor} {g : Gar} {h : Mar} {b0 L i : Nat} {xs : Nat → Int32} {x : Int32} (cx : gC l X room_1 4 cL_law RL wsL_law E) (hX : gS X b0 L xs) (hL : L ≤ 3072) (hi : i + 6 ≤ L) (hx : x = nI i) (hr : Rel c d) (kk : ∀ (c' d' : Cor) (g' : Gar) (h' : Mar), Rel c' d' → gG X 40 954 (xW E a c' g' ++ mW E b d' h') 1312 [(0, .ref b0), (1, .ref (a 0)), (2, .ref (b 0)), (3, .int x)] []) : gG X 40 954 (xW E a c g ++ mW E b d h) 741 [(0, .ref b0), (1, .ref (a 0)), (2, .ref (b 0)), (3, .int x)] [] := by
  refine g_aload_n cx dL_law_741 1 rfl ?_
  refine g_aload_n cx dL_law_742 0 rfl ?_
  refine g_iload_n cx dL_law_743 3 rfl ?_
  refine g_iconst (v := 1) cx dL_law_744 (by decide) ?_
  refine g_iadd cx dL_law_745 ?_
  refine g_sld cx hX (sc_in hx hi hL 1 (by decide)) dL_law_746 ?_
  refine g_aload_n cx dL_law_747 0 rfl ?_
  refine g_iload_n cx dL_law_748 3 rfl ?_
  refine g_iconst (v := 2) cx dL_law_749 (by decide) ?_
  refine g_iadd cx dL_law_750 ?_
  refine g_sld cx hX (sc_in hx hi hL 2 (by decide)) dL_law_751 ?_
  refine g_LXi (rest := []) (As := [.int (xs (x + 1 : Int32).toNatClampNeg), .int (xs (x + 2 : Int32).toNatClampNeg)]) cx hYX5_mood gL_law_X5_mood (c_X5_mood l E a c g (xs (x + 1 : Int32).toNatClampNeg) (xs (x + 2 : Int32).toNatClampNeg) hr.1) rfl ⟨Nat.le_of_ble_eq_true rfl, Nat.le_of_ble_eq_true rfl⟩ rfl rfl (Nat.le_of_ble_eq_true rfl) rfl rfl (Nat.le_of_ble_eq_true rfl) (Nat.le_of_ble_eq_true rfl) dL_law_752 (fun g1 => ?_)
  refine g_aload_n cx dL_law_755 2 rfl ?_
  refine g_aload_n cx dL_law_756 0 rfl ?_
  refine g_iload_n cx dL_law_757 3 rfl ?_
  refine g_iconst (v := 1) cx dL_law_758 (by decide) ?_
  refine g_iadd cx dL_law_759 ?_
  refine g_sld cx hX (sc_in hx hi hL 1 (by decide)) dL_law_760 ?_
  refine g_aload_n cx dL_law_761 0 rfl ?_
  refine g_iload_n cx dL_law_762 3 rfl ?_
  refine g_iconst (v := 2) cx dL_law_763 (by decide) ?_
  refine g_iadd cx dL_law_764 ?_
  refine g_sld cx hX (sc_in hx hi hL 2 (by decide)) dL_law_765 ?_
  refine g_LMi (rest := [.int ((sp_mood c (xs (x + 1 : Int32).toNatClampNeg) (xs (x + 2 : Int32).toNatClampNeg)).1)]) (As := [.int (xs (x + 1 : Int32).toNatClampNeg), .int (xs (x + 2 : Int32).toNatClampNeg)]) cx hYX6_mood gL_law_X6_mood (c_X6_mood l E b d h (xs (x + 1 : Int32).toNatClampNeg) (xs (x + 2 : Int32).toNatClampNeg) hr.2.1) rfl ⟨Nat.le_of_ble_eq_true rfl, Nat.le_of_ble_eq_true rfl⟩ rfl rfl (Nat.le_of_ble_eq_true rfl) rfl rfl (Nat.le_of_ble_eq_true rfl) (Nat.le_of_ble_eq_true rfl) dL_law_766 (fun g2 => ?_)
  refine g_icmp_eq (tgt := 1312) cx dL_law_769 (by decide) (fun _ => ?_) (fun q => absurd (re_mood hr (xs (x + 1 : Int32).toNatClampNeg) (xs (x + 2 : Int32).toNatClampNeg)).1 q)
  exact kk _ _ _ _ (re_mood hr (xs (x + 1 : Int32).toNatClampNeg) (xs (x + 2 : Int32).toNatClampNeg)).2

set_option maxRecDepth 100000 in
set_option maxHeartbeats 4000000 in
theorem lc_kind {l : Launch} {X : gX} {E : gE} {a b : Nat → Nat} {c d : Cor} {g : Gar} {h : Mar} {b0 L i : Nat} {xs : Nat → Int32} {x : Int32} (cx : gC l X room_1 4 cL_law RL wsL_law E) (hX : gS X b0 L xs) (hL : L ≤ 3072) (hi : i + 6 ≤ L) (hx : x = nI i) (hr : Rel c d) (kk : ∀ (c' d' : Cor) (g' : Gar) (h' : Mar), Rel c' d' → gG X 40 954 (xW E a c' g' ++ mW E b d' h') 1312 [(0, .ref b0), (1, .ref (a 0)), (2, .ref (b 0)), (3, .int x)] []) : gG X 40 954 (xW E a c g ++ mW E b d h) 774 [(0, .ref b0), (1, .ref (a 0)), (2, .ref (b 0)), (3, .int x)] [] := by
  refine g_aload_n cx dL_law_774 1 rfl ?_
  refine g_aload_n cx dL_law_775 0 rfl ?_
  refine g_iload_n cx dL_law_776 3 rfl ?_
  refine g_iconst (v := 1) cx dL_law_777 (by decide) ?_
  refine g_iadd cx dL_law_778 ?_
  refine g_sld cx hX (sc_in hx hi hL 1 (by decide)) dL_law_779 ?_
  refine g_aload_n cx dL_law_780 0 rfl ?_
  refine g_iload_n cx dL_law_781 3 rfl ?_
  refine g_iconst (v := 2) cx dL_law_782 (by decide) ?_
  refine g_iadd cx dL_law_783 ?_
  refine g_sld cx hX (sc_in hx hi hL 2 (by decide)) dL_law_784 ?_
  refine g_LXi (rest := []) (As := [.int (xs (x + 1 : Int32).toNatClampNeg), .int (xs (x + 2 : Int32).toNatClampNeg)]) cx hYX5_kind gL_law_X5_kind (c_X5_kind l E a c g (xs (x + 1 : Int32).toNatClampNeg) (xs (x + 2 : Int32).toNatClampNeg) hr.1) rfl ⟨Nat.le_of_ble_eq_true rfl, Nat.le_of_ble_eq_true rfl⟩ rfl rfl (Nat.le_of_ble_eq_true rfl) rfl rfl (Nat.le_of_ble_eq_true rfl) (Nat.le_of_ble_eq_true rfl) dL_law_785 (fun g1 => ?_)
  refine g_aload_n cx dL_law_788 2 rfl ?_
  refine g_aload_n cx dL_law_789 0 rfl ?_
  refine g_iload_n cx dL_law_790 3 rfl ?_
  refine g_iconst (v := 1) cx dL_law_791 (by decide) ?_
  refine g_iadd cx dL_law_792 ?_
  refine g_sld cx hX (sc_in hx hi hL 1 (by decide)) dL_law_793 ?_
  refine g_aload_n cx dL_law_794 0 rfl ?_
  refine g_iload_n cx dL_law_795 3 rfl ?_
  refine g_iconst (v := 2) cx dL_law_796 (by decide) ?_
  refine g_iadd cx dL_law_797 ?_
  refine g_sld cx hX (sc_in hx hi hL 2 (by decide)) dL_law_798 ?_
  refine g_LMi (rest := [.int ((sp_kind c (xs (x + 1 : Int32).toNatClampNeg) (xs (x + 2 : Int32).toNatClampNeg)).1)]) (As := [.int (xs (x + 1 : Int32).toNatClampNeg), .int (xs (x + 2 : Int32).toNatClampNeg)]) cx hYX6_kind gL_law_X6_kind (c_X6_kind l E b d h (xs (x + 1 : Int32).toNatClampNeg) (xs (x + 2 : Int32).toNatClampNeg) hr.2.1) rfl ⟨Nat.le_of_ble_eq_true rfl, Nat.le_of_ble_eq_true rfl⟩ rfl rfl (Nat.le_of_ble_eq_true rfl) rfl rfl (Nat.le_of_ble_eq_true rfl) (Nat.le_of_ble_eq_true rfl) dL_law_799 (fun g2 => ?_)
  refine g_icmp_eq (tgt := 1312) cx dL_law_802 (by decide) (fun _ => ?_) (fun q => absurd (re_kind hr (xs (x + 1 : Int32).toNatClampNeg) (xs (x + 2 : Int32).toNatClampNeg)).1 q)
  exact kk _ _ _ _ (re_kind hr (xs (x + 1 : Int32).toNatClampNeg) (xs (x + 2 : Int32).toNatClampNeg)).2

set_option maxRecDepth 100000 in
set_option maxHeartbeats 4000000 in
theorem lc_enough {l : Launch} {X : gX} {E : gE} {a b : Nat → Nat} {c d : Cor} {g : Gar} {h : Mar} {b0 L i : Nat} {xs : Nat → Int32} {x : Int32} (cx : gC l X room_1 4 cL_law RL wsL_law E) (hX : gS X b0 L xs) (hL : L ≤ 3072) (hi : i + 6 ≤ L) (hx : x = nI i) (hr : Rel c d) (kk : ∀ (c' d' : Cor) (g' : Gar) (h' : Mar), Rel c' d' → gG X 40 954 (xW E a c' g' ++ mW E b d' h') 1312 [(0, .ref b0), (1, .ref (a 0)), (2, .ref (b 0)), (3, .int x)] []) : gG X 40 954 (xW E a c g ++ mW E b d h) 807 [(0, .ref b0), (1, .ref (a 0)), (2, .ref (b 0)), (3, .int x)] [] := by
  refine g_aload_n cx dL_law_807 1 rfl ?_
  refine g_aload_n cx dL_law_808 0 rfl ?_
  refine g_iload_n cx dL_law_809 3 rfl ?_
  refine g_iconst (v := 1) cx dL_law_810 (by decide) ?_
  refine g_iadd cx dL_law_811 ?_
  refine g_sld cx hX (sc_in hx hi hL 1 (by decide)) dL_law_812 ?_
  refine g_LXi (rest := []) (As := [.int (xs (x + 1 : Int32).toNatClampNeg)]) cx hYX5_enough gL_law_X5_enough (c_X5_enough l E a c g (xs (x + 1 : Int32).toNatClampNeg) hr.1) rfl ⟨Nat.le_of_ble_eq_true rfl, Nat.le_of_ble_eq_true rfl⟩ rfl rfl (Nat.le_of_ble_eq_true rfl) rfl rfl (Nat.le_of_ble_eq_true rfl) (Nat.le_of_ble_eq_true rfl) dL_law_813 (fun g1 => ?_)
  refine g_aload_n cx dL_law_816 2 rfl ?_
  refine g_aload_n cx dL_law_817 0 rfl ?_
  refine g_iload_n cx dL_law_818 3 rfl ?_
  refine g_iconst (v := 1) cx dL_law_819 (by decide) ?_
  refine g_iadd cx dL_law_820 ?_
  refine g_sld cx hX (sc_in hx hi hL 1 (by decide)) dL_law_821 ?_
  refine g_LMi (rest := [.int ((sp_enough c (xs (x + 1 : Int32).toNatClampNeg)).1)]) (As := [.int (xs (x + 1 : Int32).toNatClampNeg)]) cx hYX6_enough gL_law_X6_enough (c_X6_enough l E b d h (xs (x + 1 : Int32).toNatClampNeg) hr.2.1) rfl ⟨Nat.le_of_ble_eq_true rfl, Nat.le_of_ble_eq_true rfl⟩ rfl rfl (Nat.le_of_ble_eq_true rfl) rfl rfl (Nat.le_of_ble_eq_true rfl) (Nat.le_of_ble_eq_true rfl) dL_law_822 (fun g2 => ?_)
  refine g_icmp_eq (tgt := 1312) cx dL_law_825 (by decide) (fun _ => ?_) (fun q => absurd (re_enough hr (xs (x + 1 : Int32).toNatClampNeg)).1 q)
  exact kk _ _ _ _ (re_enough hr (xs (x + 1 : Int32).toNatClampNeg)).2

set_option maxRecDepth 100000 in
set_option maxHeartbeats 4000000 in
theorem lc_bears {l : Launch} {X : gX} {E : gE} {a b : Nat → Nat} {c d : Cor} {g : Gar} {h : Mar} {b0 L i : Nat} {xs : Nat → Int32} {x : Int32} (cx : gC l X room_1 4 cL_law RL wsL_law E) (hX : gS X b0 L xs) (hL : L ≤ 3072) (hi : i + 6 ≤ L) (hx : x = nI i) (hr : Rel c d) (kk : ∀ (c' d' : Cor) (g' : Gar) (h' : Mar), Rel c' d' → gG X 40 954 (xW E a c' g' ++ mW E b d' h') 1312 [(0, .ref b0), (1, .ref (a 0)), (2, .ref (b 0)), (3, .int x)] []) : gG X 40 954 (xW E a c g ++ mW E b d h) 830 [(0, .ref b0), (1, .ref (a 0)), (2, .ref (b 0)), (3, .int x)] [] := by
  refine g_aload_n cx dL_law_830 1 rfl ?_
  refine g_aload_n cx dL_law_831 0 rfl ?_
  refine g_iload_n cx dL_law_832 3 rfl ?_
  refine g_iconst (v := 1) cx dL_law_833 (by decide) ?_
  refine g_iadd cx dL_law_834 ?_
  refine g_sld cx hX (sc_in hx hi hL 1 (by decide)) dL_law_835 ?_
  refine g_aload_n cx dL_law_836 0 rfl ?_
  refine g_iload_n cx dL_law_837 3 rfl ?_
  refine g_iconst (v := 2) cx dL_law_838 (by decide) ?_
  refine g_iadd cx dL_law_839 ?_
  refine g_sld cx hX (sc_in hx hi hL 2 (by decide)) dL_law_840 ?_
  refine g_LXi (rest := []) (As := [.int (xs (x + 1 : Int32).toNatClampNeg), .int (xs (x + 2 : Int32).toNatClampNeg)]) cx hYX5_bears gL_law_X5_bears (c_X5_bears l E a c g (xs (x + 1 : Int32).toNatClampNeg) (xs (x + 2 : Int32).toNatClampNeg) hr.1) rfl ⟨Nat.le_of_ble_eq_true rfl, Nat.le_of_ble_eq_true rfl⟩ rfl rfl (Nat.le_of_ble_eq_true rfl) rfl rfl (Nat.le_of_ble_eq_true rfl) (Nat.le_of_ble_eq_true rfl) dL_law_841 (fun g1 => ?_)
  refine g_aload_n cx dL_law_844 2 rfl ?_
  refine g_aload_n cx dL_law_845 0 rfl ?_
  refine g_iload_n cx dL_law_846 3 rfl ?_
  refine g_iconst (v := 1) cx dL_law_847 (by decide) ?_
  refine g_iadd cx dL_law_848 ?_
  refine g_sld cx hX (sc_in hx hi hL 1 (by decide)) dL_law_849 ?_
  refine g_aload_n cx dL_law_850 0 rfl ?_
  refine g_iload_n cx dL_law_851 3 rfl ?_
  refine g_iconst (v := 2) cx dL_law_852 (by decide) ?_
  refine g_iadd cx dL_law_853 ?_
  refine g_sld cx hX (sc_in hx hi hL 2 (by decide)) dL_law_854 ?_
  refine g_LMi (rest := [.int ((sp_bears c (xs (x + 1 : Int32).toNatClampNeg) (xs (x + 2 : Int32).toNatClampNeg)).1)]) (As := [.int (xs (x + 1 : Int32).toNatClampNeg), .int (xs (x + 2 : Int32).toNatClampNeg)]) cx hYX6_bears gL_law_X6_bears (c_X6_bears l E b d h (xs (x + 1 : Int32).toNatClampNeg) (xs (x + 2 : Int32).toNatClampNeg) hr.2.1) rfl ⟨Nat.le_of_ble_eq_true rfl, Nat.le_of_ble_eq_true rfl⟩ rfl rfl (Nat.le_of_ble_eq_true rfl) rfl rfl (Nat.le_of_ble_eq_true rfl) (Nat.le_of_ble_eq_true rfl) dL_law_855 (fun g2 => ?_)
  refine g_icmp_eq (tgt := 1312) cx dL_law_858 (by decide) (fun _ => ?_) (fun q => absurd (re_bears hr (xs (x + 1 : Int32).toNatClampNeg) (xs (x + 2 : Int32).toNatClampNeg)).1 q)
  exact kk _ _ _ _ (re_bears hr (xs (x + 1 : Int32).toNatClampNeg) (xs (x + 2 : Int32).toNatClampNeg)).2

set_option maxRecDepth 100000 in
set_option maxHeartbeats 4000000 in
theorem lc_swap {l : Launch} {X : gX} {E : gE} {a b : Nat → Nat} {c d : Cor} {g : Gar} {h : Mar} {b0 L i : Nat} {xs : Nat → Int32} {x : Int32} (cx : gC l X room_1 4 cL_law RL wsL_law E) (hX : gS X b0 L xs) (hL : L ≤ 3072) (hi : i + 6 ≤ L) (hx : x = nI i) (hr : Rel c d) (kk : ∀ (c' d' : Cor) (g' : Gar) (h' : Mar), Rel c' d' → gG X 40 954 (xW E a c' g' ++ mW E b d' h') 1312 [(0, .ref b0), (1, .ref (a 0)), (2, .ref (b 0)), (3, .int x)] []) : gG X 40 954 (xW E a c g ++ mW E b d h) 863 [(0, .ref b0), (1, .ref (a 0)), (2, .ref (b 0)), (3, .int x)] [] := by
  refine g_aload_n cx dL_law_863 1 rfl ?_
  refine g_aload_n cx dL_law_864 0 rfl ?_
  refine g_iload_n cx dL_law_865 3 rfl ?_
  refine g_iconst (v := 1) cx dL_law_866 (by decide) ?_
  refine g_iadd cx dL_law_867 ?_
  refine g_sld cx hX (sc_in hx hi hL 1 (by decide)) dL_law_868 ?_
  refine g_LXi (rest := []) (As := [.int (xs (x + 1 : Int32).toNatClampNeg)]) cx hYX5_swap gL_law_X5_swap (c_X5_swap l E a c g (xs (x + 1 : Int32).toNatClampNeg) hr.1) rfl ⟨Nat.le_of_ble_eq_true rfl, Nat.le_of_ble_eq_true rfl⟩ rfl rfl (Nat.le_of_ble_eq_true rfl) rfl rfl (Nat.le_of_ble_eq_true rfl) (Nat.le_of_ble_eq_true rfl) dL_law_869 (fun g1 => ?_)
  refine g_aload_n cx dL_law_872 2 rfl ?_
  refine g_aload_n cx dL_law_873 0 rfl ?_
  refine g_iload_n cx dL_law_874 3 rfl ?_
  refine g_iconst (v := 1) cx dL_law_875 (by decide) ?_
  refine g_iadd cx dL_law_876 ?_
  refine g_sld cx hX (sc_in hx hi hL 1 (by decide)) dL_law_877 ?_
  refine g_LMi (rest := [.int ((sp_swap c (xs (x + 1 : Int32).toNatClampNeg)).1)]) (As := [.int (xs (x + 1 : Int32).toNatClampNeg)]) cx hYX6_swap gL_law_X6_swap (c_X6_swap l E b d h (xs (x + 1 : Int32).toNatClampNeg) hr.2.1) rfl ⟨Nat.le_of_ble_eq_true rfl, Nat.le_of_ble_eq_true rfl⟩ rfl rfl (Nat.le_of_ble_eq_true rfl) rfl rfl (Nat.le_of_ble_eq_true rfl) (Nat.le_of_ble_eq_true rfl) dL_law_878 (fun g2 => ?_)
  refine g_icmp_eq (tgt := 1312) cx dL_law_881 (by decide) (fun _ => ?_) (fun q => absurd (re_swap hr (xs (x + 1 : Int32).toNatClampNeg)).1 q)
  exact kk _ _ _ _ (re_swap hr (xs (x + 1 : Int32).toNatClampNeg)).2

set_option maxRecDepth 100000 in
set_option maxHeartbeats 4000000 in
theorem lc_saddest {l : Launch} {X : gX} {E : gE} {a b : Nat → Nat} {c d : Cor} {g : Gar} {h : Mar} {b0 L i : Nat} {xs : Nat → Int32} {x : Int32} (cx : gC l X room_1 4 cL_law RL wsL_law E) (hX : gS X b0 L xs) (hL : L ≤ 3072) (hi : i + 6 ≤ L) (hx : x = nI i) (hr : Rel c d) (kk : ∀ (c' d' : Cor) (g' : Gar) (h' : Mar), Rel c' d' → gG X 40 954 (xW E a c' g' ++ mW E b d' h') 1312 [(0, .ref b0), (1, .ref (a 0)), (2, .ref (b 0)), (3, .int x)] []) : gG X 40 954 (xW E a c g ++ mW E b d h) 886 [(0, .ref b0), (1, .ref (a 0)), (2, .ref (b 0)), (3, .int x)] [] := by
  refine g_aload_n cx dL_law_886 1 rfl ?_
  refine g_aload_n cx dL_law_887 0 rfl ?_
  refine g_iload_n cx dL_law_888 3 rfl ?_
  refine g_iconst (v := 1) cx dL_law_889 (by decide) ?_
  refine g_iadd cx dL_law_890 ?_
  refine g_sld cx hX (sc_in hx hi hL 1 (by decide)) dL_law_891 ?_
  refine g_LXi (rest := []) (As := [.int (xs (x + 1 : Int32).toNatClampNeg)]) cx hYX5_saddest gL_law_X5_saddest (c_X5_saddest l E a c g (xs (x + 1 : Int32).toNatClampNeg) hr.1) rfl ⟨Nat.le_of_ble_eq_true rfl, Nat.le_of_ble_eq_true rfl⟩ rfl rfl (Nat.le_of_ble_eq_true rfl) rfl rfl (Nat.le_of_ble_eq_true rfl) (Nat.le_of_ble_eq_true rfl) dL_law_892 (fun g1 => ?_)
  refine g_aload_n cx dL_law_895 2 rfl ?_
  refine g_aload_n cx dL_law_896 0 rfl ?_
  refine g_iload_n cx dL_law_897 3 rfl ?_
  refine g_iconst (v := 1) cx dL_law_898 (by decide) ?_
  refine g_iadd cx dL_law_899 ?_
  refine g_sld cx hX (sc_in hx hi hL 1 (by decide)) dL_law_900 ?_
  refine g_LMi (rest := [.int ((sp_saddest c (xs (x + 1 : Int32).toNatClampNeg)).1)]) (As := [.int (xs (x + 1 : Int32).toNatClampNeg)]) cx hYX6_saddest gL_law_X6_saddest (c_X6_saddest l E b d h (xs (x + 1 : Int32).toNatClampNeg) hr.2.1) rfl ⟨Nat.le_of_ble_eq_true rfl, Nat.le_of_ble_eq_true rfl⟩ rfl rfl (Nat.le_of_ble_eq_true rfl) rfl rfl (Nat.le_of_ble_eq_true rfl) (Nat.le_of_ble_eq_true rfl) dL_law_901 (fun g2 => ?_)
  refine g_icmp_eq (tgt := 1312) cx dL_law_904 (by decide) (fun _ => ?_) (fun q => absurd (re_saddest hr (xs (x + 1 : Int32).toNatClampNeg)).1 q)
  exact kk _ _ _ _ (re_saddest hr (xs (x + 1 : Int32).toNatClampNeg)).2

set_option maxRecDepth 100000 in
set_option maxHeartbeats 4000000 in
theorem lc_feed {l : Launch} {X : gX} {E : gE} {a b : Nat → Nat} {c d : Cor} {g : Gar} {h : Mar} {b0 L i : Nat} {xs : Nat → Int32} {x : Int32} (cx : gC l X room_1 4 cL_law RL wsL_law E) (hX : gS X b0 L xs) (hL : L ≤ 3072) (hi : i + 6 ≤ L) (hx : x = nI i) (hr : Rel c d) (kk : ∀ (c' d' : Cor) (g' : Gar) (h' : Mar), Rel c' d' → gG X 40 954 (xW E a c' g' ++ mW E b d' h') 1312 [(0, .ref b0), (1, .ref (a 0)), (2, .ref (b 0)), (3, .int x)] []) : gG X 40 954 (xW E a c g ++ mW E b d h) 909 [(0, .ref b0), (1, .ref (a 0)), (2, .ref (b 0)), (3, .int x)] [] := by
  refine g_aload_n cx dL_law_909 1 rfl ?_
  refine g_aload_n cx dL_law_910 0 rfl ?_
  refine g_iload_n cx dL_law_911 3 rfl ?_
  refine g_iconst (v := 1) cx dL_law_912 (by decide) ?_
  refine g_iadd cx dL_law_913 ?_
  refine g_sld cx hX (sc_in hx hi hL 1 (by decide)) dL_law_914 ?_
  refine g_aload_n cx dL_law_915 0 rfl ?_
  refine g_iload_n cx dL_law_916 3 rfl ?_
  refine g_iconst (v := 2) cx dL_law_917 (by decide) ?_
  refine g_iadd cx dL_law_918 ?_
  refine g_sld cx hX (sc_in hx hi hL 2 (by decide)) dL_law_919 ?_
  refine g_LXi (rest := []) (As := [.int (xs (x + 1 : Int32).toNatClampNeg), .int (xs (x + 2 : Int32).toNatClampNeg)]) cx hYX5_feed gL_law_X5_feed (c_X5_feed l E a c g (xs (x + 1 : Int32).toNatClampNeg) (xs (x + 2 : Int32).toNatClampNeg) hr.1) rfl ⟨Nat.le_of_ble_eq_true rfl, Nat.le_of_ble_eq_true rfl⟩ rfl rfl (Nat.le_of_ble_eq_true rfl) rfl rfl (Nat.le_of_ble_eq_true rfl) (Nat.le_of_ble_eq_true rfl) dL_law_920 (fun g1 => ?_)
  refine g_aload_n cx dL_law_923 2 rfl ?_
  refine g_aload_n cx dL_law_924 0 rfl ?_
  refine g_iload_n cx dL_law_925 3 rfl ?_
  refine g_iconst (v := 1) cx dL_law_926 (by decide) ?_
  refine g_iadd cx dL_law_927 ?_
  refine g_sld cx hX (sc_in hx hi hL 1 (by decide)) dL_law_928 ?_
  refine g_aload_n cx dL_law_929 0 rfl ?_
  refine g_iload_n cx dL_law_930 3 rfl ?_
  refine g_iconst (v := 2) cx dL_law_931 (by decide) ?_
  refine g_iadd cx dL_law_932 ?_
  refine g_sld cx hX (sc_in hx hi hL 2 (by decide)) dL_law_933 ?_
  refine g_LMi (rest := [.int ((sp_feed c (xs (x + 1 : Int32).toNatClampNeg) (xs (x + 2 : Int32).toNatClampNeg)).1)]) (As := [.int (xs (x + 1 : Int32).toNatClampNeg), .int (xs (x + 2 : Int32).toNatClampNeg)]) cx hYX6_feed gL_law_X6_feed (c_X6_feed l E b d h (xs (x + 1 : Int32).toNatClampNeg) (xs (x + 2 : Int32).toNatClampNeg) hr.2.1) rfl ⟨Nat.le_of_ble_eq_true rfl, Nat.le_of_ble_eq_true rfl⟩ rfl rfl (Nat.le_of_ble_eq_true rfl) rfl rfl (Nat.le_of_ble_eq_true rfl) (Nat.le_of_ble_eq_true rfl) dL_law_934 (fun g2 => ?_)
  refine g_icmp_eq (tgt := 1312) cx dL_law_937 (by decide) (fun _ => ?_) (fun q => absurd (re_feed hr (xs (x + 1 : Int32).toNatClampNeg) (xs (x + 2 : Int32).toNatClampNeg)).1 q)
  exact kk _ _ _ _ (re_feed hr (xs (x + 1 : Int32).toNatClampNeg) (xs (x + 2 : Int32).toNatClampNeg)).2
