theorem m1L_law_c133 : Cond.constantLong RL 133 (4294967295) ∈ wsL_law := List.mem_of_getElem? (i := 6) rfl
set_option maxRecDepth 100000 in
set_option maxHeartbeats 4000000 in
theorem lc_wipe {l : Launch} {X : gX} {E : gE} {a b : Nat → Nat} {c d : Cor} {g : Gar} {h : Mar} {b0 L i : Nat} {xs : Nat → Int32} {x : Int32} (cx : gC l X room_1 4 cL_law RL wsL_law E) (hX : gS X b0 L xs) (hL : L ≤ 3072) (hi : i + 6 ≤ L) (hx : x = nI i) (hr : Rel c d) (kk : ∀ (c' d' : Cor) (g' : Gar) (h' : Mar), Rel c' d' → gG X 40 954 (xW E a c' g' ++ mW E b d' h') 1312 [(0, .ref b0), (1, .ref (a 0)), (2, .ref (b 0)), (3, .int x)] []) : gG X 40 954 (xW E a c g ++ mW E b d h) 942 [(0, .ref b0), (1, .ref (a 0)), (2, .ref (b 0)), (3, .int x)] [] := by
  refine g_aload_n cx dL_law_942 1 rfl ?_
  refine g_LXi (rest := []) (As := []) cx hYX5_wipe gL_law_X5_wipe (c_X5_wipe l E a c g hr.1) rfl ⟨Nat.le_of_ble_eq_true rfl, Nat.le_of_ble_eq_true rfl⟩ rfl rfl (Nat.le_of_ble_eq_true rfl) rfl rfl (Nat.le_of_ble_eq_true rfl) (Nat.le_of_ble_eq_true rfl) dL_law_943 (fun g1 => ?_)
  refine g_aload_n cx dL_law_946 2 rfl ?_
  refine g_LMi (rest := [.int ((sp_wipe c).1)]) (As := []) cx hYX6_wipe gL_law_X6_wipe (c_X6_wipe l E b d h hr.2.1) rfl ⟨Nat.le_of_ble_eq_true rfl, Nat.le_of_ble_eq_true rfl⟩ rfl rfl (Nat.le_of_ble_eq_true rfl) rfl rfl (Nat.le_of_ble_eq_true rfl) (Nat.le_of_ble_eq_true rfl) dL_law_947 (fun g2 => ?_)
  refine g_icmp_eq (tgt := 1312) cx dL_law_950 (by decide) (fun _ => ?_) (fun q => absurd (re_wipe hr).1 q)
  exact kk _ _ _ _ (re_wipe hr).2

set_option maxRecDepth 100000 in
set_option maxHeartbeats 4000000 in
theorem lc_terrace {l : Launch} {X : gX} {E : gE} {a b : Nat → Nat} {c d : Cor} {g : Gar} {h : Mar} {b0 L i : Nat} {xs : Nat → Int32} {x : Int32} (cx : gC l X room_1 4 cL_law RL wsL_law E) (hX : gS X b0 L xs) (hL : L ≤ 3072) (hi : i + 6 ≤ L) (hx : x = nI i) (hr : Rel c d) (kk : ∀ (c' d' : Cor) (g' : Gar) (h' : Mar), Rel c' d' → gG X 40 954 (xW E a c' g' ++ mW E b d' h') 1312 [(0, .ref b0), (1, .ref (a 0)), (2, .ref (b 0)), (3, .int x)] []) : gG X 40 954 (xW E a c g ++ mW E b d h) 955 [(0, .ref b0), (1, .ref (a 0)), (2, .ref (b 0)), (3, .int x)] [] := by
  refine g_aload_n cx dL_law_955 1 rfl ?_
  refine g_LXi (rest := []) (As := []) cx hYX5_terrace gL_law_X5_terrace (c_X5_terrace l E a c g hr.1) rfl ⟨Nat.le_of_ble_eq_true rfl, Nat.le_of_ble_eq_true rfl⟩ rfl rfl (Nat.le_of_ble_eq_true rfl) rfl rfl (Nat.le_of_ble_eq_true rfl) (Nat.le_of_ble_eq_true rfl) dL_law_956 (fun g1 => ?_)
  refine g_aload_n cx dL_law_959 2 rfl ?_
  refine g_LMi (rest := [.int ((sp_terrace c).1)]) (As := []) cx hYX6_terrace gL_law_X6_terrace (c_X6_terrace l E b d h hr.2.1) rfl ⟨Nat.le_of_ble_eq_true rfl, Nat.le_of_ble_eq_true rfl⟩ rfl rfl (Nat.le_of_ble_eq_true rfl) rfl rfl (Nat.le_of_ble_eq_true rfl) (Nat.le_of_ble_eq_true rfl) dL_law_960 (fun g2 => ?_)
  refine g_icmp_eq (tgt := 1312) cx dL_law_963 (by decide) (fun _ => ?_) (fun q => absurd (re_terrace hr).1 q)
  exact kk _ _ _ _ (re_terrace hr).2

set_option maxRecDepth 100000 in
set_option maxHeartbeats 4000000 in
theorem lc_sheet {l : Launch} {X : gX} {E : gE} {a b : Nat → Nat} {c d : Cor} {g : Gar} {h : Mar} {b0 L i : Nat} {xs : Nat → Int32} {x : Int32} (cx : gC l X room_1 4 cL_law RL wsL_law E) (hX : gS X b0 L xs) (hL : L ≤ 3072) (hi : i + 6 ≤ L) (hx : x = nI i) (hr : Rel c d) (kk : ∀ (c' d' : Cor) (g' : Gar) (h' : Mar), Rel c' d' → gG X 40 954 (xW E a c' g' ++ mW E b d' h') 1312 [(0, .ref b0), (1, .ref (a 0)), (2, .ref (b 0)), (3, .int x)] []) : gG X 40 954 (xW E a c g ++ mW E b d h) 968 [(0, .ref b0), (1, .ref (a 0)), (2, .ref (b 0)), (3, .int x)] [] := by
  refine g_aload_n cx dL_law_968 1 rfl ?_
  refine g_aload_n cx dL_law_969 0 rfl ?_
  refine g_iload_n cx dL_law_970 3 rfl ?_
  refine g_iconst (v := 1) cx dL_law_971 (by decide) ?_
  refine g_iadd cx dL_law_972 ?_
  refine g_sld cx hX (sc_in hx hi hL 1 (by decide)) dL_law_973 ?_
  refine g_aload_n cx dL_law_974 0 rfl ?_
  refine g_iload_n cx dL_law_975 3 rfl ?_
  refine g_iconst (v := 2) cx dL_law_976 (by decide) ?_
  refine g_iadd cx dL_law_977 ?_
  refine g_sld cx hX (sc_in hx hi hL 2 (by decide)) dL_law_978 ?_
  refine g_aload_n cx dL_law_979 0 rfl ?_
  refine g_iload_n cx dL_law_980 3 rfl ?_
  refine g_iconst (v := 3) cx dL_law_981 (by decide) ?_
  refine g_iadd cx dL_law_982 ?_
  refine g_sld cx hX (sc_in hx hi hL 3 (by decide)) dL_law_983 ?_
  refine g_LXi (rest := []) (As := [.int (xs (x + 1 : Int32).toNatClampNeg), .int (xs (x + 2 : Int32).toNatClampNeg), .int (xs (x + 3 : Int32).toNatClampNeg)]) cx hYX5_sheet gL_law_X5_sheet (c_X5_sheet l E a c g (xs (x + 1 : Int32).toNatClampNeg) (xs (x + 2 : Int32).toNatClampNeg) (xs (x + 3 : Int32).toNatClampNeg) hr.1) rfl ⟨Nat.le_of_ble_eq_true rfl, Nat.le_of_ble_eq_true rfl⟩ rfl rfl (Nat.le_of_ble_eq_true rfl) rfl rfl (Nat.le_of_ble_eq_true rfl) (Nat.le_of_ble_eq_true rfl) dL_law_984 (fun g1 => ?_)
  refine g_aload_n cx dL_law_987 2 rfl ?_
  refine g_aload_n cx dL_law_988 0 rfl ?_
  refine g_iload_n cx dL_law_989 3 rfl ?_
  refine g_iconst (v := 1) cx dL_law_990 (by decide) ?_
  refine g_iadd cx dL_law_991 ?_
  refine g_sld cx hX (sc_in hx hi hL 1 (by decide)) dL_law_992 ?_
  refine g_aload_n cx dL_law_993 0 rfl ?_
  refine g_iload_n cx dL_law_994 3 rfl ?_
  refine g_iconst (v := 2) cx dL_law_995 (by decide) ?_
  refine g_iadd cx dL_law_996 ?_
  refine g_sld cx hX (sc_in hx hi hL 2 (by decide)) dL_law_997 ?_
  refine g_aload_n cx dL_law_998 0 rfl ?_
  refine g_iload_n cx dL_law_999 3 rfl ?_
  refine g_iconst (v := 3) cx dL_law_1000 (by decide) ?_
  refine g_iadd cx dL_law_1001 ?_
  refine g_sld cx hX (sc_in hx hi hL 3 (by decide)) dL_law_1002 ?_
  refine g_LMi (rest := [.int ((sp_sheet c (xs (x + 1 : Int32).toNatClampNeg) (xs (x + 2 : Int32).toNatClampNeg) (xs (x + 3 : Int32).toNatClampNeg)).1)]) (As := [.int (xs (x + 1 : Int32).toNatClampNeg), .int (xs (x + 2 : Int32).toNatClampNeg), .int (xs (x + 3 : Int32).toNatClampNeg)]) cx hYX6_sheet gL_law_X6_sheet (c_X6_sheet l E b d h (xs (x + 1 : Int32).toNatClampNeg) (xs (x + 2 : Int32).toNatClampNeg) (xs (x + 3 : Int32).toNatClampNeg) hr.2.1) rfl ⟨Nat.le_of_ble_eq_true rfl, Nat.le_of_ble_eq_true rfl⟩ rfl rfl (Nat.le_of_ble_eq_true rfl) rfl rfl (Nat.le_of_ble_eq_true rfl) (Nat.le_of_ble_eq_true rfl) dL_law_1003 (fun g2 => ?_)
  refine g_icmp_eq (tgt := 1312) cx dL_law_1006 (by decide) (fun _ => ?_) (fun q => absurd (re_sheet hr (xs (x + 1 : Int32).toNatClampNeg) (xs (x + 2 : Int32).toNatClampNeg) (xs (x + 3 : Int32).toNatClampNeg)).1 q)
  exact kk _ _ _ _ (re_sheet hr (xs (x + 1 : Int32).toNatClampNeg) (xs (x + 2 : Int32).toNatClampNeg) (xs (x + 3 : Int32).toNatClampNeg)).2

set_option maxRecDepth 100000 in
set_option maxHeartbeats 4000000 in
theorem lc_write {l : Launch} {X : gX} {E : gE} {a b : Nat → Nat} {c d : Cor} {g : Gar} {h : Mar} {b0 L i : Nat} {xs : Nat → Int32} {x : Int32} (cx : gC l X room_1 4 cL_law RL wsL_law E) (hX : gS X b0 L xs) (hL : L ≤ 3072) (hi : i + 6 ≤ L) (hx : x = nI i) (hr : Rel c d) (kk : ∀ (c' d' : Cor) (g' : Gar) (h' : Mar), Rel c' d' → gG X 40 954 (xW E a c' g' ++ mW E b d' h') 1312 [(0, .ref b0), (1, .ref (a 0)), (2, .ref (b 0)), (3, .int x)] []) : gG X 40 954 (xW E a c g ++ mW E b d h) 1011 [(0, .ref b0), (1, .ref (a 0)), (2, .ref (b 0)), (3, .int x)] [] := by
  refine g_aload_n cx dL_law_1011 1 rfl ?_
  refine g_aload_n cx dL_law_1012 0 rfl ?_
  refine g_iload_n cx dL_law_1013 3 rfl ?_
  refine g_iconst (v := 1) cx dL_law_1014 (by decide) ?_
  refine g_iadd cx dL_law_1015 ?_
  refine g_sld cx hX (sc_in hx hi hL 1 (by decide)) dL_law_1016 ?_
  refine g_aload_n cx dL_law_1017 0 rfl ?_
  refine g_iload_n cx dL_law_1018 3 rfl ?_
  refine g_iconst (v := 2) cx dL_law_1019 (by decide) ?_
  refine g_iadd cx dL_law_1020 ?_
  refine g_sld cx hX (sc_in hx hi hL 2 (by decide)) dL_law_1021 ?_
  refine g_aload_n cx dL_law_1022 0 rfl ?_
  refine g_iload_n cx dL_law_1023 3 rfl ?_
  refine g_iconst (v := 3) cx dL_law_1024 (by decide) ?_
  refine g_iadd cx dL_law_1025 ?_
  refine g_sld cx hX (sc_in hx hi hL 3 (by decide)) dL_law_1026 ?_
  refine g_i2l cx dL_law_1027 ?_
  refine g_bipush (v := 32) cx dL_law_1028 (by decide) ?_
  refine g_lshl cx dL_law_1030 ?_
  refine g_aload_n cx dL_law_1031 0 rfl ?_
  refine g_iload_n cx dL_law_1032 3 rfl ?_
  refine g_iconst (v := 4) cx dL_law_1033 (by decide) ?_
  refine g_iadd cx dL_law_1034 ?_
  refine g_sld cx hX (sc_in hx hi hL 4 (by decide)) dL_law_1035 ?_
  refine g_i2l cx dL_law_1036 ?_
  refine g_ldc2 cx m1L_law_c133 dL_law_1037 ?_
  refine g_land cx dL_law_1040 ?_
  refine g_lor cx dL_law_1041 ?_
  refine g_LXl (rest := []) (As := [.int (xs (x + 1 : Int32).toNatClampNeg), .int (xs (x + 2 : Int32).toNatClampNeg), .long ((((xs (x + 3 : Int32).toNatClampNeg).toInt64) <<< ((32 : Int32).toInt64 &&& 63)) ||| (((xs (x + 4 : Int32).toNatClampNeg).toInt64) &&& (4294967295)))]) cx hYX5_write gL_law_X5_write (c_X5_write l E a c g (xs (x + 1 : Int32).toNatClampNeg) (xs (x + 2 : Int32).toNatClampNeg) ((((xs (x + 3 : Int32).toNatClampNeg).toInt64) <<< ((32 : Int32).toInt64 &&& 63)) ||| (((xs (x + 4 : Int32).toNatClampNeg).toInt64) &&& (4294967295))) hr.1) rfl ⟨Nat.le_of_ble_eq_true rfl, Nat.le_of_ble_eq_true rfl⟩ rfl rfl (Nat.le_of_ble_eq_true rfl) rfl rfl (Nat.le_of_ble_eq_true rfl) (Nat.le_of_ble_eq_true rfl) dL_law_1042 (fun g1 => ?_)
  refine g_aload_n cx dL_law_1045 2 rfl ?_
  refine g_aload_n cx dL_law_1046 0 rfl ?_
  refine g_iload_n cx dL_law_1047 3 rfl ?_
  refine g_iconst (v := 1) cx dL_law_1048 (by decide) ?_
  refine g_iadd cx dL_law_1049 ?_
  refine g_sld cx hX (sc_in hx hi hL 1 (by decide)) dL_law_1050 ?_
  refine g_aload_n cx dL_law_1051 0 rfl ?_
  refine g_iload_n cx dL_law_1052 3 rfl ?_
  refine g_iconst (v := 2) cx dL_law_1053 (by decide) ?_
  refine g_iadd cx dL_law_1054 ?_
  refine g_sld cx hX (sc_in hx hi hL 2 (by decide)) dL_law_1055 ?_
  refine g_aload_n cx dL_law_1056 0 rfl ?_
  refine g_iload_n cx dL_law_1057 3 rfl ?_
  refine g_iconst (v := 3) cx dL_law_1058 (by decide) ?_
  refine g_iadd cx dL_law_1059 ?_
  refine g_sld cx hX (sc_in hx hi hL 3 (by decide)) dL_law_1060 ?_
  refine g_i2l cx dL_law_1061 ?_
  refine g_bipush (v := 32) cx dL_law_1062 (by decide) ?_
  refine g_lshl cx dL_law_1064 ?_
  refine g_aload_n cx dL_law_1065 0 rfl ?_
  refine g_iload_n cx dL_law_1066 3 rfl ?_
  refine g_iconst (v := 4) cx dL_law_1067 (by decide) ?_
  refine g_iadd cx dL_law_1068 ?_
  refine g_sld cx hX (sc_in hx hi hL 4 (by decide)) dL_law_1069 ?_
  refine g_i2l cx dL_law_1070 ?_
  refine g_ldc2 cx m1L_law_c133 dL_law_1071 ?_
  refine g_land cx dL_law_1074 ?_
  refine g_lor cx dL_law_1075 ?_
  refine g_LMl (rest := [.long ((sp_write c (xs (x + 1 : Int32).toNatClampNeg) (xs (x + 2 : Int32).toNatClampNeg) ((((xs (x + 3 : Int32).toNatClampNeg).toInt64) <<< ((32 : Int32).toInt64 &&& 63)) ||| (((xs (x + 4 : Int32).toNatClampNeg).toInt64) &&& (4294967295)))).1)]) (As := [.int (xs (x + 1 : Int32).toNatClampNeg), .int (xs (x + 2 : Int32).toNatClampNeg), .long ((((xs (x + 3 : Int32).toNatClampNeg).toInt64) <<< ((32 : Int32).toInt64 &&& 63)) ||| (((xs (x + 4 : Int32).toNatClampNeg).toInt64) &&& (4294967295)))]) cx hYX6_write gL_law_X6_write (c_X6_write l E b d h (xs (x + 1 : Int32).toNatClampNeg) (xs (x + 2 : Int32).toNatClampNeg) ((((xs (x + 3 : Int32).toNatClampNeg).toInt64) <<< ((32 : Int32).toInt64 &&& 63)) ||| (((xs (x + 4 : Int32).toNatClampNeg).toInt64) &&& (4294967295))) hr.2.1) rfl ⟨Nat.le_of_ble_eq_true rfl, Nat.le_of_ble_eq_true rfl⟩ rfl rfl (Nat.le_of_ble_eq_true rfl) rfl rfl (Nat.le_of_ble_eq_true rfl) (Nat.le_of_ble_eq_true rfl) dL_law_1076 (fun g2 => ?_)
  refine g_lc_eq (tgt := 1312) cx dL_law_1079 dL_law_1080 (by decide) (fun _ => ?_) (fun q => absurd (re_write hr (xs (x + 1 : Int32).toNatClampNeg) (xs (x + 2 : Int32).toNatClampNeg) ((((xs (x + 3 : Int32).toNatClampNeg).toInt64) <<< ((32 : Int32).toInt64 &&& 63)) ||| (((xs (x + 4 : Int32).toNatClampNeg).toInt64) &&& (4294967295)))).1 q)
  exact kk _ _ _ _ (re_write hr (xs (x + 1 : Int32).toNatClampNeg) (xs (x + 2 : Int32).toNatClampNeg) ((((xs (x + 3 : Int32).toNatClampNeg).toInt64) <<< ((32 : Int32).toInt64 &&& 63)) ||| (((xs (x + 4 : Int32).toNatClampNeg).toInt64) &&& (4294967295)))).2

set_option maxRecDepth 100000 in
set_option maxHeartbeats 4000000 in
theorem lc_copy {l : Launch} {X : gX} {E : gE} {a b : Nat → Nat} {c d : Cor} {g : Gar} {h : Mar} {b0 L i : Nat} {xs : Nat → Int32} {x : Int32} (cx : gC l X room_1 4 cL_law RL wsL_law E) (hX : gS X b0 L xs) (hL : L ≤ 3072) (hi : i + 6 ≤ L) (hx : x = nI i) (hr : Rel c d) (kk : ∀ (c' d' : Cor) (g' : Gar) (h' : Mar), Rel c' d' → gG X 40 954 (xW E a c' g' ++ mW E b d' h') 1312 [(0, .ref b0), (1, .ref (a 0)), (2, .ref (b 0)), (3, .int x)] []) : gG X 40 954 (xW E a c g ++ mW E b d h) 1085 [(0, .ref b0), (1, .ref (a 0)), (2, .ref (b 0)), (3, .int x)] [] := by
  refine g_aload_n cx dL_law_1085 1 rfl ?_
  refine g_aload_n cx dL_law_1086 0 rfl ?_
  refine g_iload_n cx dL_law_1087 3 rfl ?_
  refine g_iconst (v := 1) cx dL_law_1088 (by decide) ?_
  refine g_iadd cx dL_law_1089 ?_
  refine g_sld cx hX (sc_in hx hi hL 1 (by decide)) dL_law_1090 ?_
  refine g_aload_n cx dL_law_1091 0 rfl ?_
  refine g_iload_n cx dL_law_1092 3 rfl ?_
  refine g_iconst (v := 2) cx dL_law_1093 (by decide) ?_
  refine g_iadd cx dL_law_1094 ?_
  refine g_sld cx hX (sc_in hx hi hL 2 (by decide)) dL_law_1095 ?_
  refine g_aload_n cx dL_law_1096 0 rfl ?_
  refine g_iload_n cx dL_law_1097 3 rfl ?_
  refine g_iconst (v := 3) cx dL_law_1098 (by decide) ?_
  refine g_iadd cx dL_law_1099 ?_
  refine g_sld cx hX (sc_in hx hi hL 3 (by decide)) dL_law_1100 ?_
  refine g_aload_n cx dL_law_1101 0 rfl ?_
  refine g_iload_n cx dL_law_1102 3 rfl ?_
  refine g_iconst (v := 4) cx dL_law_1103 (by decide) ?_
  refine g_iadd cx dL_law_1104 ?_
  refine g_sld cx hX (sc_in hx hi hL 4 (by decide)) dL_law_1105 ?_
  refine g_aload_n cx dL_law_1106 0 rfl ?_
  refine g_iload_n cx dL_law_1107 3 rfl ?_
  refine g_iconst (v := 5) cx dL_law_1108 (by decide) ?_
  refine g_iadd cx dL_law_1109 ?_
  refine g_sld cx hX (sc_in hx hi hL 5 (by decide)) dL_law_1110 ?_
  refine g_LXi (rest := []) (As := [.int (xs (x + 1 : Int32).toNatClampNeg), .int (xs (x + 2 : Int32).toNatClampNeg), .int (xs (x + 3 : Int32).toNatClampNeg), .int (xs (x + 4 : Int32).toNatClampNeg), .int (xs (x + 5 : Int32).toNatClampNeg)]) cx hYX5_copy gL_law_X5_copy (c_X5_copy l E a c g (xs (x + 1 : Int32).toNatClampNeg) (xs (x + 2 : Int32).toNatClampNeg) (xs (x + 3 : Int32).toNatClampNeg) (xs (x + 4 : Int32).toNatClampNeg) (xs (x + 5 : Int32).toNatClampNeg) hr.1) rfl ⟨Nat.le_of_ble_eq_true rfl, Nat.le_of_ble_eq_true rfl⟩ rfl rfl (Nat.le_of_ble_eq_true rfl) rfl rfl (Nat.le_of_ble_eq_true rfl) (Nat.le_of_ble_eq_true rfl) dL_law_1111 (fun g1 => ?_)
  refine g_aload_n cx dL_law_1114 2 rfl ?_
  refine g_aload_n cx dL_law_1115 0 rfl ?_
  refine g_iload_n cx dL_law_1116 3 rfl ?_
  refine g_iconst (v := 1) cx dL_law_1117 (by decide) ?_
  refine g_iadd cx dL_law_1118 ?_
  refine g_sld cx hX (sc_in hx hi hL 1 (by decide)) dL_law_1119 ?_
  refine g_aload_n cx dL_law_1120 0 rfl ?_
  refine g_iload_n cx dL_law_1121 3 rfl ?_
  refine g_iconst (v := 2) cx dL_law_1122 (by decide) ?_
  refine g_iadd cx dL_law_1123 ?_
  refine g_sld cx hX (sc_in hx hi hL 2 (by decide)) dL_law_1124 ?_
  refine g_aload_n cx dL_law_1125 0 rfl ?_
  refine g_iload_n cx dL_law_1126 3 rfl ?_
  refine g_iconst (v := 3) cx dL_law_1127 (by decide) ?_
  refine g_iadd cx dL_law_1128 ?_
  refine g_sld cx hX (sc_in hx hi hL 3 (by decide)) dL_law_1129 ?_
  refine g_aload_n cx dL_law_1130 0 rfl ?_
  refine g_iload_n cx dL_law_1131 3 rfl ?_
  refine g_iconst (v := 4) cx dL_law_1132 (by decide) ?_
  refine g_iadd cx dL_law_1133 ?_
  refine g_sld cx hX (sc_in hx hi hL 4 (by decide)) dL_law_1134 ?_
  refine g_aload_n cx dL_law_1135 0 rfl ?_
  refine g_iload_n cx dL_law_1136 3 rfl ?_
  refine g_iconst (v := 5) cx dL_law_1137 (by decide) ?_
  refine g_iadd cx dL_law_1138 ?_
  refine g_sld cx hX (sc_in hx hi hL 5 (by decide)) dL_law_1139 ?_
  refine g_LMi (rest := [.int ((sp_copy c (xs (x + 1 : Int32).toNatClampNeg) (xs (x + 2 : Int32).toNatClampNeg) (xs (x + 3 : Int32).toNatClampNeg) (xs (x + 4 : Int32).toNatClampNeg) (xs (x + 5 : Int32).toNatClampNeg)).1)]) (As := [.int (xs (x + 1 : Int32).toNatClampNeg), .int (xs (x + 2 : Int32).toNatClampNeg), .int (xs (x + 3 : Int32).toNatClampNeg), .int (xs (x + 4 : Int32).toNatClampNeg), .int (xs (x + 5 : Int32).toNatClampNeg)]) cx hYX6_copy gL_law_X6_copy (c_X6_copy l E b d h (xs (x + 1 : Int32).toNatClampNeg) (xs (x + 2 : Int32).toNatClampNeg) (xs (x + 3 : Int32).toNatClampNeg) (xs (x + 4 : Int32).toNatClampNeg) (xs (x + 5 : Int32).toNatClampNeg) hr.2.1) rfl ⟨Nat.le_of_ble_eq_true rfl, Nat.le_of_ble_eq_true rfl⟩ rfl rfl (Nat.le_of_ble_eq_true rfl) rfl rfl (Nat.le_of_ble_eq_true rfl) (Nat.le_of_ble_eq_true rfl) dL_law_1140 (fun g2 => ?_)
  refine g_icmp_eq (tgt := 1312) cx dL_law_1143 (by decide) (fun _ => ?_) (fun q => absurd (re_copy hr (xs (x + 1 : Int32).toNatClampNeg) (xs (x + 2 : Int32).toNatClampNeg) (xs (x + 3 : Int32).toNatClampNeg) (xs (x + 4 : Int32).toNatClampNeg) (xs (x + 5 : Int32).toNatClampNeg)).1 q)
  exact kk _ _ _ _ (re_copy hr (xs (x + 1 : Int32).toNatClampNeg) (xs (x + 2 : Int32).toNatClampNeg) (xs (x + 3 : Int32).toNatClampNeg) (xs (x + 4 : Int32).toNatClampNeg) (xs (x + 5 : Int32).toNatClampNeg)).2

set_option maxRecDepth 100000 in
set_option maxHeartbeats 4000000 in
theorem lc_lays {l : Launch} {X : gX} {E : gE} {a b : Nat → Nat} {c d : Cor} {g : Gar} {h : Mar} {b0 L i : Nat} {xs : Nat → Int32} {x : Int32} (cx : gC l X room_1 4 cL_law RL wsL_law E) (hX : gS X b0 L xs) (hL : L ≤ 3072) (hi : i + 6 ≤ L) (hx : x = nI i) (hr : Rel c d) (kk : ∀ (c' d' : Cor) (g' : Gar) (h' : Mar), Rel c' d' → gG X 40 954 (xW E a c' g' ++ mW E b d' h') 1312 [(0, .ref b0), (1, .ref (a 0)), (2, .ref (b 0)), (3, .int x)] []) : gG X 40 954 (xW E a c g ++ mW E b d h) 1148 [(0, .ref b0), (1, .ref (a 0)), (2, .ref (b 0)), (3, .int x)] [] := by
  refine g_aload_n cx dL_law_1148 1 rfl ?_
  refine g_aload_n cx dL_law_1149 0 rfl ?_
  refine g_iload_n cx dL_law_1150 3 rfl ?_
  refine g_iconst (v := 1) cx dL_law_1151 (by decide) ?_
  refine g_iadd cx dL_law_1152 ?_
  refine g_sld cx hX (sc_in hx hi hL 1 (by decide)) dL_law_1153 ?_
  refine g_LXi (rest := []) (As := [.int (xs (x + 1 : Int32).toNatClampNeg)]) cx hYX5_lays gL_law_X5_lays (c_X5_lays l E a c g (xs (x + 1 : Int32).toNatClampNeg) hr.1) rfl ⟨Nat.le_of_ble_eq_true rfl, Nat.le_of_ble_eq_true rfl⟩ rfl rfl (Nat.le_of_ble_eq_true rfl) rfl rfl (Nat.le_of_ble_eq_true rfl) (Nat.le_of_ble_eq_true rfl) dL_law_1154 (fun g1 => ?_)
  refine g_aload_n cx dL_law_1157 2 rfl ?_
  refine g_aload_n cx dL_law_1158 0 rfl ?_
  refine g_iload_n cx dL_law_1159 3 rfl ?_
  refine g_iconst (v := 1) cx dL_law_1160 (by decide) ?_
  refine g_iadd cx dL_law_1161 ?_
  refine g_sld cx hX (sc_in hx hi hL 1 (by decide)) dL_law_1162 ?_
  refine g_LMi (rest := [.int ((sp_lays c (xs (x + 1 : Int32).toNatClampNeg)).1)]) (As := [.int (xs (x + 1 : Int32).toNatClampNeg)]) cx hYX6_lays gL_law_X6_lays (c_X6_lays l E b d h (xs (x + 1 : Int32).toNatClampNeg) hr.2.1) rfl ⟨Nat.le_of_ble_eq_true rfl, Nat.le_of_ble_eq_true rfl⟩ rfl rfl (Nat.le_of_ble_eq_true rfl) rfl rfl (Nat.le_of_ble_eq_true rfl) (Nat.le_of_ble_eq_true rfl) dL_law_1163 (fun g2 => ?_)
  refine g_icmp_eq (tgt := 1312) cx dL_law_1166 (by decide) (fun _ => ?_) (fun q => absurd (re_lays hr (xs (x + 1 : Int32).toNatClampNeg)).1 q)
  exact kk _ _ _ _ (re_lays hr (xs (x + 1 : Int32).toNatClampNeg)).2

set_option maxRecDepth 100000 in
set_option maxHeartbeats 4000000 in
theorem lc_book {l : Launch} {X : gX} {E : gE} {a b : Nat → Nat} {c d : Cor} {g : Gar} {h : Mar} {b0 L i : Nat} {xs : Nat → Int32} {x : Int32} (cx : gC l X room_1 4 cL_law RL wsL_law E) (hX : gS X b0 L xs) (hL : L ≤ 3072) (hi : i + 6 ≤ L) (hx : x = nI i) (hr : Rel c d) (kk : ∀ (c' d' : Cor) (g' : Gar) (h' : Mar), Rel c' d' → gG X 40 954 (xW E a c' g' ++ mW E b d' h') 1312 [(0, .ref b0), (1, .ref (a 0)), (2, .ref (b 0)), (3, .int x)] []) : gG X 40 954 (xW E a c g ++ mW E b d h) 1171 [(0, .ref b0), (1, .ref (a 0)), (2, .ref (b 0)), (3, .int x)] [] := by
  refine g_aload_n cx dL_law_1171 1 rfl ?_
  refine g_aload_n cx dL_law_1172 0 rfl ?_
  refine g_iload_n cx dL_law_1173 3 rfl ?_
  refine g_iconst (v := 1) cx dL_law_1174 (by decide) ?_
  refine g_iadd cx dL_law_1175 ?_
  refine g_sld cx hX (sc_in hx hi hL 1 (by decide)) dL_law_1176 ?_
  refine g_LXi (rest := []) (As := [.int (xs (x + 1 : Int32).toNatClampNeg)]) cx hYX5_book gL_law_X5_book (c_X5_book l E a c g (xs (x + 1 : Int32).toNatClampNeg) hr.1) rfl ⟨Nat.le_of_ble_eq_true rfl, Nat.le_of_ble_eq_true rfl⟩ rfl rfl (Nat.le_of_ble_eq_true rfl) rfl rfl (Nat.le_of_ble_eq_true rfl) (Nat.le_of_ble_eq_true rfl) dL_law_1177 (fun g1 => ?_)
  refine g_aload_n cx dL_law_1180 2 rfl ?_
  refine g_aload_n cx dL_law_1181 0 rfl ?_
  refine g_iload_n cx dL_law_1182 3 rfl ?_
  refine g_iconst (v := 1) cx dL_law_1183 (by decide) ?_
  refine g_iadd cx dL_law_1184 ?_
  refine g_sld cx hX (sc_in hx hi hL 1 (by decide)) dL_law_1185 ?_
  refine g_LMi (rest := [.int ((sp_book c (xs (x + 1 : Int32).toNatClampNeg)).1)]) (As := [.int (xs (x + 1 : Int32).toNatClampNeg)]) cx hYX6_book gL_law_X6_book (c_X6_book l E b d h (xs (x + 1 : Int32).toNatClampNeg) hr.2.1) rfl ⟨Nat.le_of_ble_eq_true rfl, Nat.le_of_ble_eq_true rfl⟩ rfl rfl (Nat.le_of_ble_eq_true rfl) rfl rfl (Nat.le_of_ble_eq_true rfl) (Nat.le_of_ble_eq_true rfl) dL_law_1186 (fun g2 => ?_)
  refine g_icmp_eq (tgt := 1312) cx dL_law_1189 (by decide) (fun _ => ?_) (fun q => absurd (re_book hr (xs (x + 1 : Int32).toNatClampNeg)).1 q)
  exact kk _ _ _ _ (re_book hr (xs (x + 1 : Int32).toNatClampNeg)).2

set_option maxRecDepth 100000 in
set_option maxHeartbeats 4000000 in
theorem lc_read {l : Launch} {X : gX} {E : gE} {a b : Nat → Nat} {c d : Cor} {g : Gar} {h : Mar} {b0 L i : Nat} {xs : Nat → Int32} {x : Int32} (cx : gC l X room_1 4 cL_law RL wsL_law E) (hX : gS X b0 L xs) (hL : L ≤ 3072) (hi : i + 6 ≤ L) (hx : x = nI i) (hr : Rel c d) (kk : ∀ (c' d' : Cor) (g' : Gar) (h' : Mar), Rel c' d' → gG X 40 954 (xW E a c' g' ++ mW E b d' h') 1312 [(0, .ref b0), (1, .ref (a 0)), (2, .ref (b 0)), (3, .int x)] []) : gG X 40 954 (xW E a c g ++ mW E b d h) 1194 [(0, .ref b0), (1, .ref (a 0)), (2, .ref (b 0)), (3, .int x)] [] := by
  refine g_aload_n cx dL_law_1194 1 rfl ?_
  refine g_aload_n cx dL_law_1195 0 rfl ?_
  refine g_iload_n cx dL_law_1196 3 rfl ?_
  refine g_iconst (v := 1) cx dL_law_1197 (by decide) ?_
  refine g_iadd cx dL_law_1198 ?_
  refine g_sld cx hX (sc_in hx hi hL 1 (by decide)) dL_law_1199 ?_
  refine g_aload_n cx dL_law_1200 0 rfl ?_
  refine g_iload_n cx dL_law_1201 3 rfl ?_
  refine g_iconst (v := 2) cx dL_law_1202 (by decide) ?_
  refine g_iadd cx dL_law_1203 ?_
  refine g_sld cx hX (sc_in hx hi hL 2 (by decide)) dL_law_1204 ?_
  refine g_LXi (rest := []) (As := [.int (xs (x + 1 : Int32).toNatClampNeg), .int (xs (x + 2 : Int32).toNatClampNeg)]) cx hYX5_read gL_law_X5_read (c_X5_read l E a c g (xs (x + 1 : Int32).toNatClampNeg) (xs (x + 2 : Int32).toNatClampNeg) hr.1) rfl ⟨Nat.le_of_ble_eq_true rfl, Nat.le_of_ble_eq_true rfl⟩ rfl rfl (Nat.le_of_ble_eq_true rfl) rfl rfl (Nat.le_of_ble_eq_true rfl) (Nat.le_of_ble_eq_true rfl) dL_law_1205 (fun g1 => ?_)
  refine g_aload_n cx dL_law_1208 2 rfl ?_
  refine g_aload_n cx dL_law_1209 0 rfl ?_
  refine g_iload_n cx dL_law_1210 3 rfl ?_
  refine g_iconst (v := 1) cx dL_law_1211 (by decide) ?_
  refine g_iadd cx dL_law_1212 ?_
  refine g_sld cx hX (sc_in hx hi hL 1 (by decide)) dL_law_1213 ?_
  refine g_aload_n cx dL_law_1214 0 rfl ?_
  refine g_iload_n cx dL_law_1215 3 rfl ?_
  refine g_iconst (v := 2) cx dL_law_1216 (by decide) ?_
  refine g_iadd cx dL_law_1217 ?_
  refine g_sld cx hX (sc_in hx hi hL 2 (by decide)) dL_law_1218 ?_
  refine g_LMi (rest := [.int ((sp_read c (xs (x + 1 : Int32).toNatClampNeg) (xs (x + 2 : Int32).toNatClampNeg)).1)]) (As := [.int (xs (x + 1 : Int32).toNatClampNeg), .int (xs (x + 2 : Int32).toNatClampNeg)]) cx hYX6_read gL_law_X6_read (c_X6_read l E b d h (xs (x + 1 : Int32).toNatClampNeg) (xs (x + 2 : Int32).toNatClampNeg) hr.2.1) rfl ⟨Nat.le_of_ble_eq_true rfl, Nat.le_of_ble_eq_true rfl⟩ rfl rfl (Nat.le_of_ble_eq_true rfl) rfl rfl (Nat.le_of_ble_eq_true rfl) (Nat.le_of_ble_eq_true rfl) dL_law_1219 (fun g2 => ?_)
  refine g_icmp_eq (tgt := 1312) cx dL_law_1222 (by decide) (fun _ => ?_) (fun q => absurd (re_read hr (xs (x + 1 : Int32).toNatClampNeg) (xs (x + 2 : Int32).toNatClampNeg)).1 q)
  exact kk _ _ _ _ (re_read hr (xs (x + 1 : Int32).toNatClampNeg) (xs (x + 2 : Int32).toNatClampNeg)).2

set_option maxRecDepth 100000 in
set_option maxHeartbeats 4000000 in
theorem lc_image {l : Launch} {X : gX} {E : gE} {a b : Nat → Nat} {c d : Cor} {g : Gar} {h : Mar} {b0 L i : Nat} {xs : Nat → Int32} {x : Int32} (cx : gC l X room_1 4 cL_law RL wsL_law E) (hX : gS X b0 L xs) (hL : L ≤ 3072) (hi : i + 6 ≤ L) (hx : x = nI i) (hr : Rel c d) (kk : ∀ (c' d' : Cor) (g' : Gar) (h' : Mar), Rel c' d' → gG X 40 954 (xW E a c' g' ++ mW E b d' h') 1312 [(0, .ref b0), (1, .ref (a 0)), (2, .ref (b 0)), (3, .int x)] []) : gG X 40 954 (xW E a c g ++ mW E b d h) 1227 [(0, .ref b0), (1, .ref (a 0)), (2, .ref (b 0)), (3, .int x)] [] := by
  refine g_aload_n cx dL_law_1227 1 rfl ?_
  refine g_LXi (rest := []) (As := []) cx hYX5_image gL_law_X5_image (c_X5_image l E a c g hr.1) rfl ⟨Nat.le_of_ble_eq_true rfl, Nat.le_of_ble_eq_true rfl⟩ rfl rfl (Nat.le_of_ble_eq_true rfl) rfl rfl (Nat.le_of_ble_eq_true rfl) (Nat.le_of_ble_eq_true rfl) dL_law_1228 (fun g1 => ?_)
  refine g_aload_n cx dL_law_1231 2 rfl ?_
  refine g_LMi (rest := [.int ((sp_image c).1)]) (As := []) cx hYX6_image gL_law_X6_image (c_X6_image l E b d h hr.2.1) rfl ⟨Nat.le_of_ble_eq_true rfl, Nat.le_of_ble_eq_true rfl⟩ rfl rfl (Nat.le_of_ble_eq_true rfl) rfl rfl (Nat.le_of_ble_eq_true rfl) (Nat.le_of_ble_eq_true rfl) dL_law_1232 (fun g2 => ?_)
  refine g_icmp_eq (tgt := 1312) cx dL_law_1235 (by decide) (fun _ => ?_) (fun q => absurd (re_image hr).1 q)
  exact kk _ _ _ _ (re_image hr).2

set_option maxRecDepth 100000 in
set_option maxHeartbeats 4000000 in
theorem lc_undo {l : Launch} {X : gX} {E : gE} {a b : Nat → Nat} {c d : Cor} {g : Gar} {h : Mar} {b0 L i : Nat} {xs : Nat → Int32} {x : Int32} (cx : gC l X room_1 4 cL_law RL wsL_law E) (hX : gS X b0 L xs) (hL : L ≤ 3072) (hi : i + 6 ≤ L) (hx : x = nI i) (hr : Rel c d) (kk : ∀ (c' d' : Cor) (g' : Gar) (h' : Mar), Rel c' d' → gG X 40 954 (xW E a c' g' ++ mW E b d' h') 1312 [(0, .ref b0), (1, .ref (a 0)), (2, .ref (b 0)), (3, .int x)] []) : gG X 40 954 (xW E a c g ++ mW E b d h) 1240 [(0, .ref b0), (1, .ref (a 0)), (2, .ref (b 0)), (3, .int x)] [] := by
  refine g_aload_n cx dL_law_1240 1 rfl ?_
  refine g_LXi (rest := []) (As := []) cx hYX5_undo gL_law_X5_undo (c_X5_undo l E a c g hr.1) rfl ⟨Nat.le_of_ble_eq_true rfl, Nat.le_of_ble_eq_true rfl⟩ rfl rfl (Nat.le_of_ble_eq_true rfl) rfl rfl (Nat.le_of_ble_eq_true rfl) (Nat.le_of_ble_eq_true rfl) dL_law_1241 (fun g1 => ?_)
  refine g_aload_n cx dL_law_1244 2 rfl ?_
  refine g_LMi (rest := [.int ((sp_undo c).1)]) (As := []) cx hYX6_undo gL_law_X6_undo (c_X6_undo l E b d h hr.2.1) rfl ⟨Nat.le_of_ble_eq_true rfl, Nat.le_of_ble_eq_true rfl⟩ rfl rfl (Nat.le_of_ble_eq_true rfl) rfl rfl (Nat.le_of_ble_eq_true rfl) (Nat.le_of_ble_eq_true rfl) dL_law_1245 (fun g2 => ?_)
  refine g_icmp_eq (tgt := 1312) cx dL_law_1248 (by decide) (fun _ => ?_) (fun q => absurd (re_undo hr).1 q)
  exact kk _ _ _ _ (re_undo hr).2

set_option maxRecDepth 100000 in
set_option maxHeartbeats 4000000 in
theorem lc_tear {l : Launch} {X : gX} {E : gE} {a b : Nat → Nat} {c d : Cor} {g : Gar} {h : Mar} {b0 L i : Nat} {xs : Nat → Int32} {x : Int32} (cx : gC l X room_1 4 cL_law RL wsL_law E) (hX : gS X b0 L xs) (hL : L ≤ 3072) (hi : i + 6 ≤ L) (hx : x = nI i) (hr : Rel c d) (kk : ∀ (c' d' : Cor) (g' : Gar) (h' : Mar), Rel c' d' → gG X 40 954 (xW E a c' g' ++ mW E b d' h') 1312 [(0, .ref b0), (1, .ref (a 0)), (2, .ref (b 0)), (3, .int x)] []) : gG X 40 954 (xW E a c g ++ mW E b d h) 1253 [(0, .ref b0), (1, .ref (a 0)), (2, .ref (b 0)), (3, .int x)] [] := by
  refine g_aload_n cx dL_law_1253 1 rfl ?_
  refine g_LXi (rest := []) (As := []) cx hYX5_tear gL_law_X5_tear (c_X5_tear l E a c g hr.1) rfl ⟨Nat.le_of_ble_eq_true rfl, Nat.le_of_ble_eq_true rfl⟩ rfl rfl (Nat.le_of_ble_eq_true rfl) rfl rfl (Nat.le_of_ble_eq_true rfl) (Nat.le_of_ble_eq_true rfl) dL_law_1254 (fun g1 => ?_)
  refine g_aload_n cx dL_law_1257 2 rfl ?_
  refine g_LMi (rest := [.int ((sp_tear c).1)]) (As := []) cx hYX6_tear gL_law_X6_tear (c_X6_tear l E b d h hr.2.1) rfl ⟨Nat.le_of_ble_eq_true rfl, Nat.le_of_ble_eq_true rfl⟩ rfl rfl (Nat.le_of_ble_eq_true rfl) rfl rfl (Nat.le_of_ble_eq_true rfl) (Nat.le_of_ble_eq_true rfl) dL_law_1258 (fun g2 => ?_)
  refine g_icmp_eq (tgt := 1312) cx dL_law_1261 (by decide) (fun _ => ?_) (fun q => absurd (re_tear hr).1 q)
  exact kk _ _ _ _ (re_tear hr).2

set_option maxRecDepth 100000 in
set_option maxHeartbeats 4000000 in
theorem lc_count {l : Launch} {X : gX} {E : gE} {a b : Nat → Nat} {c d : Cor} {g : Gar} {h : Mar} {b0 L i : Nat} {xs : Nat → Int32} {x : Int32} (cx : gC l X room_1 4 cL_law RL wsL_law E) (hX : gS X b0 L xs) (hL : L ≤ 3072) (hi : i + 6 ≤ L) (hx : x = nI i) (hr : Rel c d) (kk : ∀ (c' d' : Cor) (g' : Gar) (h' : Mar), Rel c' d' → gG X 40 954 (xW E a c' g' ++ mW E b d' h') 1312 [(0, .ref b0), (1, .ref (a 0)), (2, .ref (b 0)), (3, .int x)] []) : gG X 40 954 (xW E a c g ++ mW E b d h) 1266 [(0, .ref b0), (1, .ref (a 0)), (2, .ref (b 0)), (3, .int x)] [] := by
  refine g_aload_n cx dL_law_1266 1 rfl ?_
  refine g_aload_n cx dL_law_1267 0 rfl ?_
  refine g_iload_n cx dL_law_1268 3 rfl ?_
  refine g_iconst (v := 1) cx dL_law_1269 (by decide) ?_
  refine g_iadd cx dL_law_1270 ?_
  refine g_sld cx hX (sc_in hx hi hL 1 (by decide)) dL_law_1271 ?_
  refine g_LXi (rest := []) (As := [.int (xs (x + 1 : Int32).toNatClampNeg)]) cx hYX5_count gL_law_X5_count (c_X5_count l E a c g (xs (x + 1 : Int32).toNatClampNeg) hr.1) rfl ⟨Nat.le_of_ble_eq_true rfl, Nat.le_of_ble_eq_true rfl⟩ rfl rfl (Nat.le_of_ble_eq_true rfl) rfl rfl (Nat.le_of_ble_eq_true rfl) (Nat.le_of_ble_eq_true rfl) dL_law_1272 (fun g1 => ?_)
  refine g_aload_n cx dL_law_1275 2 rfl ?_
  refine g_aload_n cx dL_law_1276 0 rfl ?_
  refine g_iload_n cx dL_law_1277 3 rfl ?_
  refine g_iconst (v := 1) cx dL_law_1278 (by decide) ?_
  refine g_iadd cx dL_law_1279 ?_
  refine g_sld cx hX (sc_in hx hi hL 1 (by decide)) dL_law_1280 ?_
  refine g_LMi (rest := [.int ((sp_count c (xs (x + 1 : Int32).toNatClampNeg)).1)]) (As := [.int (xs (x + 1 : Int32).toNatClampNeg)]) cx hYX6_count gL_law_X6_count (c_X6_count l E b d h (xs (x + 1 : Int32).toNatClampNeg) hr.2.1) rfl ⟨Nat.le_of_ble_eq_true rfl, Nat.le_of_ble_eq_true rfl⟩ rfl rfl (Nat.le_of_ble_eq_true rfl) rfl rfl (Nat.le_of_ble_eq_true rfl) (Nat.le_of_ble_eq_true rfl) dL_law_1281 (fun g2 => ?_)
  refine g_icmp_eq (tgt := 1312) cx dL_law_1284 (by decide) (fun _ => ?_) (fun q => absurd (re_count hr (xs (x + 1 : Int32).toNatClampNeg)).1 q)
  exact kk _ _ _ _ (re_count hr (xs (x + 1 : Int32).toNatClampNeg)).2

set_option maxRecDepth 100000 in
set_option maxHeartbeats 4000000 in
theorem lc_status {l : Launch} {X : gX} {E : gE} {a b : Nat → Nat} {c d : Cor} {g : Gar} {h : Mar} {b0 L i : Nat} {xs : Nat → Int32} {x : Int32} (cx : gC l X room_1 4 cL_law RL wsL_law E) (hX : gS X b0 L xs) (hL : L ≤ 3072) (hi : i + 6 ≤ L) (hx : x = nI i) (hr : Rel c d) (kk : ∀ (c' d' : Cor) (g' : Gar) (h' : Mar), Rel c' d' → gG X 40 954 (xW E a c' g' ++ mW E b d' h') 1312 [(0, .ref b0), (1, .ref (a 0)), (2, .ref (b 0)), (3, .int x)] []) : gG X 40 954 (xW E a c g ++ mW E b d h) 1289 [(0, .ref b0), (1, .ref (a 0)), (2, .ref (b 0)), (3, .int x)] [] := by
  refine g_aload_n cx dL_law_1289 1 rfl ?_
  refine g_aload_n cx dL_law_1290 0 rfl ?_
  refine g_iload_n cx dL_law_1291 3 rfl ?_
  refine g_iconst (v := 1) cx dL_law_1292 (by decide) ?_
  refine g_iadd cx dL_law_1293 ?_
  refine g_sld cx hX (sc_in hx hi hL 1 (by decide)) dL_law_1294 ?_
  refine g_LXi (rest := []) (As := [.int (xs (x + 1 : Int32).toNatClampNeg)]) cx hYX5_status gL_law_X5_status (c_X5_status l E a c g (xs (x + 1 : Int32).toNatClampNeg) hr.1) rfl ⟨Nat.le_of_ble_eq_true rfl, Nat.le_of_ble_eq_true rfl⟩ rfl rfl (Nat.le_of_ble_eq_true rfl) rfl rfl (Nat.le_of_ble_eq_true rfl) (Nat.le_of_ble_eq_true rfl) dL_law_1295 (fun g1 => ?_)
  refine g_aload_n cx dL_law_1298 2 rfl ?_
  refine g_aload_n cx dL_law_1299 0 rfl ?_
  refine g_iload_n cx dL_law_1300 3 rfl ?_
  refine g_iconst (v := 1) cx dL_law_1301 (by decide) ?_
  refine g_iadd cx dL_law_1302 ?_
  refine g_sld cx hX (sc_in hx hi hL 1 (by decide)) dL_law_1303 ?_
  refine g_LMi (rest := [.int ((sp_status c (xs (x + 1 : Int32).toNatClampNeg)).1)]) (As := [.int (xs (x + 1 : Int32).toNatClampNeg)]) cx hYX6_status gL_law_X6_status (c_X6_status l E b d h (xs (x + 1 : Int32).toNatClampNeg) hr.2.1) rfl ⟨Nat.le_of_ble_eq_true rfl, Nat.le_of_ble_eq_true rfl⟩ rfl rfl (Nat.le_of_ble_eq_true rfl) rfl rfl (Nat.le_of_ble_eq_true rfl) (Nat.le_of_ble_eq_true rfl) dL_law_1304 (fun g2 => ?_)
  refine g_icmp_eq (tgt := 1312) cx dL_law_1307 (by decide) (fun _ => ?_) (fun q => absurd (re_status hr (xs (x + 1 : Int32).toNatClampNeg)).1 q)
  exact kk _ _ _ _ (re_status hr (xs (x + 1 : Int32).toNatClampNeg)).2
