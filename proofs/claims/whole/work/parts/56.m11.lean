theorem fl_r3 (m : Nat → Nat → Int64) {s f x : Int32} {j F i : Nat} (hs : s = nI j) (hf : f = nI F) (hx : x = nI i) (hj : j < 4) (hi : F + i < 40) : flatN m (40 * s + f + x).toNatClampNeg = m j (F + i) := by
  rw [Int32.add_assoc]
  exact fl_r m hs (by rw [hf, hx, nI_add]) hj hi
theorem fl_in3 {s f x : Int32} {j F i : Nat} (hs : s = nI j) (hf : f = nI F) (hx : x = nI i) (hj : j < 4) (hi : F + i < 40) : vp_in (40 * s + f + x) 160 := by
  rw [Int32.add_assoc]
  exact fl_in hs (by rw [hf, hx, nI_add]) hj hi
theorem fl_w3 (m : Nat → Nat → Int64) {s f x : Int32} {j F i : Nat} (hs : s = nI j) (hf : f = nI F) (hx : x = nI i) (hj : j < 4) (hi : F + i < 40) (v : Int64) : vp_updL (flatN m) (40 * s + f + x).toNatClampNeg v = flatN (upN m j (vp_updL (m j) (F + i) v)) := by
  rw [Int32.add_assoc]
  exact fl_w m hs (by rw [hf, hx, nI_add]) hj hi v
/-- the row that is moved: its first i -/
def mvC (m : Nat → Int64) (F : Nat) (o : Nat → Int64) (i : Nat) : Nat → Int64 := fun k => if k < i then m (F + k) else o k
theorem mvC_0 (m : Nat → Int64) (F : Nat) (o : Nat → Int64) : mvC m F o 0 = o := by
  funext k
  unfold mvC
  rw [if_neg (Nat.not_lt_zero k)]
theorem mvC_s (m : Nat → Int64) (F : Nat) (o : Nat → Int64) (i : Nat) : vp_updL (mvC m F o i) i (m (F + i)) = mvC m F o (i + 1) := by
  funext k
  unfold vp_updL mvC
  by_cases h : k = i
  · rw [if_pos h, if_pos (by omega), h]
  · rw [if_neg h]
    by_cases h2 : k < i
    · rw [if_pos h2, if_pos (by omega)]
    · rw [if_neg h2, if_neg (by omega)]
theorem cp_0 (f g : Nat → Int64) (F O : Nat) : va_cpy f g F O 0 = g := by
  funext k
  exact pk_cpy_out (by omega)
theorem cp_s (f g : Nat → Int64) (F O i : Nat) : vp_updL (va_cpy f g F O i) (O + i) (f (F + i)) = va_cpy f g F O (i + 1) := by
  funext k
  unfold vp_updL va_cpy
  by_cases h : k = O + i
  · rw [if_pos h, if_pos (by omega), h]
    congr 1
    omega
  · rw [if_neg h]
    by_cases h2 : O ≤ k ∧ k < O + i
    · rw [if_pos h2, if_pos (by omega)]
    · rw [if_neg h2, if_neg (by omega)]
theorem hsp_n {z f n : Int32} (h : n < 0) : hsp z f n = 0 := by rw [hsp, if_pos h]
theorem hsp_f {z f n : Int32} (h : f < 0) : hsp z f n = 0 := by
  unfold hsp
  by_cases h1 : n < 0
  · rw [if_pos h1]
  · rw [if_neg h1]
    by_cases h2 : z < n
    · rw [if_pos h2]
    · rw [if_neg h2, if_pos h]
theorem hsp_z {z f n : Int32} {Z : Nat} (hz : z = nI Z) (hZ : Z ≤ 40) (h1 : ¬ f < 0) (h2 : ¬ n < 0) : hsp z f n = 0 ↔ z - f < n := by
  obtain ⟨p, hp, rfl⟩ := nI_of h1
  obtain ⟨q, hq, rfl⟩ := nI_of h2
  have ez : z.toInt = Z := by rw [hz, nI_toInt (by omega)]
  have ep : (nI p).toInt = p := nI_toInt hp
  have eq : (nI q).toInt = q := nI_toInt hq
  have e1 : (z - nI p).toInt = (Z : Int) - p := by rw [Int32.toInt_sub, ez, ep, Int.bmod_eq_of_le (by omega) (by omega)]
  have e2 : (z - nI q).toInt = (Z : Int) - q := by rw [Int32.toInt_sub, ez, eq, Int.bmod_eq_of_le (by omega) (by omega)]
  unfold hsp
  rw [if_neg h2, fc_lt (z - nI p), e1, eq]
  by_cases h3 : z < nI q
  · rw [if_pos h3]
    rw [fc_lt, ez, eq] at h3
    exact ⟨fun _ => by omega, fun _ => rfl⟩
  · rw [if_neg h3, if_neg h1]
    by_cases h4 : z - nI q < nI p
    · rw [if_pos h4]
      rw [fc_lt, e2, ep] at h4
      exact ⟨fun _ => by omega, fun _ => rfl⟩
    · rw [if_neg h4]
      rw [fc_lt, e2, ep] at h4
      exact ⟨fun w => absurd w (by decide), fun w => by omega⟩
/-- the road to the spans -/
theorem cp_h {c : Cor} {s f t o n : Int32} (h1 : ¬ isW s 0 3 = 0) (h2 : ¬ isW t 0 3 = 0) (h3 : ¬ cBits c s.toNatClampNeg = 0) (h4 : ¬ cBits c t.toNatClampNeg = 0) (h5 : cBits c s.toNatClampNeg = cBits c t.toNatClampNeg) : sp_copy c s f t o n = if hsp (cSize c s.toNatClampNeg) f n = 0 then cB (-1000000001) c else if hsp (cSize c t.toNatClampNeg) o n = 0 then cB (-1000000001) c else (n, cNm c t.toNatClampNeg (va_cpy (cNums c s.toNatClampNeg) (cNums c t.toNatClampNeg) f.toNatClampNeg o.toNatClampNeg n.toNatClampNeg)) := by
  rw [sp_copy, if_neg h1, if_neg h2, if_neg h3, if_neg h4, if_pos h5]
theorem cp_b1 {c : Cor} {x y : Int32} {Z : Int32 × Cor} (h : x = 0) : (if x = 0 then cB (-1000000001) c else if y = 0 then cB (-1000000001) c else Z) = cB (-1000000001) c := if_pos h
theorem cp_b2 {c : Cor} {x y : Int32} {Z : Int32 × Cor} (h : y = 0) : (if x = 0 then cB (-1000000001) c else if y = 0 then cB (-1000000001) c else Z) = cB (-1000000001) c := by
  by_cases q : x = 0
  · rw [if_pos q]
  · rw [if_neg q, if_pos h]

theorem cp_b {m : Nat → Nat → Int64} {js jt F O K i : Nat} {o : Nat → Int64} {x : Int32} (hx : x = nI i) (hi : i < K) (hi2 : i < 2 ^ 31) : upN (upN m jt (va_cpy (m js) (m jt) F O i)) jt (vp_updL (upN m jt (va_cpy (m js) (m jt) F O i) jt) (O + i) (mvC (m js) F o K x.toNatClampNeg)) = upN m jt (va_cpy (m js) (m jt) F O (i + 1)) := by
  have e : mvC (m js) F o K x.toNatClampNeg = m js (F + i) := by
    rw [hx, nI_clamp hi2]
    exact if_pos hi
  rw [upN_upN, upN_at, e, cp_s]

abbrev rmX6_copy : Room := { frames := 2, cells := 0, slots := 0, locals := 45 }
theorem hYX6_copy : gY yX6_copy wsX6_copy cX6_copy 7 (some .int) 5 := ⟨⟨_, rfl⟩, by decide +kernel, by decide +kernel, by decide +kernel⟩
theorem m1X6_copy_c45 : Cond.constant RX6 45 (-1000000001) ∈ wsX6_copy := by decide +kernel
theorem iwX6_copy_X6 : ∀ w ∈ u_ws RX6 TX6 16, w ∈ wsX6_copy := by decide +kernel
theorem lkX6_copy_28 : Cond.fieldLink RX6 28 "MuffinBellsModel" "bitsOf" "[I" ∈ wsX6_copy := by decide +kernel
theorem m1X6_copy_c277 : Cond.constant RX6 277 (-1000000006) ∈ wsX6_copy := by decide +kernel
theorem lkX6_copy_31 : Cond.fieldLink RX6 31 "MuffinBellsModel" "sizeOf" "[I" ∈ wsX6_copy := by decide +kernel
theorem lkX6_copy_34 : Cond.fieldLink RX6 34 "MuffinBellsModel" "numbers" "[J" ∈ wsX6_copy := by decide +kernel
theorem lkX6_copy_38 : Cond.fieldLink RX6 38 "MuffinBellsModel" "moved" "[J" ∈ wsX6_copy := by decide +kernel
theorem m1X6_copy_c119 : Cond.constant RX6 119 (-1000000003) ∈ wsX6_copy := by decide +kernel
set_option maxRecDepth 100000 in
set_option maxHeartbeats 4000000 in
theorem c_X6_copy (l : Launch) (E : gE) (a : Nat → Nat) (c : Cor) (h : Mar) (s0 : Int32) (f0 : Int32) (t0 : Int32) (o0 : Int32) (n0 : Int32) (hok : cOk c) : cti l yX6_copy wsX6_copy rmX6_copy E [.ref (a 0), .int s0, .int f0, .int t0, .int o0, .int n0] (mW E a c h) (fun r w => ∃ h', r = (sp_copy c s0 f0 t0 o0 n0).1 ∧ w = mW E a (sp_copy c s0 f0 t0 o0 n0).2 h') := by
  refine mt_i (cc := cX6_copy) (maxL := 7) (ret := some .int) (lv0 := [(0, .ref (a 0)), (1, .int s0), (2, .int f0), (3, .int t0), (4, .int o0), (5, .int n0)]) (by decide) rfl rfl (Nat.le_of_ble_eq_true rfl) (fun X cx gr hI => ?_)
  refine g_iload_n cx dX6_copy_0 1 rfl ?_
  refine g_SPi (rest := []) (As := [.int s0]) cx hYX6_isOne gX6_copy_X6_isOne (c_X6_isOne l E s0 ) ⟨Nat.le_of_ble_eq_true rfl, Nat.le_of_ble_eq_true rfl⟩ rfl rfl (Nat.le_of_ble_eq_true rfl) ⟨Nat.le_of_ble_eq_true rfl, Nat.le_of_ble_eq_true rfl⟩ dX6_copy_1 ?_
  refine g_if_eq (tgt := 14) cx dX6_copy_4 (by decide) (fun c_1 => ?_) (fun c_1 => ?_)
  · refine g_aload_n cx dX6_copy_14 0 rfl ?_
    refine g_ldc cx m1X6_copy_c45 dX6_copy_15 ?_
    refine g_VSi (rest := []) (As := [.int (-1000000001)]) cx hYX6_finds gX6_copy_X6_finds (c_X6_finds l E a c h (-1000000001) (by unfold vp_in; decide +kernel)) rfl rfl rfl ⟨Nat.le_of_ble_eq_true rfl, Nat.le_of_ble_eq_true rfl⟩ rfl rfl (Nat.le_of_ble_eq_true rfl) ⟨Nat.le_of_ble_eq_true rfl, Nat.le_of_ble_eq_true rfl⟩ dX6_copy_17 (fun r w1 hp => ?_)
    obtain ⟨rfl, rfl⟩ := hp
    exact g_iret cx gr (Nat.zero_le _) (Nat.zero_le _) dX6_copy_20 (mleaf (by rw [sp_copy, if_pos c_1]; rfl))
  · refine g_iload_n cx dX6_copy_7 3 rfl ?_
    refine g_SPi (rest := []) (As := [.int t0]) cx hYX6_isOne gX6_copy_X6_isOne (c_X6_isOne l E t0 ) ⟨Nat.le_of_ble_eq_true rfl, Nat.le_of_ble_eq_true rfl⟩ rfl rfl (Nat.le_of_ble_eq_true rfl) ⟨Nat.le_of_ble_eq_true rfl, Nat.le_of_ble_eq_true rfl⟩ dX6_copy_8 ?_
    refine g_if_ne (tgt := 21) cx dX6_copy_11 (by decide) (fun c_2 => ?_) (fun c_2 => ?_)
    · obtain ⟨js, hjs3, hjs⟩ := isW_nI 3 c_1 (by decide)
      have hjs4 : js < 4 := by omega
      have hjsc : s0.toNatClampNeg = js := by rw [hjs, nI_clamp (by omega)]
      obtain ⟨Zjs, hZjs, hzjs⟩ := sz_nI (j := js) hok hjs4
      obtain ⟨jt, hjt3, hjt⟩ := isW_nI 3 c_2 (by decide)
      have hjt4 : jt < 4 := by omega
      have hjtc : t0.toNatClampNeg = jt := by rw [hjt, nI_clamp (by omega)]
      obtain ⟨Zjt, hZjt, hzjt⟩ := sz_nI (j := jt) hok hjt4
      refine g_aload_n cx dX6_copy_21 0 rfl ?_
      refine g_get (C := RX6) (T := TX6) (N := 16) (v := .ref (a 7)) cx iwX6_copy_X6 0 12 rfl rfl (by decide) lkX6_copy_28 rfl dX6_copy_22 ?_
      refine g_iload_n cx dX6_copy_25 1 rfl ?_
      refine g_iald cx 7 rfl rfl (vp_of_nI hjs hjs4 (by decide)) dX6_copy_26 ?_
      refine g_if_eq (tgt := 39) cx dX6_copy_27 (by decide) (fun c_3 => ?_) (fun c_3 => ?_)
      · refine g_aload_n cx dX6_copy_39 0 rfl ?_
        refine g_ldcw cx m1X6_copy_c277 dX6_copy_40 ?_
        refine g_VSi (rest := []) (As := [.int (-1000000006)]) cx hYX6_finds gX6_copy_X6_finds (c_X6_finds l E a c h (-1000000006) (by unfold vp_in; decide +kernel)) rfl rfl rfl ⟨Nat.le_of_ble_eq_true rfl, Nat.le_of_ble_eq_true rfl⟩ rfl rfl (Nat.le_of_ble_eq_true rfl) ⟨Nat.le_of_ble_eq_true rfl, Nat.le_of_ble_eq_true rfl⟩ dX6_copy_43 (fun r w1 hp => ?_)
        obtain ⟨rfl, rfl⟩ := hp
        exact g_iret cx gr (Nat.zero_le _) (Nat.zero_le _) dX6_copy_46 (mleaf (by rw [sp_copy, if_neg c_1, if_neg c_2, if_pos c_3]; rfl))
      · refine g_aload_n cx dX6_copy_30 0 rfl ?_
        refine g_get (C := RX6) (T := TX6) (N := 16) (v := .ref (a 7)) cx iwX6_copy_X6 0 12 rfl rfl (by decide) lkX6_copy_28 rfl dX6_copy_31 ?_
        refine g_iload_n cx dX6_copy_34 3 rfl ?_
        refine g_iald cx 7 rfl rfl (vp_of_nI hjt hjt4 (by decide)) dX6_copy_35 ?_
        refine g_if_ne (tgt := 47) cx dX6_copy_36 (by decide) (fun c_4 => ?_) (fun c_4 => ?_)
        · refine g_aload_n cx dX6_copy_47 0 rfl ?_
          refine g_get (C := RX6) (T := TX6) (N := 16) (v := .ref (a 7)) cx iwX6_copy_X6 0 12 rfl rfl (by decide) lkX6_copy_28 rfl dX6_copy_48 ?_
          refine g_iload_n cx dX6_copy_51 1 rfl ?_
          refine g_iald cx 7 rfl rfl (vp_of_nI hjs hjs4 (by decide)) dX6_copy_52 ?_
          refine g_aload_n cx dX6_copy_53 0 rfl ?_
          refine g_get (C := RX6) (T := TX6) (N := 16) (v := .ref (a 7)) cx iwX6_copy_X6 0 12 rfl rfl (by decide) lkX6_copy_28 rfl dX6_copy_54 ?_
          refine g_iload_n cx dX6_copy_57 3 rfl ?_
          refine g_iald cx 7 rfl rfl (vp_of_nI hjt hjt4 (by decide)) dX6_copy_58 ?_
          refine g_icmp_eq (tgt := 69) cx dX6_copy_59 (by decide) (fun c_5 => ?_) (fun c_5 => ?_)
          · refine g_iload_n cx dX6_copy_69 2 rfl ?_
            refine g_if_lt (tgt := 110) cx dX6_copy_70 (by decide) (fun c_6 => ?_) (fun c_6 => ?_)
            · refine g_aload_n cx dX6_copy_110 0 rfl ?_
              refine g_ldc cx m1X6_copy_c45 dX6_copy_111 ?_
              refine g_VSi (rest := []) (As := [.int (-1000000001)]) cx hYX6_finds gX6_copy_X6_finds (c_X6_finds l E a c h (-1000000001) (by unfold vp_in; decide +kernel)) rfl rfl rfl ⟨Nat.le_of_ble_eq_true rfl, Nat.le_of_ble_eq_true rfl⟩ rfl rfl (Nat.le_of_ble_eq_true rfl) ⟨Nat.le_of_ble_eq_true rfl, Nat.le_of_ble_eq_true rfl⟩ dX6_copy_113 (fun r w1 hp => ?_)
              obtain ⟨rfl, rfl⟩ := hp
              exact g_iret cx gr (Nat.zero_le _) (Nat.zero_le _) dX6_copy_116 (mleaf ((cp_h c_1 c_2 c_3 c_4 c_5).trans (cp_b1 (hsp_f c_6))))
            · refine g_iload cx dX6_copy_73 4 rfl ?_
              refine g_if_lt (tgt := 110) cx dX6_copy_75 (by decide) (fun c_7 => ?_) (fun c_7 => ?_)
              · refine g_aload_n cx dX6_copy_110 0 rfl ?_
                refine g_ldc cx m1X6_copy_c45 dX6_copy_111 ?_
                refine g_VSi (rest := []) (As := [.int (-1000000001)]) cx hYX6_finds gX6_copy_X6_finds (c_X6_finds l E a c h (-1000000001) (by unfold vp_in; decide +kernel)) rfl rfl rfl ⟨Nat.le_of_ble_eq_true rfl, Nat.le_of_ble_eq_true rfl⟩ rfl rfl (Nat.le_of_ble_eq_true rfl) ⟨Nat.le_of_ble_eq_true rfl, Nat.le_of_ble_eq_true rfl⟩ dX6_copy_113 (fun r w1 hp => ?_)
                obtain ⟨rfl, rfl⟩ := hp
                exact g_iret cx gr (Nat.zero_le _) (Nat.zero_le _) dX6_copy_116 (mleaf ((cp_h c_1 c_2 c_3 c_4 c_5).trans (cp_b2 (hsp_f c_7))))
              · refine g_iload cx dX6_copy_78 5 rfl ?_
                refine g_if_lt (tgt := 110) cx dX6_copy_80 (by decide) (fun c_8 => ?_) (fun c_8 => ?_)
                · refine g_aload_n cx dX6_copy_110 0 rfl ?_
                  refine g_ldc cx m1X6_copy_c45 dX6_copy_111 ?_
                  refine g_VSi (rest := []) (As := [.int (-1000000001)]) cx hYX6_finds gX6_copy_X6_finds (c_X6_finds l E a c h (-1000000001) (by unfold vp_in; decide +kernel)) rfl rfl rfl ⟨Nat.le_of_ble_eq_true rfl, Nat.le_of_ble_eq_true rfl⟩ rfl rfl (Nat.le_of_ble_eq_true rfl) ⟨Nat.le_of_ble_eq_true rfl, Nat.le_of_ble_eq_true rfl⟩ dX6_copy_113 (fun r w1 hp => ?_)
                  obtain ⟨rfl, rfl⟩ := hp
                  exact g_iret cx gr (Nat.zero_le _) (Nat.zero_le _) dX6_copy_116 (mleaf ((cp_h c_1 c_2 c_3 c_4 c_5).trans (cp_b1 (hsp_n c_8))))
                · refine g_iload cx dX6_copy_83 5 rfl ?_
                  refine g_aload_n cx dX6_copy_85 0 rfl ?_
                  refine g_get (C := RX6) (T := TX6) (N := 16) (v := .ref (a 8)) cx iwX6_copy_X6 0 13 rfl rfl (by decide) lkX6_copy_31 rfl dX6_copy_86 ?_
                  refine g_iload_n cx dX6_copy_89 1 rfl ?_
                  refine g_iald cx 8 rfl rfl (vp_of_nI hjs hjs4 (by decide)) dX6_copy_90 ?_
                  refine g_iload_n cx dX6_copy_91 2 rfl ?_
                  refine g_isub cx dX6_copy_92 ?_
                  refine g_icmp_gt (tgt := 110) cx dX6_copy_93 (by decide) (fun c_9 => ?_) (fun c_9 => ?_)
                  · refine g_aload_n cx dX6_copy_110 0 rfl ?_
                    refine g_ldc cx m1X6_copy_c45 dX6_copy_111 ?_
                    refine g_VSi (rest := []) (As := [.int (-1000000001)]) cx hYX6_finds gX6_copy_X6_finds (c_X6_finds l E a c h (-1000000001) (by unfold vp_in; decide +kernel)) rfl rfl rfl ⟨Nat.le_of_ble_eq_true rfl, Nat.le_of_ble_eq_true rfl⟩ rfl rfl (Nat.le_of_ble_eq_true rfl) ⟨Nat.le_of_ble_eq_true rfl, Nat.le_of_ble_eq_true rfl⟩ dX6_copy_113 (fun r w1 hp => ?_)
                    obtain ⟨rfl, rfl⟩ := hp
                    exact g_iret cx gr (Nat.zero_le _) (Nat.zero_le _) dX6_copy_116 (mleaf ((cp_h c_1 c_2 c_3 c_4 c_5).trans (cp_b1 ((hsp_z (by rw [hjsc]; exact hzjs) hZjs c_6 c_8).mpr c_9))))
                  · refine g_iload cx dX6_copy_96 5 rfl ?_
                    refine g_aload_n cx dX6_copy_98 0 rfl ?_
                    refine g_get (C := RX6) (T := TX6) (N := 16) (v := .ref (a 8)) cx iwX6_copy_X6 0 13 rfl rfl (by decide) lkX6_copy_31 rfl dX6_copy_99 ?_
                    refine g_iload_n cx dX6_copy_102 3 rfl ?_
                    refine g_iald cx 8 rfl rfl (vp_of_nI hjt hjt4 (by decide)) dX6_copy_103 ?_
                    refine g_iload cx dX6_copy_104 4 rfl ?_
                    refine g_isub cx dX6_copy_106 ?_
                    refine g_icmp_le (tgt := 117) cx dX6_copy_107 (by decide) (fun c_10 => ?_) (fun c_10 => ?_)
                    · have hh1 : ¬ hsp (c.2.2.2.2.2.2.1 s0.toNatClampNeg) f0 n0 = 0 := fun w => c_9 ((hsp_z (by rw [hjsc]; exact hzjs) hZjs c_6 c_8).mp w)
                      have hh2 : ¬ hsp (c.2.2.2.2.2.2.1 t0.toNatClampNeg) o0 n0 = 0 := fun w => absurd ((hsp_z (by rw [hjtc]; exact hzjt) hZjt c_7 c_8).mp w) (Int32.not_lt.mpr c_10)
                      have ok1 := (hsp_ok hh1 (by rw [hjsc]; exact hzjs) hZjs).2.2
                      have ok2 := (hsp_ok hh2 (by rw [hjtc]; exact hzjt) hZjt).2.2
                      obtain ⟨F, hF1, hF⟩ := nI_of c_6
                      have hFc : f0.toNatClampNeg = F := by rw [hF, nI_clamp hF1]
                      obtain ⟨O, hO1, hO⟩ := nI_of c_7
                      have hOc : o0.toNatClampNeg = O := by rw [hO, nI_clamp hO1]
                      obtain ⟨K, hK1, hK⟩ := nI_of c_8
                      have hKc : n0.toNatClampNeg = K := by rw [hK, nI_clamp hK1]
                      rw [hFc, hKc] at ok1
                      rw [hOc, hKc] at ok2
                      refine g_iconst (v := 0) cx dX6_copy_117 (by decide) ?_
                      refine g_istore (lv' := [(6, .int 0), (0, .ref (a 0)), (1, .int s0), (2, .int f0), (3, .int t0), (4, .int o0), (5, .int n0)]) cx dX6_copy_118 (by decide) rfl ?_
                      have LP120 : ∀ (d : Nat) (i : Nat) (x : Int32), i + d = K + 1 → i ≤ K → x = nI i → gG X 0 0 (mW E a c (h.1, h.2.1, h.2.2.1, h.2.2.2.1, h.2.2.2.2.1, h.2.2.2.2.2.1, mvC (c.2.2.2.2.2.2.2.1 js) F h.2.2.2.2.2.2 i)) 120 [(0, .ref (a 0)), (1, .int s0), (2, .int f0), (3, .int t0), (4, .int o0), (5, .int n0), (6, .int x)] [] := by
                        intro d
                        induction d with
                        | zero =>
                          intro i x hi hiN hx
                          omega
                        | succ d ih =>
                          intro i x hi hiN hx
                          refine g_iload cx dX6_copy_120 6 rfl ?_
                          refine g_iload cx dX6_copy_122 5 rfl ?_
                          refine g_icmp_ge (tgt := 154) cx dX6_copy_124 (by decide) (fun c_11 => ?_) (fun c_11 => ?_)
                          · refine g_iconst (v := 0) cx dX6_copy_154 (by decide) ?_
                            refine g_istore (lv' := [(6, .int 0), (0, .ref (a 0)), (1, .int s0), (2, .int f0), (3, .int t0), (4, .int o0), (5, .int n0)]) cx dX6_copy_155 (by decide) rfl ?_
                            have LP157 : ∀ (d2 : Nat) (i2 : Nat) (x2 : Int32), i2 + d2 = K + 1 → i2 ≤ K → x2 = nI i2 → gG X 0 0 (mW E a (c.1, c.2.1, c.2.2.1, c.2.2.2.1, c.2.2.2.2.1, c.2.2.2.2.2.1, c.2.2.2.2.2.2.1, upN c.2.2.2.2.2.2.2.1 jt (va_cpy (c.2.2.2.2.2.2.2.1 js) (c.2.2.2.2.2.2.2.1 jt) F O i2), c.2.2.2.2.2.2.2.2) (h.1, h.2.1, h.2.2.1, h.2.2.2.1, h.2.2.2.2.1, h.2.2.2.2.2.1, mvC (c.2.2.2.2.2.2.2.1 js) F h.2.2.2.2.2.2 K)) 157 [(0, .ref (a 0)), (1, .int s0), (2, .int f0), (3, .int t0), (4, .int o0), (5, .int n0), (6, .int x2)] [] := by
                              intro d2
                              induction d2 with
                              | zero =>
                                intro i2 x2 hi2 hiN2 hx2
                                omega
                              | succ d2 ih2 =>
                                intro i2 x2 hi2 hiN2 hx2
                                refine g_iload cx dX6_copy_157 6 rfl ?_
                                refine g_iload cx dX6_copy_159 5 rfl ?_
                                refine g_icmp_ge (tgt := 192) cx dX6_copy_161 (by decide) (fun c_12 => ?_) (fun c_12 => ?_)
                                · refine g_iload cx dX6_copy_192 5 rfl ?_
                                  exact g_iret cx gr (Nat.zero_le _) (Nat.zero_le _) dX6_copy_194 (mleaf ((cp_h c_1 c_2 c_3 c_4 c_5).trans (by rw [if_neg hh1, if_neg hh2, hjtc, hjsc, hFc, hOc, hKc, show i2 = K by have := ge_of K hx2 (by rw [← hK]; exact c_12) (by omega) (by omega); omega]; rfl)))
                                · refine g_aload_n cx dX6_copy_164 0 rfl ?_
                                  refine g_get (C := RX6) (T := TX6) (N := 16) (v := .ref (a 9)) cx iwX6_copy_X6 0 14 rfl rfl (by decide) lkX6_copy_34 rfl dX6_copy_165 ?_
                                  refine g_bipush (v := 40) cx dX6_copy_168 (by decide) ?_
                                  refine g_iload_n cx dX6_copy_170 3 rfl ?_
                                  refine g_imul cx dX6_copy_171 ?_
                                  refine g_iload cx dX6_copy_172 4 rfl ?_
                                  refine g_iadd cx dX6_copy_174 ?_
                                  refine g_iload cx dX6_copy_175 6 rfl ?_
                                  refine g_iadd cx dX6_copy_177 ?_
                                  refine g_aload_n cx dX6_copy_178 0 rfl ?_
                                  refine g_get (C := RX6) (T := TX6) (N := 16) (v := .ref (a 10)) cx iwX6_copy_X6 0 15 rfl rfl (by decide) lkX6_copy_38 rfl dX6_copy_179 ?_
                                  refine g_iload cx dX6_copy_182 6 rfl ?_
                                  refine g_lald cx 10 rfl rfl (vp_of_nI hx2 (by have := lt_of K hx2 (by rw [← hK]; exact c_12) (by omega) (by omega); omega) (by decide)) dX6_copy_184 ?_
                                  refine g_last (ws' := (mW E a (c.1, c.2.1, c.2.2.1, c.2.2.2.1, c.2.2.2.2.1, c.2.2.2.2.2.1, c.2.2.2.2.2.2.1, upN (upN c.2.2.2.2.2.2.2.1 jt (va_cpy (c.2.2.2.2.2.2.2.1 js) (c.2.2.2.2.2.2.2.1 jt) F O i2)) jt (vp_updL ((upN c.2.2.2.2.2.2.2.1 jt (va_cpy (c.2.2.2.2.2.2.2.1 js) (c.2.2.2.2.2.2.2.1 jt) F O i2)) jt) (O + i2) ((mvC (c.2.2.2.2.2.2.2.1 js) F h.2.2.2.2.2.2 K) (x2.toNatClampNeg))), c.2.2.2.2.2.2.2.2) (h.1, h.2.1, h.2.2.1, h.2.2.2.1, h.2.2.2.2.1, h.2.2.2.2.2.1, mvC (c.2.2.2.2.2.2.2.1 js) F h.2.2.2.2.2.2 K))) cx 9 rfl rfl (fl_in3 hjt hO hx2 hjt4 (by have := lt_of K hx2 (by rw [← hK]; exact c_12) (by omega) (by omega); omega)) dX6_copy_185 (congrArg (fun f => List.set (mW E a (c.1, c.2.1, c.2.2.1, c.2.2.2.1, c.2.2.2.2.1, c.2.2.2.2.2.1, c.2.2.2.2.2.2.1, upN c.2.2.2.2.2.2.2.1 jt (va_cpy (c.2.2.2.2.2.2.2.1 js) (c.2.2.2.2.2.2.2.1 jt) F O i2), c.2.2.2.2.2.2.2.2) (h.1, h.2.1, h.2.2.1, h.2.2.2.1, h.2.2.2.2.1, h.2.2.2.2.2.1, mvC (c.2.2.2.2.2.2.2.1 js) F h.2.2.2.2.2.2 K)) 9 (a 9, .inl (gJ E, 160, .inr (.inl f)))) (fl_w3 (upN c.2.2.2.2.2.2.2.1 jt (va_cpy (c.2.2.2.2.2.2.2.1 js) (c.2.2.2.2.2.2.2.1 jt) F O i2)) hjt hO hx2 hjt4 (by have := lt_of K hx2 (by rw [← hK]; exact c_12) (by omega) (by omega); omega) ((mvC (c.2.2.2.2.2.2.2.1 js) F h.2.2.2.2.2.2 K) (x2.toNatClampNeg)))) ?_
                                  refine g_iinc (v := x2 + 1) (lv' := [(6, .int (x2 + 1)), (0, .ref (a 0)), (1, .int s0), (2, .int f0), (3, .int t0), (4, .int o0), (5, .int n0)]) cx dX6_copy_186 6 rfl rfl (by decide) rfl ?_
                                  refine g_goto (tgt := 157) cx dX6_copy_189 (by decide) ?_
                                  exact g_lv [1, 2, 3, 4, 5, 6, 0] rfl (g_w (congrArg (fun F9 : Nat → Nat → Int64 => (mW E a (c.1, c.2.1, c.2.2.1, c.2.2.2.1, c.2.2.2.2.1, c.2.2.2.2.2.1, c.2.2.2.2.2.2.1, F9, c.2.2.2.2.2.2.2.2) (h.1, h.2.1, h.2.2.1, h.2.2.2.1, h.2.2.2.2.1, h.2.2.2.2.2.1, mvC (c.2.2.2.2.2.2.2.1 js) F h.2.2.2.2.2.2 K))) (cp_b hx2 (lt_of K hx2 (by rw [← hK]; exact c_12) (by omega) (by omega)) (by omega))) (ih2 (i2 + 1) (x2 + 1) (by omega) (by have := lt_of K hx2 (by rw [← hK]; exact c_12) (by omega) (by omega); omega) (by rw [hx2]; exact nI_1 i2)))
                            have hiK : i = K := by have := ge_of K hx (by rw [← hK]; exact c_11) (by omega) (by omega); omega
                            rw [hiK]
                            refine g_w (congrArg (fun F9 : Nat → Nat → Int64 => (mW E a (c.1, c.2.1, c.2.2.1, c.2.2.2.1, c.2.2.2.2.1, c.2.2.2.2.2.1, c.2.2.2.2.2.2.1, F9, c.2.2.2.2.2.2.2.2) (h.1, h.2.1, h.2.2.1, h.2.2.2.1, h.2.2.2.2.1, h.2.2.2.2.2.1, mvC (c.2.2.2.2.2.2.2.1 js) F h.2.2.2.2.2.2 K))) (show c.2.2.2.2.2.2.2.1 = upN c.2.2.2.2.2.2.2.1 jt (va_cpy (c.2.2.2.2.2.2.2.1 js) (c.2.2.2.2.2.2.2.1 jt) F O 0) from by rw [cp_0, upN_self])) ?_
                            exact g_lv [1, 2, 3, 4, 5, 6, 0] rfl (LP157 (K + 1) 0 0 (by omega) (by omega) rfl)
                          · refine g_aload_n cx dX6_copy_127 0 rfl ?_
                            refine g_get (C := RX6) (T := TX6) (N := 16) (v := .ref (a 10)) cx iwX6_copy_X6 0 15 rfl rfl (by decide) lkX6_copy_38 rfl dX6_copy_128 ?_
                            refine g_iload cx dX6_copy_131 6 rfl ?_
                            refine g_aload_n cx dX6_copy_133 0 rfl ?_
                            refine g_get (C := RX6) (T := TX6) (N := 16) (v := .ref (a 9)) cx iwX6_copy_X6 0 14 rfl rfl (by decide) lkX6_copy_34 rfl dX6_copy_134 ?_
                            refine g_bipush (v := 40) cx dX6_copy_137 (by decide) ?_
                            refine g_iload_n cx dX6_copy_139 1 rfl ?_
                            refine g_imul cx dX6_copy_140 ?_
                            refine g_iload_n cx dX6_copy_141 2 rfl ?_
                            refine g_iadd cx dX6_copy_142 ?_
                            refine g_iload cx dX6_copy_143 6 rfl ?_
                            refine g_iadd cx dX6_copy_145 ?_
                            refine g_lald cx 9 rfl rfl (fl_in3 hjs hF hx hjs4 (by have := lt_of K hx (by rw [← hK]; exact c_11) (by omega) (by omega); omega)) dX6_copy_146 ?_
                            refine g_topl (y := c.2.2.2.2.2.2.2.1 js (F + i)) (fl_r3 c.2.2.2.2.2.2.2.1 hjs hF hx hjs4 (by have := lt_of K hx (by rw [← hK]; exact c_11) (by omega) (by omega); omega)) ?_
                            refine g_last (ws' := (mW E a c (h.1, h.2.1, h.2.2.1, h.2.2.2.1, h.2.2.2.2.1, h.2.2.2.2.2.1, vp_updL (mvC (c.2.2.2.2.2.2.2.1 js) F h.2.2.2.2.2.2 i) x.toNatClampNeg (c.2.2.2.2.2.2.2.1 js (F + i))))) cx 10 rfl rfl (vp_of_nI hx (by have := lt_of K hx (by rw [← hK]; exact c_11) (by omega) (by omega); omega) (by decide)) dX6_copy_147 rfl ?_
                            refine g_iinc (v := x + 1) (lv' := [(6, .int (x + 1)), (0, .ref (a 0)), (1, .int s0), (2, .int f0), (3, .int t0), (4, .int o0), (5, .int n0)]) cx dX6_copy_148 6 rfl rfl (by decide) rfl ?_
                            refine g_goto (tgt := 120) cx dX6_copy_151 (by decide) ?_
                            exact g_lv [1, 2, 3, 4, 5, 6, 0] rfl (g_w (congrArg (fun F9 : Nat → Int64 => (mW E a c (h.1, h.2.1, h.2.2.1, h.2.2.2.1, h.2.2.2.2.1, h.2.2.2.2.2.1, F9))) (by rw [hx, nI_clamp (by omega), mvC_s])) (ih (i + 1) (x + 1) (by omega) (by have := lt_of K hx (by rw [← hK]; exact c_11) (by omega) (by omega); omega) (by rw [hx]; exact nI_1 i)))
                      refine g_w (congrArg (fun F9 : Nat → Int64 => (mW E a c (h.1, h.2.1, h.2.2.1, h.2.2.2.1, h.2.2.2.2.1, h.2.2.2.2.2.1, F9))) (mvC_0 (c.2.2.2.2.2.2.2.1 js) F h.2.2.2.2.2.2).symm) ?_
                      exact g_lv [1, 2, 3, 4, 5, 6, 0] rfl (LP120 (K + 1) 0 0 (by omega) (by omega) rfl)
                    · refine g_aload_n cx dX6_copy_110 0 rfl ?_
                      refine g_ldc cx m1X6_copy_c45 dX6_copy_111 ?_
                      refine g_VSi (rest := []) (As := [.int (-1000000001)]) cx hYX6_finds gX6_copy_X6_finds (c_X6_finds l E a c h (-1000000001) (by unfold vp_in; decide +kernel)) rfl rfl rfl ⟨Nat.le_of_ble_eq_true rfl, Nat.le_of_ble_eq_true rfl⟩ rfl rfl (Nat.le_of_ble_eq_true rfl) ⟨Nat.le_of_ble_eq_true rfl, Nat.le_of_ble_eq_true rfl⟩ dX6_copy_113 (fun r w1 hp => ?_)
                      obtain ⟨rfl, rfl⟩ := hp
                      exact g_iret cx gr (Nat.zero_le _) (Nat.zero_le _) dX6_copy_116 (mleaf ((cp_h c_1 c_2 c_3 c_4 c_5).trans (cp_b2 ((hsp_z (by rw [hjtc]; exact hzjt) hZjt c_7 c_8).mpr (Int32.not_le.mp c_10)))))
          · refine g_aload_n cx dX6_copy_62 0 rfl ?_
            refine g_ldc cx m1X6_copy_c119 dX6_copy_63 ?_
            refine g_VSi (rest := []) (As := [.int (-1000000003)]) cx hYX6_finds gX6_copy_X6_finds (c_X6_finds l E a c h (-1000000003) (by unfold vp_in; decide +kernel)) rfl rfl rfl ⟨Nat.le_of_ble_eq_true rfl, Nat.le_of_ble_eq_true rfl⟩ rfl rfl (Nat.le_of_ble_eq_true rfl) ⟨Nat.le_of_ble_eq_true rfl, Nat.le_of_ble_eq_true rfl⟩ dX6_copy_65 (fun r w1 hp => ?_)
            obtain ⟨rfl, rfl⟩ := hp
            exact g_iret cx gr (Nat.zero_le _) (Nat.zero_le _) dX6_copy_68 (mleaf (by rw [sp_copy, if_neg c_1, if_neg c_2, if_neg c_3, if_neg c_4, if_neg c_5]; rfl))
        · refine g_aload_n cx dX6_copy_39 0 rfl ?_
          refine g_ldcw cx m1X6_copy_c277 dX6_copy_40 ?_
          refine g_VSi (rest := []) (As := [.int (-1000000006)]) cx hYX6_finds gX6_copy_X6_finds (c_X6_finds l E a c h (-1000000006) (by unfold vp_in; decide +kernel)) rfl rfl rfl ⟨Nat.le_of_ble_eq_true rfl, Nat.le_of_ble_eq_true rfl⟩ rfl rfl (Nat.le_of_ble_eq_true rfl) ⟨Nat.le_of_ble_eq_true rfl, Nat.le_of_ble_eq_true rfl⟩ dX6_copy_43 (fun r w1 hp => ?_)
          obtain ⟨rfl, rfl⟩ := hp
          exact g_iret cx gr (Nat.zero_le _) (Nat.zero_le _) dX6_copy_46 (mleaf (by rw [sp_copy, if_neg c_1, if_neg c_2, if_neg c_3, if_pos c_4]; rfl))
    · refine g_aload_n cx dX6_copy_14 0 rfl ?_
      refine g_ldc cx m1X6_copy_c45 dX6_copy_15 ?_
      refine g_VSi (rest := []) (As := [.int (-1000000001)]) cx hYX6_finds gX6_copy_X6_finds (c_X6_finds l E a c h (-1000000001) (by unfold vp_in; decide +kernel)) rfl rfl rfl ⟨Nat.le_of_ble_eq_true rfl, Nat.le_of_ble_eq_true rfl⟩ rfl rfl (Nat.le_of_ble_eq_true rfl) ⟨Nat.le_of_ble_eq_true rfl, Nat.le_of_ble_eq_true rfl⟩ dX6_copy_17 (fun r w1 hp => ?_)
      obtain ⟨rfl, rfl⟩ := hp
      exact g_iret cx gr (Nat.zero_le _) (Nat.zero_le _) dX6_copy_20 (mleaf (by rw [sp_copy, if_neg c_1, if_pos c_2]; rfl))
