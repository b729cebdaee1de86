abbrev rmX6_token : Room := { frames := 2, cells := 0, slots := 0, locals := 45 }
theorem hYX6_token : gY yX6_token wsX6_token cX6_token 3 (none) 0 := ⟨⟨_, rfl⟩, by decide +kernel, by decide +kernel, by decide +kernel⟩
theorem iwX6_token_X6 : ∀ w ∈ u_ws RX6 TX6 16, w ∈ wsX6_token := by decide +kernel
theorem lkX6_token_186 : Cond.fieldLink RX6 186 "MuffinBellsModel" "to" "I" ∈ wsX6_token := by decide +kernel
theorem lkX6_token_189 : Cond.fieldLink RX6 189 "MuffinBellsModel" "from" "I" ∈ wsX6_token := by decide +kernel
theorem lkX6_token_173 : Cond.fieldLink RX6 173 "MuffinBellsModel" "taped" "I" ∈ wsX6_token := by decide +kernel
set_option maxRecDepth 100000 in
set_option maxHeartbeats 4000000 in
theorem c_X6_token (l : Launch) (E : gE) (a : Nat → Nat) (c : Cor) (h : Mar) (b : Nat → Int32) (T : Nat) (t : Ter) (v : Int32) (w9 : Int32) (fr : Int32) (q0 : Nat) (hT : T ≤ 120) (hq : q0 ≤ T) : ctv l yX6_token wsX6_token rmX6_token E [.ref (a 0)] (mW E a (t, c.2.1, c.2.2.1, b, nI T, c.2.2.2.2.2.1, c.2.2.2.2.2.2.1, c.2.2.2.2.2.2.2.1, c.2.2.2.2.2.2.2.2) (h.1, h.2.1, fr, nI q0, v, w9, h.2.2.2.2.2.2)) (fun w => w = (mW E a (t, c.2.1, c.2.2.1, b, nI T, c.2.2.2.2.2.1, c.2.2.2.2.2.2.1, c.2.2.2.2.2.2.2.1, c.2.2.2.2.2.2.2.2) (h.1, h.2.1, nI (tkS b T q0), nI (tkE b T (tkS b T q0)), v, w9, h.2.2.2.2.2.2))) := by
  refine mt_v (cc := cX6_token) (maxL := 3) (ret := none) (lv0 := [(0, .ref (a 0))]) (by decide) rfl rfl (Nat.le_of_ble_eq_true rfl) (fun X cx gr hI => ?_)
  refine g_aload_n cx dX6_token_0 0 rfl ?_
  refine g_aload_n cx dX6_token_1 0 rfl ?_
  refine g_get (C := RX6) (T := TX6) (N := 16) (v := .int (nI q0)) cx iwX6_token_X6 0 9 rfl rfl (by decide) lkX6_token_186 rfl dX6_token_2 ?_
  refine g_put (C := RX6) (T := TX6) (N := 16) (ws' := (mW E a (t, c.2.1, c.2.2.1, b, nI T, c.2.2.2.2.2.1, c.2.2.2.2.2.2.1, c.2.2.2.2.2.2.2.1, c.2.2.2.2.2.2.2.2) (h.1, h.2.1, nI q0, nI q0, v, w9, h.2.2.2.2.2.2))) cx iwX6_token_X6 tyX6 tyX6_ok nmX6 0 8 rfl rfl (by decide) lkX6_token_189 rfl rfl rfl (Nat.le_of_ble_eq_true rfl) dX6_token_5 rfl ?_
  have LP8 : ∀ (d : Nat) (p : Nat), p + d = T + 1 → p ≤ T → tkS b T q0 = tkS b T p → gG X 0 0 (mW E a (t, c.2.1, c.2.2.1, b, nI T, c.2.2.2.2.2.1, c.2.2.2.2.2.2.1, c.2.2.2.2.2.2.2.1, c.2.2.2.2.2.2.2.2) (h.1, h.2.1, nI p, nI q0, v, w9, h.2.2.2.2.2.2)) 8 [(0, .ref (a 0))] [] := by
    intro d
    induction d with
    | zero =>
      intro p hp1 hp2 hs
      omega
    | succ d ih =>
      intro p hp1 hp2 hs
      refine g_aload_n cx dX6_token_8 0 rfl ?_
      refine g_aload_n cx dX6_token_9 0 rfl ?_
      refine g_get (C := RX6) (T := TX6) (N := 16) (v := .int (nI p)) cx iwX6_token_X6 0 8 rfl rfl (by decide) lkX6_token_189 rfl dX6_token_10 ?_
      refine g_VSi (rest := []) (As := [.int (nI p)]) cx hYX6_byteAt gX6_token_X6_byteAt (c_X6_byteAt l E a (t, c.2.1, c.2.2.1, b, nI T, c.2.2.2.2.2.1, c.2.2.2.2.2.2.1, c.2.2.2.2.2.2.2.1, c.2.2.2.2.2.2.2.2) (h.1, h.2.1, nI p, nI q0, v, w9, h.2.2.2.2.2.2) b T p hT hp2) rfl rfl rfl ⟨Nat.le_of_ble_eq_true rfl, Nat.le_of_ble_eq_true rfl⟩ rfl rfl (Nat.le_of_ble_eq_true rfl) ⟨Nat.le_of_ble_eq_true rfl, Nat.le_of_ble_eq_true rfl⟩ dX6_token_13 (fun r w1 hp => ?_)
      obtain ⟨rfl, rfl⟩ := hp
      refine g_bipush (v := 32) cx dX6_token_16 (by decide) ?_
      refine g_icmp_ne (tgt := 34) cx dX6_token_18 (by decide) (fun c_1 => ?_) (fun c_1 => ?_)
      · have hpS : tkS b T q0 = p := by rw [hs]; exact sp_stop c_1
        refine g_aload_n cx dX6_token_34 0 rfl ?_
        refine g_aload_n cx dX6_token_35 0 rfl ?_
        refine g_get (C := RX6) (T := TX6) (N := 16) (v := .int (nI p)) cx iwX6_token_X6 0 8 rfl rfl (by decide) lkX6_token_189 rfl dX6_token_36 ?_
        refine g_VSi (rest := []) (As := [.int (nI p)]) cx hYX6_byteAt gX6_token_X6_byteAt (c_X6_byteAt l E a (t, c.2.1, c.2.2.1, b, nI T, c.2.2.2.2.2.1, c.2.2.2.2.2.2.1, c.2.2.2.2.2.2.2.1, c.2.2.2.2.2.2.2.2) (h.1, h.2.1, nI p, nI q0, v, w9, h.2.2.2.2.2.2) b T p hT hp2) rfl rfl rfl ⟨Nat.le_of_ble_eq_true rfl, Nat.le_of_ble_eq_true rfl⟩ rfl rfl (Nat.le_of_ble_eq_true rfl) ⟨Nat.le_of_ble_eq_true rfl, Nat.le_of_ble_eq_true rfl⟩ dX6_token_39 (fun r w1 hp => ?_)
        obtain ⟨rfl, rfl⟩ := hp
        refine g_SPi (rest := []) (As := [.int (btA b T p)]) cx hYX6_isLetter gX6_token_X6_isLetter (c_X6_isLetter l E (btA b T p) ) ⟨Nat.le_of_ble_eq_true rfl, Nat.le_of_ble_eq_true rfl⟩ rfl rfl (Nat.le_of_ble_eq_true rfl) ⟨Nat.le_of_ble_eq_true rfl, Nat.le_of_ble_eq_true rfl⟩ dX6_token_42 ?_
        refine g_istore_n (lv' := [(1, .int (isW (btA b T p) 97 122)), (0, .ref (a 0))]) cx dX6_token_45 (by decide) rfl ?_
        refine g_aload_n cx dX6_token_46 1 rfl ?_
        refine g_aload_n cx dX6_token_47 1 rfl ?_
        refine g_get (C := RX6) (T := TX6) (N := 16) (v := .int (nI p)) cx iwX6_token_X6 0 8 rfl rfl (by decide) lkX6_token_189 rfl dX6_token_48 ?_
        refine g_VSi (rest := []) (As := [.int (nI p)]) cx hYX6_byteAt gX6_token_X6_byteAt (c_X6_byteAt l E a (t, c.2.1, c.2.2.1, b, nI T, c.2.2.2.2.2.1, c.2.2.2.2.2.2.1, c.2.2.2.2.2.2.2.1, c.2.2.2.2.2.2.2.2) (h.1, h.2.1, nI p, nI q0, v, w9, h.2.2.2.2.2.2) b T p hT hp2) rfl rfl rfl ⟨Nat.le_of_ble_eq_true rfl, Nat.le_of_ble_eq_true rfl⟩ rfl rfl (Nat.le_of_ble_eq_true rfl) ⟨Nat.le_of_ble_eq_true rfl, Nat.le_of_ble_eq_true rfl⟩ dX6_token_51 (fun r w1 hp => ?_)
        obtain ⟨rfl, rfl⟩ := hp
        refine g_SPi (rest := []) (As := [.int (btA b T p)]) cx hYX6_isDigit gX6_token_X6_isDigit (c_X6_isDigit l E (btA b T p) ) ⟨Nat.le_of_ble_eq_true rfl, Nat.le_of_ble_eq_true rfl⟩ rfl rfl (Nat.le_of_ble_eq_true rfl) ⟨Nat.le_of_ble_eq_true rfl, Nat.le_of_ble_eq_true rfl⟩ dX6_token_54 ?_
        refine g_istore_n (lv' := [(2, .int (isW (btA b T p) 48 57)), (1, .int (isW (btA b T p) 97 122)), (0, .ref (a 0))]) cx dX6_token_57 (by decide) rfl ?_
        refine g_aload_n cx dX6_token_58 2 rfl ?_
        refine g_aload_n cx dX6_token_59 2 rfl ?_
        refine g_get (C := RX6) (T := TX6) (N := 16) (v := .int (nI p)) cx iwX6_token_X6 0 8 rfl rfl (by decide) lkX6_token_189 rfl dX6_token_60 ?_
        refine g_aload_n cx dX6_token_63 2 rfl ?_
        refine g_get (C := RX6) (T := TX6) (N := 16) (v := .int (nI T)) cx iwX6_token_X6 0 7 rfl rfl (by decide) lkX6_token_173 rfl dX6_token_64 ?_
        refine g_icmp_ge (tgt := 79) cx dX6_token_67 (by decide) (fun c_2 => ?_) (fun c_2 => ?_)
        · refine g_aload_n cx dX6_token_79 2 rfl ?_
          refine g_get (C := RX6) (T := TX6) (N := 16) (v := .int (nI p)) cx iwX6_token_X6 0 8 rfl rfl (by decide) lkX6_token_189 rfl dX6_token_80 ?_
          refine g_put (C := RX6) (T := TX6) (N := 16) (ws' := (mW E a (t, c.2.1, c.2.2.1, b, nI T, c.2.2.2.2.2.1, c.2.2.2.2.2.2.1, c.2.2.2.2.2.2.2.1, c.2.2.2.2.2.2.2.2) (h.1, h.2.1, nI p, nI p, v, w9, h.2.2.2.2.2.2))) cx iwX6_token_X6 tyX6 tyX6_ok nmX6 0 9 rfl rfl (by decide) lkX6_token_186 rfl rfl rfl (Nat.le_of_ble_eq_true rfl) dX6_token_83 rfl ?_
          have LP86 : ∀ (d2 : Nat) (e : Nat), e + d2 = T + 1 → e ≤ T → tkE b T p = tkF b T (isW (btA b T p) 97 122) (isW (btA b T p) 48 57) e → gG X 0 0 (mW E a (t, c.2.1, c.2.2.1, b, nI T, c.2.2.2.2.2.1, c.2.2.2.2.2.2.1, c.2.2.2.2.2.2.2.1, c.2.2.2.2.2.2.2.2) (h.1, h.2.1, nI p, nI e, v, w9, h.2.2.2.2.2.2)) 86 [(0, .ref (a 0)), (1, .int (isW (btA b T p) 97 122)), (2, .int (isW (btA b T p) 48 57))] [] := by
            intro d2
            induction d2 with
            | zero =>
              intro e he1 he2 hs2
              omega
            | succ d2 ih2 =>
              intro e he1 he2 hs2
              refine g_iload_n cx dX6_token_86 1 rfl ?_
              refine g_if_eq (tgt := 104) cx dX6_token_87 (by decide) (fun c_3 => ?_) (fun c_3 => ?_)
              · refine g_iload_n cx dX6_token_104 2 rfl ?_
                refine g_if_eq (tgt := 135) cx dX6_token_105 (by decide) (fun c_4 => ?_) (fun c_4 => ?_)
                · exact g_vret cx gr (Nat.zero_le _) (Nat.zero_le _) dX6_token_135 (by rw [hpS]; have e9 : tkE b T p = e := (by rw [hs2, tkF, if_pos c_3, if_pos c_4]); rw [e9] <;> rfl)
                · refine g_aload_n cx dX6_token_108 0 rfl ?_
                  refine g_aload_n cx dX6_token_109 0 rfl ?_
                  refine g_get (C := RX6) (T := TX6) (N := 16) (v := .int (nI e)) cx iwX6_token_X6 0 9 rfl rfl (by decide) lkX6_token_186 rfl dX6_token_110 ?_
                  refine g_VSi (rest := []) (As := [.int (nI e)]) cx hYX6_byteAt gX6_token_X6_byteAt (c_X6_byteAt l E a (t, c.2.1, c.2.2.1, b, nI T, c.2.2.2.2.2.1, c.2.2.2.2.2.2.1, c.2.2.2.2.2.2.2.1, c.2.2.2.2.2.2.2.2) (h.1, h.2.1, nI p, nI e, v, w9, h.2.2.2.2.2.2) b T e hT he2) rfl rfl rfl ⟨Nat.le_of_ble_eq_true rfl, Nat.le_of_ble_eq_true rfl⟩ rfl rfl (Nat.le_of_ble_eq_true rfl) ⟨Nat.le_of_ble_eq_true rfl, Nat.le_of_ble_eq_true rfl⟩ dX6_token_113 (fun r w1 hp => ?_)
                  obtain ⟨rfl, rfl⟩ := hp
                  refine g_SPi (rest := []) (As := [.int (btA b T e)]) cx hYX6_isDigit gX6_token_X6_isDigit (c_X6_isDigit l E (btA b T e) ) ⟨Nat.le_of_ble_eq_true rfl, Nat.le_of_ble_eq_true rfl⟩ rfl rfl (Nat.le_of_ble_eq_true rfl) ⟨Nat.le_of_ble_eq_true rfl, Nat.le_of_ble_eq_true rfl⟩ dX6_token_116 ?_
                  refine g_if_eq (tgt := 135) cx dX6_token_119 (by decide) (fun c_5 => ?_) (fun c_5 => ?_)
                  · exact g_vret cx gr (Nat.zero_le _) (Nat.zero_le _) dX6_token_135 (by rw [hpS]; have e9 : tkE b T p = e := (by rw [hs2, tkF, if_pos c_3, if_neg c_4, sk_stop c_5]); rw [e9] <;> rfl)
                  · refine g_aload_n cx dX6_token_122 0 rfl ?_
                    refine g_dup cx dX6_token_123 rfl ?_
                    refine g_get (C := RX6) (T := TX6) (N := 16) (v := .int (nI e)) cx iwX6_token_X6 0 9 rfl rfl (by decide) lkX6_token_186 rfl dX6_token_124 ?_
                    refine g_iconst (v := 1) cx dX6_token_127 (by decide) ?_
                    refine g_iadd cx dX6_token_128 ?_
                    refine g_put (C := RX6) (T := TX6) (N := 16) (ws' := (mW E a (t, c.2.1, c.2.2.1, b, nI T, c.2.2.2.2.2.1, c.2.2.2.2.2.2.1, c.2.2.2.2.2.2.2.1, c.2.2.2.2.2.2.2.2) (h.1, h.2.1, nI p, (nI e) + 1, v, w9, h.2.2.2.2.2.2))) cx iwX6_token_X6 tyX6 tyX6_ok nmX6 0 9 rfl rfl (by decide) lkX6_token_186 rfl rfl rfl (Nat.le_of_ble_eq_true rfl) dX6_token_129 rfl ?_
                    refine g_goto (tgt := 86) cx dX6_token_132 (by decide) ?_
                    exact g_lv [0, 1, 2] rfl (g_w (congrArg (fun F9 : Int32 => (mW E a (t, c.2.1, c.2.2.1, b, nI T, c.2.2.2.2.2.1, c.2.2.2.2.2.2.1, c.2.2.2.2.2.2.2.1, c.2.2.2.2.2.2.2.2) (h.1, h.2.1, nI p, F9, v, w9, h.2.2.2.2.2.2))) (nI_1 e)) (ih2 (e + 1) (by omega) (by have := (sk_go (by decide) c_5).1; omega) (by rw [hs2, tkF, tkF, if_pos c_3, if_neg c_4, if_pos c_3, if_neg c_4, (sk_go (by decide) c_5).2])))
              · refine g_aload_n cx dX6_token_90 0 rfl ?_
                refine g_aload_n cx dX6_token_91 0 rfl ?_
                refine g_get (C := RX6) (T := TX6) (N := 16) (v := .int (nI e)) cx iwX6_token_X6 0 9 rfl rfl (by decide) lkX6_token_186 rfl dX6_token_92 ?_
                refine g_VSi (rest := []) (As := [.int (nI e)]) cx hYX6_byteAt gX6_token_X6_byteAt (c_X6_byteAt l E a (t, c.2.1, c.2.2.1, b, nI T, c.2.2.2.2.2.1, c.2.2.2.2.2.2.1, c.2.2.2.2.2.2.2.1, c.2.2.2.2.2.2.2.2) (h.1, h.2.1, nI p, nI e, v, w9, h.2.2.2.2.2.2) b T e hT he2) rfl rfl rfl ⟨Nat.le_of_ble_eq_true rfl, Nat.le_of_ble_eq_true rfl⟩ rfl rfl (Nat.le_of_ble_eq_true rfl) ⟨Nat.le_of_ble_eq_true rfl, Nat.le_of_ble_eq_true rfl⟩ dX6_token_95 (fun r w1 hp => ?_)
                obtain ⟨rfl, rfl⟩ := hp
                refine g_SPi (rest := []) (As := [.int (btA b T e)]) cx hYX6_isLetter gX6_token_X6_isLetter (c_X6_isLetter l E (btA b T e) ) ⟨Nat.le_of_ble_eq_true rfl, Nat.le_of_ble_eq_true rfl⟩ rfl rfl (Nat.le_of_ble_eq_true rfl) ⟨Nat.le_of_ble_eq_true rfl, Nat.le_of_ble_eq_true rfl⟩ dX6_token_98 ?_
                refine g_if_ne (tgt := 122) cx dX6_token_101 (by decide) (fun c_6 => ?_) (fun c_6 => ?_)
                · refine g_aload_n cx dX6_token_122 0 rfl ?_
                  refine g_dup cx dX6_token_123 rfl ?_
                  refine g_get (C := RX6) (T := TX6) (N := 16) (v := .int (nI e)) cx iwX6_token_X6 0 9 rfl rfl (by decide) lkX6_token_186 rfl dX6_token_124 ?_
                  refine g_iconst (v := 1) cx dX6_token_127 (by decide) ?_
                  refine g_iadd cx dX6_token_128 ?_
                  refine g_put (C := RX6) (T := TX6) (N := 16) (ws' := (mW E a (t, c.2.1, c.2.2.1, b, nI T, c.2.2.2.2.2.1, c.2.2.2.2.2.2.1, c.2.2.2.2.2.2.2.1, c.2.2.2.2.2.2.2.2) (h.1, h.2.1, nI p, (nI e) + 1, v, w9, h.2.2.2.2.2.2))) cx iwX6_token_X6 tyX6 tyX6_ok nmX6 0 9 rfl rfl (by decide) lkX6_token_186 rfl rfl rfl (Nat.le_of_ble_eq_true rfl) dX6_token_129 rfl ?_
                  refine g_goto (tgt := 86) cx dX6_token_132 (by decide) ?_
                  exact g_lv [0, 1, 2] rfl (g_w (congrArg (fun F9 : Int32 => (mW E a (t, c.2.1, c.2.2.1, b, nI T, c.2.2.2.2.2.1, c.2.2.2.2.2.2.1, c.2.2.2.2.2.2.2.1, c.2.2.2.2.2.2.2.2) (h.1, h.2.1, nI p, F9, v, w9, h.2.2.2.2.2.2))) (nI_1 e)) (ih2 (e + 1) (by omega) (by have := (sk_go (by decide) c_6).1; omega) (by rw [hs2, tkF, tkF, if_neg c_3, if_neg c_3, (sk_go (by decide) c_6).2])))
                · refine g_iload_n cx dX6_token_104 2 rfl ?_
                  refine g_if_eq (tgt := 135) cx dX6_token_105 (by decide) (fun c_7 => ?_) (fun c_7 => absurd (LD c_3) c_7)
                  exact g_vret cx gr (Nat.zero_le _) (Nat.zero_le _) dX6_token_135 (by rw [hpS]; have e9 : tkE b T p = e := (by rw [hs2, tkF, if_neg c_3, sk_stop c_6]); rw [e9] <;> rfl)
          have hpT : T ≤ p := (nI_leI (by omega) (by omega)).mp c_2
          exact g_lv [2, 1, 0] rfl (LP86 (T + 1 - p) p (by omega) (by omega) (tk_out hpT))
        · refine g_aload_n cx dX6_token_70 2 rfl ?_
          refine g_get (C := RX6) (T := TX6) (N := 16) (v := .int (nI p)) cx iwX6_token_X6 0 8 rfl rfl (by decide) lkX6_token_189 rfl dX6_token_71 ?_
          refine g_iconst (v := 1) cx dX6_token_74 (by decide) ?_
          refine g_iadd cx dX6_token_75 ?_
          refine g_goto (tgt := 83) cx dX6_token_76 (by decide) ?_
          refine g_put (C := RX6) (T := TX6) (N := 16) (ws' := (mW E a (t, c.2.1, c.2.2.1, b, nI T, c.2.2.2.2.2.1, c.2.2.2.2.2.2.1, c.2.2.2.2.2.2.2.1, c.2.2.2.2.2.2.2.2) (h.1, h.2.1, nI p, (nI p) + 1, v, w9, h.2.2.2.2.2.2))) cx iwX6_token_X6 tyX6 tyX6_ok nmX6 0 9 rfl rfl (by decide) lkX6_token_186 rfl rfl rfl (Nat.le_of_ble_eq_true rfl) dX6_token_83 rfl ?_
          have LP86 : ∀ (d2 : Nat) (e : Nat), e + d2 = T + 1 → e ≤ T → tkE b T p = tkF b T (isW (btA b T p) 97 122) (isW (btA b T p) 48 57) e → gG X 0 0 (mW E a (t, c.2.1, c.2.2.1, b, nI T, c.2.2.2.2.2.1, c.2.2.2.2.2.2.1, c.2.2.2.2.2.2.2.1, c.2.2.2.2.2.2.2.2) (h.1, h.2.1, nI p, nI e, v, w9, h.2.2.2.2.2.2)) 86 [(0, .ref (a 0)), (1, .int (isW (btA b T p) 97 122)), (2, .int (isW (btA b T p) 48 57))] [] := by
            intro d2
            induction d2 with
            | zero =>
              intro e he1 he2 hs2
              omega
            | succ d2 ih2 =>
              intro e he1 he2 hs2
              refine g_iload_n cx dX6_token_86 1 rfl ?_
              refine g_if_eq (tgt := 104) cx dX6_token_87 (by decide) (fun c_8 => ?_) (fun c_8 => ?_)
              · refine g_iload_n cx dX6_token_104 2 rfl ?_
                refine g_if_eq (tgt := 135) cx dX6_token_105 (by decide) (fun c_9 => ?_) (fun c_9 => ?_)
                · exact g_vret cx gr (Nat.zero_le _) (Nat.zero_le _) dX6_token_135 (by rw [hpS]; have e9 : tkE b T p = e := (by rw [hs2, tkF, if_pos c_8, if_pos c_9]); rw [e9] <;> rfl)
                · refine g_aload_n cx dX6_token_108 0 rfl ?_
                  refine g_aload_n cx dX6_token_109 0 rfl ?_
                  refine g_get (C := RX6) (T := TX6) (N := 16) (v := .int (nI e)) cx iwX6_token_X6 0 9 rfl rfl (by decide) lkX6_token_186 rfl dX6_token_110 ?_
                  refine g_VSi (rest := []) (As := [.int (nI e)]) cx hYX6_byteAt gX6_token_X6_byteAt (c_X6_byteAt l E a (t, c.2.1, c.2.2.1, b, nI T, c.2.2.2.2.2.1, c.2.2.2.2.2.2.1, c.2.2.2.2.2.2.2.1, c.2.2.2.2.2.2.2.2) (h.1, h.2.1, nI p, nI e, v, w9, h.2.2.2.2.2.2) b T e hT he2) rfl rfl rfl ⟨Nat.le_of_ble_eq_true rfl, Nat.le_of_ble_eq_true rfl⟩ rfl rfl (Nat.le_of_ble_eq_true rfl) ⟨Nat.le_of_ble_eq_true rfl, Nat.le_of_ble_eq_true rfl⟩ dX6_token_113 (fun r w1 hp => ?_)
                  obtain ⟨rfl, rfl⟩ := hp
                  refine g_SPi (rest := []) (As := [.int (btA b T e)]) cx hYX6_isDigit gX6_token_X6_isDigit (c_X6_isDigit l E (btA b T e) ) ⟨Nat.le_of_ble_eq_true rfl, Nat.le_of_ble_eq_true rfl⟩ rfl rfl (Nat.le_of_ble_eq_true rfl) ⟨Nat.le_of_ble_eq_true rfl, Nat.le_of_ble_eq_true rfl⟩ dX6_token_116 ?_
                  refine g_if_eq (tgt := 135) cx dX6_token_119 (by decide) (fun c_10 => ?_) (fun c_10 => ?_)
                  · exact g_vret cx gr (Nat.zero_le _) (Nat.zero_le _) dX6_token_135 (by rw [hpS]; have e9 : tkE b T p = e := (by rw [hs2, tkF, if_pos c_8, if_neg c_9, sk_stop c_10]); rw [e9] <;> rfl)
                  · refine g_aload_n cx dX6_token_122 0 rfl ?_
                    refine g_dup cx dX6_token_123 rfl ?_
                    refine g_get (C := RX6) (T := TX6) (N := 16) (v := .int (nI e)) cx iwX6_token_X6 0 9 rfl rfl (by decide) lkX6_token_186 rfl dX6_token_124 ?_
                    refine g_iconst (v := 1) cx dX6_token_127 (by decide) ?_
                    refine g_iadd cx dX6_token_128 ?_
                    refine g_put (C := RX6) (T := TX6) (N := 16) (ws' := (mW E a (t, c.2.1, c.2.2.1, b, nI T, c.2.2.2.2.2.1, c.2.2.2.2.2.2.1, c.2.2.2.2.2.2.2.1, c.2.2.2.2.2.2.2.2) (h.1, h.2.1, nI p, (nI e) + 1, v, w9, h.2.2.2.2.2.2))) cx iwX6_token_X6 tyX6 tyX6_ok nmX6 0 9 rfl rfl (by decide) lkX6_token_186 rfl rfl rfl (Nat.le_of_ble_eq_true rfl) dX6_token_129 rfl ?_
                    refine g_goto (tgt := 86) cx dX6_token_132 (by decide) ?_
                    exact g_lv [0, 1, 2] rfl (g_w (congrArg (fun F9 : Int32 => (mW E a (t, c.2.1, c.2.2.1, b, nI T, c.2.2.2.2.2.1, c.2.2.2.2.2.2.1, c.2.2.2.2.2.2.2.1, c.2.2.2.2.2.2.2.2) (h.1, h.2.1, nI p, F9, v, w9, h.2.2.2.2.2.2))) (nI_1 e)) (ih2 (e + 1) (by omega) (by have := (sk_go (by decide) c_10).1; omega) (by rw [hs2, tkF, tkF, if_pos c_8, if_neg c_9, if_pos c_8, if_neg c_9, (sk_go (by decide) c_10).2])))
              · refine g_aload_n cx dX6_token_90 0 rfl ?_
                refine g_aload_n cx dX6_token_91 0 rfl ?_
                refine g_get (C := RX6) (T := TX6) (N := 16) (v := .int (nI e)) cx iwX6_token_X6 0 9 rfl rfl (by decide) lkX6_token_186 rfl dX6_token_92 ?_
                refine g_VSi (rest := []) (As := [.int (nI e)]) cx hYX6_byteAt gX6_token_X6_byteAt (c_X6_byteAt l E a (t, c.2.1, c.2.2.1, b, nI T, c.2.2.2.2.2.1, c.2.2.2.2.2.2.1, c.2.2.2.2.2.2.2.1, c.2.2.2.2.2.2.2.2) (h.1, h.2.1, nI p, nI e, v, w9, h.2.2.2.2.2.2) b T e hT he2) rfl rfl rfl ⟨Nat.le_of_ble_eq_true rfl, Nat.le_of_ble_eq_true rfl⟩ rfl rfl (Nat.le_of_ble_eq_true rfl) ⟨Nat.le_of_ble_eq_true rfl, Nat.le_of_ble_eq_true rfl⟩ dX6_token_95 (fun r w1 hp => ?_)
                obtain ⟨rfl, rfl⟩ := hp
                refine g_SPi (rest := []) (As := [.int (btA b T e)]) cx hYX6_isLetter gX6_token_X6_isLetter (c_X6_isLetter l E (btA b T e) ) ⟨Nat.le_of_ble_eq_true rfl, Nat.le_of_ble_eq_true rfl⟩ rfl rfl (Nat.le_of_ble_eq_true rfl) ⟨Nat.le_of_ble_eq_true rfl, Nat.le_of_ble_eq_true rfl⟩ dX6_token_98 ?_
                refine g_if_ne (tgt := 122) cx dX6_token_101 (by decide) (fun c_11 => ?_) (fun c_11 => ?_)
                · refine g_aload_n cx dX6_token_122 0 rfl ?_
                  refine g_dup cx dX6_token_123 rfl ?_
                  refine g_get (C := RX6) (T := TX6) (N := 16) (v := .int (nI e)) cx iwX6_token_X6 0 9 rfl rfl (by decide) lkX6_token_186 rfl dX6_token_124 ?_
                  refine g_iconst (v := 1) cx dX6_token_127 (by decide) ?_
                  refine g_iadd cx dX6_token_128 ?_
                  refine g_put (C := RX6) (T := TX6) (N := 16) (ws' := (mW E a (t, c.2.1, c.2.2.1, b, nI T, c.2.2.2.2.2.1, c.2.2.2.2.2.2.1, c.2.2.2.2.2.2.2.1, c.2.2.2.2.2.2.2.2) (h.1, h.2.1, nI p, (nI e) + 1, v, w9, h.2.2.2.2.2.2))) cx iwX6_token_X6 tyX6 tyX6_ok nmX6 0 9 rfl rfl (by decide) lkX6_token_186 rfl rfl rfl (Nat.le_of_ble_eq_true rfl) dX6_token_129 rfl ?_
                  refine g_goto (tgt := 86) cx dX6_token_132 (by decide) ?_
                  exact g_lv [0, 1, 2] rfl (g_w (congrArg (fun F9 : Int32 => (mW E a (t, c.2.1, c.2.2.1, b, nI T, c.2.2.2.2.2.1, c.2.2.2.2.2.2.1, c.2.2.2.2.2.2.2.1, c.2.2.2.2.2.2.2.2) (h.1, h.2.1, nI p, F9, v, w9, h.2.2.2.2.2.2))) (nI_1 e)) (ih2 (e + 1) (by omega) (by have := (sk_go (by decide) c_11).1; omega) (by rw [hs2, tkF, tkF, if_neg c_8, if_neg c_8, (sk_go (by decide) c_11).2])))
                · refine g_iload_n cx dX6_token_104 2 rfl ?_
                  refine g_if_eq (tgt := 135) cx dX6_token_105 (by decide) (fun c_12 => ?_) (fun c_12 => absurd (LD c_8) c_12)
                  exact g_vret cx gr (Nat.zero_le _) (Nat.zero_le _) dX6_token_135 (by rw [hpS]; have e9 : tkE b T p = e := (by rw [hs2, tkF, if_neg c_8, sk_stop c_11]); rw [e9] <;> rfl)
          have hpT : ¬ T ≤ p := fun q => c_2 ((nI_leI (by omega) (by omega)).mpr q)
          refine g_w (congrArg (fun F9 : Int32 => (mW E a (t, c.2.1, c.2.2.1, b, nI T, c.2.2.2.2.2.1, c.2.2.2.2.2.2.1, c.2.2.2.2.2.2.2.1, c.2.2.2.2.2.2.2.2) (h.1, h.2.1, nI p, F9, v, w9, h.2.2.2.2.2.2))) (nI_1 p)) ?_
          exact g_lv [2, 1, 0] rfl (LP86 (T - p) (p + 1) (by omega) (by omega) (tk_in hpT))
      · have hq32 : btA b T p = 32 := c_1
        refine g_aload_n cx dX6_token_21 0 rfl ?_
        refine g_dup cx dX6_token_22 rfl ?_
        refine g_get (C := RX6) (T := TX6) (N := 16) (v := .int (nI p)) cx iwX6_token_X6 0 8 rfl rfl (by decide) lkX6_token_189 rfl dX6_token_23 ?_
        refine g_iconst (v := 1) cx dX6_token_26 (by decide) ?_
        refine g_iadd cx dX6_token_27 ?_
        refine g_put (C := RX6) (T := TX6) (N := 16) (ws' := (mW E a (t, c.2.1, c.2.2.1, b, nI T, c.2.2.2.2.2.1, c.2.2.2.2.2.2.1, c.2.2.2.2.2.2.2.1, c.2.2.2.2.2.2.2.2) (h.1, h.2.1, (nI p) + 1, nI q0, v, w9, h.2.2.2.2.2.2))) cx iwX6_token_X6 tyX6 tyX6_ok nmX6 0 8 rfl rfl (by decide) lkX6_token_189 rfl rfl rfl (Nat.le_of_ble_eq_true rfl) dX6_token_28 rfl ?_
        refine g_goto (tgt := 8) cx dX6_token_31 (by decide) ?_
        exact g_lv [0] rfl (g_w (congrArg (fun F9 : Int32 => (mW E a (t, c.2.1, c.2.2.1, b, nI T, c.2.2.2.2.2.1, c.2.2.2.2.2.2.1, c.2.2.2.2.2.2.2.1, c.2.2.2.2.2.2.2.2) (h.1, h.2.1, F9, nI q0, v, w9, h.2.2.2.2.2.2))) (nI_1 p)) (ih (p + 1) (by omega) (by have := (sp_go hq32).1; omega) (by rw [hs, (sp_go hq32).2])))
  exact g_lv [0] rfl (LP8 (T + 1 - q0) q0 (by omega) (by omega) rfl)
