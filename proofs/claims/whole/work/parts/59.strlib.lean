section GS
variable {l : Launch} {X : gX} {rm : Room} {nL : Nat} {cc : ByteArray} {own : String} {Ts : List Cond} {E : gE} {k n pc : Nat} {ws : va_W} {lv : List (Nat × Value)} {st rest : List Value}
theorem g_ldcS {i index : Nat} (cx : gC l X rm nL cc own Ts E) (ho : own = RX4) (hi : i < 12) (hk : gKx.getD i 0 = index) (hd : decode cc pc = .ok (.ldc index, 2)) (kk : gG X k n ws (pc + 2) lv (.ref (E.2.2.1 i) :: rest)) : gG X k n ws pc lv rest := by
  obtain ⟨p, l', e, R, s, m, args, below, meth, c, E', A, nL', Q⟩ := X
  obtain ⟨rfl, rfl, rfl, rfl, hx, hb, hml, hown, hts, hEV, hA⟩ := cx
  intro H locs ls hP hD hS hl
  have q := hEV.2.2.1 i hi
  rw [hk] at q
  subst ho
  exact va_ldcS hx hb hown q hd (kk H locs ls hP hD hS hl)
theorem g_getT {i index : Nat} (cx : gC l X rm nL cc own Ts E) (hi : i < 12) (hlink : Cond.fieldLink own index "java/lang/String" "value" "[B" ∈ Ts) (hd : decode cc pc = .ok (.getfield index, 3)) (kk : gG X k n ws (pc + 3) lv (.ref (E.2.2.2 i) :: rest)) : gG X k n ws pc lv (.ref (E.2.2.1 i) :: rest) := by
  obtain ⟨p, l', e, R, s, m, args, below, meth, c, E', A, nL', Q⟩ := X
  obtain ⟨rfl, rfl, rfl, rfl, hx, hb, hml, hown, hts, hEV, hA⟩ := cx
  intro H locs ls hP hD hS hl
  exact vk_getf hx hb (hEV.2.2.2.1.1 i hi).2.2.1 hS hown (hts _ hlink) (fun _ h => h) hd (kk H locs ls hP hD hS hl)
theorem g_getCd {i index : Nat} (cx : gC l X rm nL cc own Ts E) (hi : i < 12) (hlink : Cond.fieldLink own index "java/lang/String" "coder" "B" ∈ Ts) (hd : decode cc pc = .ok (.getfield index, 3)) (kk : gG X k n ws (pc + 3) lv (.int 0 :: rest)) : gG X k n ws pc lv (.ref (E.2.2.1 i) :: rest) := by
  obtain ⟨p, l', e, R, s, m, args, below, meth, c, E', A, nL', Q⟩ := X
  obtain ⟨rfl, rfl, rfl, rfl, hx, hb, hml, hown, hts, hEV, hA⟩ := cx
  intro H locs ls hP hD hS hl
  exact vk_getf hx hb (hEV.2.2.2.1.1 i hi).2.1 hS hown (hts _ hlink) (fun _ h => h) hd (kk H locs ls hP hD hS hl)
theorem g_getK {index : Nat} (cx : gC l X rm nL cc own Ts E) (hlink : Cond.fieldLink own index "java/lang/String" "COMPACT_STRINGS" "Z" ∈ Ts) (hd : decode cc pc = .ok (.getstatic index, 3)) (kk : gG X k n ws (pc + 3) lv (.int 1 :: rest)) : gG X k n ws pc lv rest := by
  obtain ⟨p, l', e, R, s, m, args, below, meth, c, E', A, nL', Q⟩ := X
  obtain ⟨rfl, rfl, rfl, rfl, hx, hb, hml, hown, hts, hEV, hA⟩ := cx
  intro H locs ls hP hD hS hl
  exact va_gets hx hb hEV.2.2.2.2.1 hS hown (hts _ hlink) (fun _ h => h) hd (kk H locs ls hP hD hS hl)
theorem g_getQ {index : Nat} (cx : gC l X rm nL cc own Ts E) (hlink : Cond.fieldLink own index "jdk/internal/util/Preconditions" "SIOOBE_FORMATTER" "Ljava/util/function/BiFunction;" ∈ Ts) (hd : decode cc pc = .ok (.getstatic index, 3)) (kk : ∀ v : Value, (v = .null ∨ ∃ t, v = .ref t) → gG X k n ws (pc + 3) lv (v :: rest)) : gG X k n ws pc lv rest := by
  obtain ⟨p, l', e, R, s, m, args, below, meth, c, E', A, nL', Q⟩ := X
  obtain ⟨rfl, rfl, rfl, rfl, hx, hb, hml, hown, hts, hEV, hA⟩ := cx
  intro H locs ls hP hD hS hl
  rcases hEV.2.2.2.2.2.1 with h | ⟨t, h⟩
  · exact va_gets hx hb h hS hown (hts _ hlink) (fun _ h => h) hd (kk _ (Or.inl rfl) H locs ls hP hD hS hl)
  · exact va_gets hx hb h hS hown (hts _ hlink) (fun _ h => h) hd (kk _ (Or.inr ⟨t, rfl⟩) H locs ls hP hD hS hl)
theorem g_tlT {i : Nat} (cx : gC l X rm nL cc own Ts E) (hi : i < 12) (hd : decode cc pc = .ok (.arraylength, 1)) (kk : gG X k n ws (pc + 1) lv (.int (nI (gLen.getD i 0)) :: rest)) : gG X k n ws pc lv (.ref (E.2.2.2 i) :: rest) := by
  obtain ⟨p, l', e, R, s, m, args, below, meth, c, E', A, nL', Q⟩ := X
  obtain ⟨rfl, rfl, rfl, rfl, hx, hb, hml, hown, hts, hEV, hA⟩ := cx
  intro H locs ls hP hD hS hl
  exact va_tlen hx hb (hEV.2.2.2.1.1 i hi).2.2.2 hS rfl hd (kk H locs ls hP hD hS hl)
theorem g_tbT {i : Nat} {x : Int32} (cx : gC l X rm nL cc own Ts E) (hi : i < 12) (hin : vp_in x (gLen.getD i 0)) (hd : decode cc pc = .ok (.baload, 1)) (kk : gG X k n ws (pc + 1) lv (.int ((gByt.getD i []).getD x.toNatClampNeg 0) :: rest)) : gG X k n ws pc lv (.int x :: .ref (E.2.2.2 i) :: rest) := by
  obtain ⟨p, l', e, R, s, m, args, below, meth, c, E', A, nL', Q⟩ := X
  obtain ⟨rfl, rfl, rfl, rfl, hx, hb, hml, hown, hts, hEV, hA⟩ := cx
  intro H locs ls hP hD hS hl
  exact va_tb hx hb (hEV.2.2.2.1.1 i hi).2.2.2 hS hin rfl hd (kk H locs ls hP hD hS hl)
theorem g_VT {y : MethodName} {wsy : List Cond} {rmy : Room} {bytes : ByteArray} {maxL np index : Nat} {ret : Option FieldType} {As : List Value} {v : Int32} {i : Nat} (cx : gC l X rm nL cc own Ts E) (hi : i < 12) (hY : gY y wsy bytes maxL ret np) (hg : GoodIn Ts (wsV own index "java/lang/String" y wsy)) (hM : ctp l y wsy rmy E (.ref (E.2.2.1 i) :: As) v) (hyc : y.cls = "java/lang/String") (hR : rmy.frames + 1 ≤ rm.frames ∧ 8 + (maxL + 11) + rmy.locals ≤ rm.locals) (hst : st = As.reverse ++ .ref (E.2.2.1 i) :: rest) (hlen : As.length = np) (hroom : (rest.map fun v => v.category).sum ≤ 8) (hf : k + rmy.cells ≤ rm.cells ∧ n + rmy.slots ≤ rm.slots) (hd : decode cc pc = .ok (.invokevirtual index, 3)) (kk : gG X (k + rmy.cells) (n + rmy.slots) ws (pc + 3) lv (.int v :: rest)) : gG X k n ws pc lv st := by
  obtain ⟨p, l', e, R, s, m, args, below, meth, c, E', A, nL', Q⟩ := X
  obtain ⟨rfl, rfl, rfl, rfl, hx, hb, hml, hown, hts, hEV, hA⟩ := cx
  intro H locs ls hP hD hS hl
  obtain ⟨⟨ws', hw⟩, hd1, hd2, hd3⟩ := hY
  have hPc := hP.sub (ws' := []) [] rfl
  have hDc := hD.sub (ws' := []) [] rfl rfl
  have hFc := va_free (wc := []) hD hS hA [] rfl
  refine va_calli (va_runV (As := As) (rest := rest) ⟨hx, hb, hml, hown, hts⟩ (hM H.size) (cwV np hts hg hw rfl rfl ⟨hyc, hd1, hd2, hd3⟩ hR) ⟨gPc_blind, vk_recv hEV.2.2.2.1 hi hS, fun U hU hW => ⟨rfl, by rw [hU], by rw [hU]; exact hPc, by rw [hU]; exact gEV_call hEV hS hW hFc, hDc.weaken (fun _ _ _ _ => trivial)⟩⟩ rfl hlen hl.1 hst (lv_room hroom) hd hf) hS (fun q _ h => hFc q h) hFc (fun r u t H1 locs1 ht hvm hw1 hB hz1 hk1 hS1 => ?_)
  obtain ⟨hP1, hD1⟩ := hB
  rw [ht] at hP1
  obtain ⟨rfl, rfl⟩ := hw1
  obtain ⟨hP2, hD2⟩ := va_join (wr := ws) (w1 := []) hP hD [] (List.range ws.length) rfl (rg_some ws) (rg_nd _) (fun _ _ h => absurd h List.not_mem_nil) hk1 hFc hP1 hD1
  rw [List.append_nil] at hP2 hD2
  exact kk H1 locs1 ls hP2 hD2 hS1 hl
theorem g_SPv {y : MethodName} {wsy : List Cond} {rmy : Room} {bytes : ByteArray} {maxL np index : Nat} {ret : Option FieldType} {As : List Value} (cx : gC l X rm nL cc own Ts E) (hY : gY y wsy bytes maxL ret np) (hg : GoodIn Ts (va_wsS own index y wsy)) (hM : ctv l y wsy rmy E As [] (fun w => w = [])) (hR : rmy.frames + 1 ≤ rm.frames ∧ 8 + (maxL + 11) + rmy.locals ≤ rm.locals) (hst : st = As.reverse ++ rest) (hlen : As.length = np) (hroom : (rest.map fun v => v.category).sum ≤ 8) (hf : k + rmy.cells ≤ rm.cells ∧ n + rmy.slots ≤ rm.slots) (hd : decode cc pc = .ok (.invokestatic index, 3)) (kk : gG X (k + rmy.cells) (n + rmy.slots) ws (pc + 3) lv rest) : gG X k n ws pc lv st := by
  refine g_Sv (wc := []) (wr := ws) cx hY hg hM [] (List.range ws.length) rfl (rg_some ws) rfl (rg_nd _) (fun _ _ h => absurd h List.not_mem_nil) hR hst hlen hroom hf hd (fun w1 hp => ?_)
  obtain rfl := hp
  rw [List.append_nil]
  exact kk
/-- a static method that answers a literal and touches no cell -/
def ctn (l : Launch) (y : MethodName) (wsy : List Cond) (rm : Room) (E : gE) (av : List Value) (v : Nat) : Prop := ∀ sz, Met l y wsy rm (gPc E av [] sz) (va_Qr (fun w : va_W => w = []) (fun w ra t => ra = E.2.2.1 v ∧ gBt E [] sz w t) (va_A [] sz)) rm.cells rm.slots (va_A [] sz)
def gRn (X : gX) (ret : Option FieldType) (rm : Room) (E : gE) (v : Nat) : Prop := match X with
  | (_, _, _, _, s, _, args, below, meth, _, _, A, _, Q) => A = va_A [] s.heap.size ∧ Q = MQ below (va_Qr (fun w : va_W => w = []) (fun w ra t => ra = E.2.2.1 v ∧ gBt E [] s.heap.size w t) (va_A [] s.heap.size)) args s rm.cells rm.slots (va_A [] s.heap.size) ∧ meth.sig.returnType = ret ∧ meth.locks = false
theorem mt_n {l : Launch} {y : MethodName} {wsy ws' : List Cond} {rm : Room} {E : gE} {av : List Value} {v : Nat} {cc : ByteArray} {maxL : Nat} {ret : Option FieldType} {lv0 : List (Nat × Value)} (hy : plainName y.cls = true) (hw : wsy = Cond.code y cc maxL ret :: ws') (hlv : lv_args 0 av = lv0) (hsl : (lg_sl av).length ≤ maxL)
    (body : ∀ X : gX, gC l X rm maxL cc y.cls wsy E → gRn X ret rm E v → gG X 0 0 [] 0 lv0 []) : ctn l y wsy rm E av v := by
  intro sz
  refine Met.ofW (cc := cc) (maxL := maxL) (ret := ret) hy hw ?_
  intro p e s m args below meth c s₁ B hml hv
  obtain ⟨rfl, hsz, hP, hEV, hD0⟩ := hv
  have hts := atoms_spec (ws := wsy) B.pre
  have hown : s.vm.findClass y.cls = some m.cls := findClass_of_methodNamed B.named
  subst hsz
  have hD := hD0.self (sz := s.heap.size)
  have hl := lv_entry av (n := maxL) hsl
  rw [lg_entry_eq]
  rw [hlv] at hl
  exact body (p, l, e, rm, s, m, av.toArray, below, meth, c, E, va_A [] s.heap.size, maxL, MQ below (va_Qr (fun w : va_W => w = []) (fun w ra t => ra = E.2.2.1 v ∧ gBt E [] s.heap.size w t) (va_A [] s.heap.size)) av.toArray s rm.cells rm.slots (va_A [] s.heap.size)) ⟨rfl, rfl, rfl, rfl, B.exec, B.bytes, hml, hown, hts, hEV, fun q h => Or.inr h⟩ ⟨rfl, rfl, B.returns, B.notSynchronized⟩ s.heap [] _ hP hD va_S.rf hl
theorem g_aretN {v : Nat} {C : String} (cx : gC l X rm nL cc own Ts E) (gr : gRn X (some (.object C)) rm E v) (hk : k ≤ rm.cells) (hn : n ≤ rm.slots) (hd : decode cc pc = .ok (.areturn, 1)) : gG X k n [] pc lv [.ref (E.2.2.1 v)] := by
  obtain ⟨p, l', e, R, s, m, args, below, meth, c, E', A, nL', Q⟩ := X
  obtain ⟨rfl, rfl, rfl, rfl, hx, hb, hml, hown, hts, hEV, hA⟩ := cx
  obtain ⟨rfl, rfl, hr, hlocks⟩ := gr
  intro H locs ls hP hD hS hl
  refine W.widen hk hn ?_
  exact W.aret (v := .ref (E'.2.2.1 v)) hx hb hr (Or.inl ⟨C, rfl⟩) (Or.inr ⟨_, rfl⟩) (fun t ht hW => ⟨⟨[], E'.2.2.1 v, rfl, rfl, rfl, by rw [ht]; exact hP, hD⟩, hS.F ht⟩) hS.2.2 hd hlocks
theorem g_SN {y : MethodName} {wsy : List Cond} {rmy : Room} {bytes : ByteArray} {maxL np index : Nat} {ret : Option FieldType} {As : List Value} {v : Nat} (cx : gC l X rm nL cc own Ts E) (hY : gY y wsy bytes maxL ret np) (hg : GoodIn Ts (va_wsS own index y wsy)) (hM : ctn l y wsy rmy E As v) (hR : rmy.frames + 1 ≤ rm.frames ∧ 8 + (maxL + 11) + rmy.locals ≤ rm.locals) (hst : st = As.reverse ++ rest) (hlen : As.length = np) (hroom : (rest.map fun v => v.category).sum ≤ 8) (hf : k + rmy.cells ≤ rm.cells ∧ n + rmy.slots ≤ rm.slots) (hd : decode cc pc = .ok (.invokestatic index, 3)) (kk : gG X (k + rmy.cells) (n + rmy.slots) ws (pc + 3) lv (.ref (E.2.2.1 v) :: rest)) : gG X k n ws pc lv st := by
  obtain ⟨p, l', e, R, s, m, args, below, meth, c, E', A, nL', Q⟩ := X
  obtain ⟨rfl, rfl, rfl, rfl, hx, hb, hml, hown, hts, hEV, hA⟩ := cx
  intro H locs ls hP hD hS hl
  obtain ⟨⟨ws', hw⟩, hd1, hd2, hd3⟩ := hY
  have hPc := hP.sub (ws' := []) [] rfl
  have hDc := hD.sub (ws' := []) [] rfl rfl
  have hFc := va_free (wc := []) hD hS hA [] rfl
  refine va_callr (va_runS (As := As) (rest := rest) ⟨hx, hb, hml, hown, hts⟩ (hM H.size) (va_cwS np hts hg hw rfl rfl ⟨hd1, hd2, hd3⟩ hR) ⟨gPc_blind, fun U hU hW => ⟨rfl, by rw [hU], by rw [hU]; exact hPc, by rw [hU]; exact gEV_call hEV hS hW hFc, hDc.weaken (fun _ _ _ _ => trivial)⟩⟩ rfl hlen hl.1 hst (lv_room hroom) hd hf) hS (fun q _ h => hFc q h) hFc (fun u ra t H1 locs1 ht hvm hw1 hB hz1 hk1 hS1 => ?_)
  obtain ⟨rfl, hP1, hD1⟩ := hB
  rw [ht] at hP1
  obtain rfl := hw1
  obtain ⟨hP2, hD2⟩ := va_join (wr := ws) (w1 := []) hP hD [] (List.range ws.length) rfl (rg_some ws) (rg_nd _) (fun _ _ h => absurd h List.not_mem_nil) hk1 hFc hP1 hD1
  rw [List.append_nil] at hP2 hD2
  exact kk H1 locs1 ls hP2 hD2 hS1 hl
end GS
