/-! THE CLAIM OUT OF ONE WALK OF THE LAW'S BODY. Your part is whole_start (and what it stands on); all else here is the same for every law, but numbers. -/
def R_law : String := "MuffinBellsLaw"
def lw_P (b : Addr) (xs : List Int32) (args : Array Value) (s : State) : Prop := args = #[.ref b] ∧ s.IntsAt b xs ∧ xs.length ≤ 3072 ∧ (Jvm.Cond.and given_1 narrow_1).before args s = true
def lw_Q (_ : Array Value) (s : State) (o : Outcome) (t : State) : Prop := o = .returned (some (.int 1)) ∧ Framed s o t [] 600000 7302250
def lw_Z (below : List Frame) (a : Array Value) (s : State) : State → Prop := fun t => ∃ o, t.status = .running ∧ Ended t below o ∧ lw_Q a s o t
/-- the law's own end, with 1 on the stack, nothing written that was there before, its room as the claim has it -/
theorem lw_ret {p : Program} {l : Launch} {e : Env} {s : State} {m : MethodId} {below : List Frame} {meth : Method} {c : Code} {b : Nat} (hx : p.tables.exec = Jvm.exec) (hb : c.code = code) (hr : meth.sig.returnType = ret) (hlocks : meth.locks = false) {pc : Nat} {H : Heap} {ls : Array Slot} (hdg : decode code pc = .ok (.ireturn, 1)) : W p l e room_1 s m #[Value.ref b] below meth c H [] 600000 7302250 (lw_Z below #[Value.ref b] s) (F0 m pc ls [.int 1]) := by
  intro T hT X
  obtain ⟨fs, hret, hrun, hended, hW, hframe⟩ := X.leave (v := some (.int 1)) (hlocks := hlocks) (fun h => by rw [hr] at h; cases h)
  have hmeth' : T.vm.method? m = some meth := X.method'
  refine ⟨T.setFrames fs, ?_, .returned (some (.int 1)), hrun, hended, rfl, ⟨_, rfl⟩, hW, hframe⟩
  jvm_step X.here [X.here.top, hx, hb, hdg, hmeth', hr, ret, narrow_b1]
  (try refine ⟨rfl, ?_⟩); (try refine ⟨rfl, ?_⟩)
  first | (intro acts; rw [hret _ acts rfl rfl rfl]) | rw [hret _ _ rfl rfl rfl]
  exact Steps.refl _
/-- what holds at the law's entry: the machine, the code, the tables' words (any of lw_tbl by 'hts w (by decide +kernel)'), the script of L ints xs at the cell b, what the Statement gives of the start (any of its parts by flat_of_before) -/
def lw_At (p : Program) (s : State) (m : MethodId) (meth : Method) (c : Code) (b L : Nat) (xs : Nat → Int32) : Prop :=
  p.tables.exec = Jvm.exec ∧ c.code = code ∧ meth.sig.returnType = ret ∧ c.maxLocals = 4 ∧ s.vm.findClass R_law = some m.cls ∧ (∀ w ∈ lw_tbl, w.before #[Value.ref b] s = true) ∧ va_X b L xs s s.heap ∧ b < s.heap.size ∧ meth.locks = false ∧ (Jvm.Cond.and given_1 narrow_1).before #[Value.ref b] s = true

section LL
variable {l : Launch} {X : gX} {rm : Room} {nL : Nat} {cc : ByteArray} {own : String} {Ts : List Cond} {E : gE} {k n pc : Nat} {lv : List (Nat × Value)} {st rest : List Value} {ws : va_W} {a b : Nat → Nat} {c d : Cor} {g : Gar} {h : Mar} {b0 L : Nat} {xs : Nat → Int32}

set_option maxRecDepth 100000 in
set_option maxHeartbeats 4000000 in
theorem g_LXi {y : MethodName} {wsy : List Cond} {rmy : Room} {bytes : ByteArray} {maxL np index : Nat} {ret : Option FieldType} {As : List Value} {v : Int32} {c' : Cor} (cx : gC l X rm nL cc own Ts E) (hY : gY y wsy bytes maxL ret np) (hg : GoodIn Ts (wsV own index RX5 y wsy)) (hM : cti l y wsy rmy E (.ref (a 0) :: As) (xW E a c g) (fun r w => ∃ g', r = v ∧ w = xW E a c' g')) (hyc : y.cls = RX5) (hR : rmy.frames + 1 ≤ rm.frames ∧ 8 + (maxL + 11) + rmy.locals ≤ rm.locals) (hst : st = As.reverse ++ .ref (a 0) :: rest) (hlen : As.length = np) (hroom : (rest.map fun v => v.category).sum ≤ 8) (hz : rmy.cells = 0) (hz2 : rmy.slots = 0) (hc : k ≤ rm.cells) (hs : n ≤ rm.slots) (hd : decode cc pc = .ok (.invokevirtual index, 3)) (kk : ∀ g' : Gar, gG X k n (mW E b d h ++ xW E a c' g') (pc + 3) lv (.int v :: rest)) : gG X k n (xW E a c g ++ mW E b d h) pc lv st := by
  refine g_Vi (wr := mW E b d h) (ci := 4) (T := TX5) (N := 8) cx hY hg hM hyc rfl rfl [0, 1, 2, 3, 4, 5, 6, 7, 8, 9, 10, 11, 12, 13, 14, 15, 16, 17, 18, 19, 20, 21, 22, 23, 24, 25, 26, 27, 28] [29, 30, 31, 32, 33, 34, 35, 36, 37, 38, 39] rfl rfl rfl rfl (by decide) hR hst hlen hroom ⟨by rw [hz]; exact hc, by rw [hz2]; exact hs⟩ hd (fun r w1 hp => ?_)
  obtain ⟨g', rfl, rfl⟩ := hp
  rw [hz, hz2]
  exact kk g'

set_option maxRecDepth 100000 in
set_option maxHeartbeats 4000000 in
theorem g_LXl {y : MethodName} {wsy : List Cond} {rmy : Room} {bytes : ByteArray} {maxL np index : Nat} {ret : Option FieldType} {As : List Value} {v : Int64} {c' : Cor} (cx : gC l X rm nL cc own Ts E) (hY : gY y wsy bytes maxL ret np) (hg : GoodIn Ts (wsV own index RX5 y wsy)) (hM : ctl l y wsy rmy E (.ref (a 0) :: As) (xW E a c g) (fun r w => ∃ g', r = v ∧ w = xW E a c' g')) (hyc : y.cls = RX5) (hR : rmy.frames + 1 ≤ rm.frames ∧ 8 + (maxL + 11) + rmy.locals ≤ rm.locals) (hst : st = As.reverse ++ .ref (a 0) :: rest) (hlen : As.length = np) (hroom : (rest.map fun v => v.category).sum ≤ 8) (hz : rmy.cells = 0) (hz2 : rmy.slots = 0) (hc : k ≤ rm.cells) (hs : n ≤ rm.slots) (hd : decode cc pc = .ok (.invokevirtual index, 3)) (kk : ∀ g' : Gar, gG X k n (mW E b d h ++ xW E a c' g') (pc + 3) lv (.long v :: rest)) : gG X k n (xW E a c g ++ mW E b d h) pc lv st := by
  refine g_Vl (wr := mW E b d h) (ci := 4) (T := TX5) (N := 8) cx hY hg hM hyc rfl rfl [0, 1, 2, 3, 4, 5, 6, 7, 8, 9, 10, 11, 12, 13, 14, 15, 16, 17, 18, 19, 20, 21, 22, 23, 24, 25, 26, 27, 28] [29, 30, 31, 32, 33, 34, 35, 36, 37, 38, 39] rfl rfl rfl rfl (by decide) hR hst hlen hroom ⟨by rw [hz]; exact hc, by rw [hz2]; exact hs⟩ hd (fun r w1 hp => ?_)
  obtain ⟨g', rfl, rfl⟩ := hp
  rw [hz, hz2]
  exact kk g'

set_option maxRecDepth 100000 in
set_option maxHeartbeats 4000000 in
theorem g_LMi {y : MethodName} {wsy : List Cond} {rmy : Room} {bytes : ByteArray} {maxL np index : Nat} {ret : Option FieldType} {As : List Value} {v : Int32} {d' : Cor} (cx : gC l X rm nL cc own Ts E) (hY : gY y wsy bytes maxL ret np) (hg : GoodIn Ts (wsV own index RX6 y wsy)) (hM : cti l y wsy rmy E (.ref (b 0) :: As) (mW E b d h) (fun r w => ∃ g', r = v ∧ w = mW E b d' g')) (hyc : y.cls = RX6) (hR : rmy.frames + 1 ≤ rm.frames ∧ 8 + (maxL + 11) + rmy.locals ≤ rm.locals) (hst : st = As.reverse ++ .ref (b 0) :: rest) (hlen : As.length = np) (hroom : (rest.map fun v => v.category).sum ≤ 8) (hz : rmy.cells = 0) (hz2 : rmy.slots = 0) (hc : k ≤ rm.cells) (hs : n ≤ rm.slots) (hd : decode cc pc = .ok (.invokevirtual index, 3)) (kk : ∀ g' : Mar, gG X k n (xW E a c g ++ mW E b d' g') (pc + 3) lv (.int v :: rest)) : gG X k n (mW E b d h ++ xW E a c g) pc lv st := by
  refine g_Vi (wr := xW E a c g) (ci := 5) (T := TX6) (N := 16) cx hY hg hM hyc rfl rfl [0, 1, 2, 3, 4, 5, 6, 7, 8, 9, 10] [11, 12, 13, 14, 15, 16, 17, 18, 19, 20, 21, 22, 23, 24, 25, 26, 27, 28, 29, 30, 31, 32, 33, 34, 35, 36, 37, 38, 39] rfl rfl rfl rfl (by decide) hR hst hlen hroom ⟨by rw [hz]; exact hc, by rw [hz2]; exact hs⟩ hd (fun r w1 hp => ?_)
  obtain ⟨g', rfl, rfl⟩ := hp
  rw [hz, hz2]
  exact kk g'

set_option maxRecDepth 100000 in
set_option maxHeartbeats 4000000 in
theorem g_LMl {y : MethodName} {wsy : List Cond} {rmy : Room} {bytes : ByteArray} {maxL np index : Nat} {ret : Option FieldType} {As : List Value} {v : Int64} {d' : Cor} (cx : gC l X rm nL cc own Ts E) (hY : gY y wsy bytes maxL ret np) (hg : GoodIn Ts (wsV own index RX6 y wsy)) (hM : ctl l y wsy rmy E (.ref (b 0) :: As) (mW E b d h) (fun r w => ∃ g', r = v ∧ w = mW E b d' g')) (hyc : y.cls = RX6) (hR : rmy.frames + 1 ≤ rm.frames ∧ 8 + (maxL + 11) + rmy.locals ≤ rm.locals) (hst : st = As.reverse ++ .ref (b 0) :: rest) (hlen : As.length = np) (hroom : (rest.map fun v => v.category).sum ≤ 8) (hz : rmy.cells = 0) (hz2 : rmy.slots = 0) (hc : k ≤ rm.cells) (hs : n ≤ rm.slots) (hd : decode cc pc = .ok (.invokevirtual index, 3)) (kk : ∀ g' : Mar, gG X k n (xW E a c g ++ mW E b d' g') (pc + 3) lv (.long v :: rest)) : gG X k n (mW E b d h ++ xW E a c g) pc lv st := by
  refine g_Vl (wr := xW E a c g) (ci := 5) (T := TX6) (N := 16) cx hY hg hM hyc rfl rfl [0, 1, 2, 3, 4, 5, 6, 7, 8, 9, 10] [11, 12, 13, 14, 15, 16, 17, 18, 19, 20, 21, 22, 23, 24, 25, 26, 27, 28, 29, 30, 31, 32, 33, 34, 35, 36, 37, 38, 39] rfl rfl rfl rfl (by decide) hR hst hlen hroom ⟨by rw [hz]; exact hc, by rw [hz2]; exact hs⟩ hd (fun r w1 hp => ?_)
  obtain ⟨g', rfl, rfl⟩ := hp
  rw [hz, hz2]
  exact kk g'

/-- the script lies where it lay -/
def gS (X : gX) (b0 L : Nat) (xs : Nat → Int32) : Prop := match X with
  | (_, _, _, _, s, _, _, _, _, _, _, A, _, _) => va_X b0 L xs s s.heap ∧ b0 < s.heap.size ∧ ¬ A b0
theorem g_sld {i : Int32} (cx : gC l X rm nL cc own Ts E) (hX : gS X b0 L xs) (hin : vp_in i L) (hd : decode cc pc = .ok (.iaload, 1)) (kk : gG X k n ws (pc + 1) lv (.int (xs i.toNatClampNeg) :: rest)) : gG X k n ws pc lv (.int i :: .ref b0 :: rest) := by
  obtain ⟨p, l', e, R, s, m, args, below, meth, c, E', A, nL', Q⟩ := X
  obtain ⟨rfl, rfl, rfl, rfl, hx, hb, hml, hown, hts, hEV, hA⟩ := cx
  obtain ⟨h1, h2, h3⟩ := hX
  intro H locs ls hP hD hS hl
  exact va_sld hx hb h1 h2 h3 hS hin hd (kk H locs ls hP hD hS hl)
theorem g_slen (cx : gC l X rm nL cc own Ts E) (hX : gS X b0 L xs) (hd : decode cc pc = .ok (.arraylength, 1)) (kk : gG X k n ws (pc + 1) lv (.int (nI L) :: rest)) : gG X k n ws pc lv (.ref b0 :: rest) := by
  obtain ⟨p, l', e, R, s, m, args, below, meth, c, E', A, nL', Q⟩ := X
  obtain ⟨rfl, rfl, rfl, rfl, hx, hb, hml, hown, hts, hEV, hA⟩ := cx
  obtain ⟨h1, h2, h3⟩ := hX
  intro H locs ls hP hD hS hl
  exact va_slen hx hb h1 h2 h3 hS hd (kk H locs ls hP hD hS hl)
end LL
theorem sc_in {x : Int32} {i L : Nat} (hx : x = nI i) (hi : i + 6 ≤ L) (hL : L ≤ 3072) (j : Nat) (hj : j ≤ 5) : vp_in (x + nI j) L := by
  rw [hx, nI_add]
  exact vp_in_nI (by omega) (by omega)
theorem sc_in0 {x : Int32} {i L : Nat} (hx : x = nI i) (hi : i + 6 ≤ L) (hL : L ≤ 3072) : vp_in x L := by
  rw [hx]
  exact vp_in_nI (by omega) (by omega)
theorem sc_le {x : Int32} {i L : Nat} (hx : x = nI i) (hi : i ≤ L + 5) (hL : L ≤ 3072) (c : ¬ nI L - 6 < x) : i + 6 ≤ L := by
  have e : (nI L - 6 : Int32).toInt = (L : Int) - 6 := by
    rw [Int32.toInt_sub, nI_toInt (by omega), show (6 : Int32).toInt = 6 from rfl, Int.bmod_eq_of_le (by omega) (by omega)]
  rw [fc_lt, e, hx, nI_toInt (by omega)] at c
  omega
/-- the law's own judgement -/
abbrev lX (p : Program) (l : Launch) (e : Env) (s : State) (m : MethodId) (b0 : Nat) (below : List Frame) (meth : Method) (c : Code) (E : gE) : gX := (p, l, e, room_1, s, m, #[Value.ref b0], below, meth, c, E, (fun q => s.heap.size ≤ q), 4, lw_Z below #[Value.ref b0] s)
theorem g_lend {p : Program} {l : Launch} {e : Env} {s : State} {m : MethodId} {b0 : Nat} {below : List Frame} {meth : Method} {c : Code} {E : gE} {k n pc : Nat} {ws : va_W} {lv : List (Nat × Value)} (hx : p.tables.exec = Jvm.exec) (hb : c.code = code) (hr : meth.sig.returnType = ret) (hlocks : meth.locks = false) (hk : k ≤ 600000) (hn : n ≤ 7302250) (hd : decode code pc = .ok (.ireturn, 1)) : gG (lX p l e s m b0 below meth c E) k n ws pc lv [.int 1] := by
  intro H locs ls hP hD hS hl
  refine va_forget (fun q hq => hS.2.2 q hq) ?_
  refine W.widen hk hn ?_
  exact lw_ret hx hb hr hlocks hd
