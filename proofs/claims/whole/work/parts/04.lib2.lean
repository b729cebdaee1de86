theorem rg_some {α : Type} (ws : List α) : (List.range ws.length).map (fun i => ws[i]?) = ws.map some := by
  apply List.ext_getElem?
  intro i
  by_cases h : i < ws.length
  · simp [h]
  · simp [h]
theorem nd_of : ∀ l : List Nat, l.Nodup → va_nd l = true
  | [], _ => rfl
  | a :: l, h => by
    rw [List.nodup_cons] at h
    simp [va_nd, h.1, nd_of l h.2]
theorem rg_nd (n : Nat) : va_nd (List.range n) = true := nd_of _ List.nodup_range
def minI (x y : Int32) : Int32 := if y < x then y else x
def maxI (x y : Int32) : Int32 := if x < y then y else x
theorem sw_ne {x c : Int32} {lo hi : Int} (h : x.toInt < lo ∨ hi < x.toInt) (hc : lo ≤ c.toInt ∧ c.toInt ≤ hi) : ¬ x = c := by
  rintro rfl
  omega
section GH
variable {l : Launch} {X : gX} {rm : Room} {nL : Nat} {cc : ByteArray} {own : String} {Ts : List Cond} {E : gE} {k n pc : Nat} {ws : va_W} {lv : List (Nat × Value)} {st rest : List Value}
theorem g_top {x y : Int32} (h : x = y) (kk : gG X k n ws pc lv (.int y :: rest)) : gG X k n ws pc lv (.int x :: rest) := by rw [h]; exact kk
theorem g_topl {x y : Int64} (h : x = y) (kk : gG X k n ws pc lv (.long y :: rest)) : gG X k n ws pc lv (.long x :: rest) := by rw [h]; exact kk
theorem g_w {ws' : va_W} (h : ws = ws') (kk : gG X k n ws' pc lv st) : gG X k n ws pc lv st := by rw [h]; exact kk
theorem g_min {index : Nat} {x y : Int32} (cx : gC l X rm nL cc own Ts E) (hm : ∀ w ∈ [Cond.methodLink own index Lib.Math.min.name, Cond.static Lib.Math.min.name, Cond.initialized "java/lang/Math", Cond.code Lib.Math.min.name Lib.Math.min.code 2 (some .int)], w ∈ Ts) (hf : 1 ≤ rm.frames) (hlo : (rest.map fun v => v.category).sum + 13 ≤ rm.locals) (hc : k ≤ rm.cells) (hs : n ≤ rm.slots) (hd : decode cc pc = .ok (.invokestatic index, 3)) (kk : gG X k n ws (pc + 3) lv (.int (minI x y) :: rest)) : gG X k n ws pc lv (.int y :: .int x :: rest) := g_mmin cx hm hf hlo hc hs hd kk
theorem g_max {index : Nat} {x y : Int32} (cx : gC l X rm nL cc own Ts E) (hm : ∀ w ∈ [Cond.methodLink own index Lib.Math.max.name, Cond.static Lib.Math.max.name, Cond.initialized "java/lang/Math", Cond.code Lib.Math.max.name Lib.Math.max.code 2 (some .int)], w ∈ Ts) (hf : 1 ≤ rm.frames) (hlo : (rest.map fun v => v.category).sum + 13 ≤ rm.locals) (hc : k ≤ rm.cells) (hs : n ≤ rm.slots) (hd : decode cc pc = .ok (.invokestatic index, 3)) (kk : gG X k n ws (pc + 3) lv (.int (maxI x y) :: rest)) : gG X k n ws pc lv (.int y :: .int x :: rest) := g_mmax cx hm hf hlo hc hs hd kk
/-- a static method that touches no cell -/
abbrev ctp (l : Launch) (y : MethodName) (wsy : List Cond) (rm : Room) (E : gE) (av : List Value) (v : Int32) : Prop := cti l y wsy rm E av [] (fun r w => r = v ∧ w = [])
abbrev ctq (l : Launch) (y : MethodName) (wsy : List Cond) (rm : Room) (E : gE) (av : List Value) (v : Int64) : Prop := ctl l y wsy rm E av [] (fun r w => r = v ∧ w = [])
theorem g_SPi {y : MethodName} {wsy : List Cond} {rmy : Room} {bytes : ByteArray} {maxL np index : Nat} {ret : Option FieldType} {As : List Value} {v : Int32} (cx : gC l X rm nL cc own Ts E) (hY : gY y wsy bytes maxL ret np) (hg : GoodIn Ts (va_wsS own index y wsy)) (hM : ctp l y wsy rmy E As v) (hR : rmy.frames + 1 ≤ rm.frames ∧ 8 + (maxL + 11) + rmy.locals ≤ rm.locals) (hst : st = As.reverse ++ rest) (hlen : As.length = np) (hroom : (rest.map fun v => v.category).sum ≤ 8) (hf : k + rmy.cells ≤ rm.cells ∧ n + rmy.slots ≤ rm.slots) (hd : decode cc pc = .ok (.invokestatic index, 3)) (kk : gG X (k + rmy.cells) (n + rmy.slots) ws (pc + 3) lv (.int v :: rest)) : gG X k n ws pc lv st := by
  refine g_Si (wc := []) (wr := ws) cx hY hg hM [] (List.range ws.length) rfl (rg_some ws) rfl (rg_nd _) (fun _ _ h => absurd h List.not_mem_nil) hR hst hlen hroom hf hd (fun r w1 hp => ?_)
  obtain ⟨rfl, rfl⟩ := hp
  rw [List.append_nil]
  exact kk
theorem g_SPl {y : MethodName} {wsy : List Cond} {rmy : Room} {bytes : ByteArray} {maxL np index : Nat} {ret : Option FieldType} {As : List Value} {v : Int64} (cx : gC l X rm nL cc own Ts E) (hY : gY y wsy bytes maxL ret np) (hg : GoodIn Ts (va_wsS own index y wsy)) (hM : ctq l y wsy rmy E As v) (hR : rmy.frames + 1 ≤ rm.frames ∧ 8 + (maxL + 11) + rmy.locals ≤ rm.locals) (hst : st = As.reverse ++ rest) (hlen : As.length = np) (hroom : (rest.map fun v => v.category).sum ≤ 8) (hf : k + rmy.cells ≤ rm.cells ∧ n + rmy.slots ≤ rm.slots) (hd : decode cc pc = .ok (.invokestatic index, 3)) (kk : gG X (k + rmy.cells) (n + rmy.slots) ws (pc + 3) lv (.long v :: rest)) : gG X k n ws pc lv st := by
  refine g_Sl (wc := []) (wr := ws) cx hY hg hM [] (List.range ws.length) rfl (rg_some ws) rfl (rg_nd _) (fun _ _ h => absurd h List.not_mem_nil) hR hst hlen hroom hf hd (fun r w1 hp => ?_)
  obtain ⟨rfl, rfl⟩ := hp
  rw [List.append_nil]
  exact kk
theorem g_NPi {y : MethodName} {wsy : List Cond} {rmy : Room} {bytes : ByteArray} {maxL np index : Nat} {ret : Option FieldType} {As : List Value} {v : Int32} {host : String} (cx : gC l X rm nL cc own Ts E) (hY : gY y wsy bytes maxL ret np) (hg : GoodIn Ts wsy) (hmem : ∀ w ∈ [Cond.static y, Cond.initialized y.cls], w ∈ Ts) (hnest : ∀ A s H, gEV E A s H → va_Nw (.methodLinkNest own index y host) s) (hM : ctp l y wsy rmy E As v) (hR : rmy.frames + 1 ≤ rm.frames ∧ 8 + (maxL + 11) + rmy.locals ≤ rm.locals) (hst : st = As.reverse ++ rest) (hlen : As.length = np) (hroom : (rest.map fun v => v.category).sum ≤ 8) (hf : k + rmy.cells ≤ rm.cells ∧ n + rmy.slots ≤ rm.slots) (hd : decode cc pc = .ok (.invokestatic index, 3)) (kk : gG X (k + rmy.cells) (n + rmy.slots) ws (pc + 3) lv (.int v :: rest)) : gG X k n ws pc lv st := by
  refine g_Ni (wc := []) (wr := ws) cx hY hg hmem hnest hM [] (List.range ws.length) rfl (rg_some ws) rfl (rg_nd _) (fun _ _ h => absurd h List.not_mem_nil) hR hst hlen hroom hf hd (fun r w1 hp => ?_)
  obtain ⟨rfl, rfl⟩ := hp
  rw [List.append_nil]
  exact kk
theorem g_VSi {y : MethodName} {wsy : List Cond} {rmy : Room} {bytes : ByteArray} {maxL np index : Nat} {ret : Option FieldType} {As : List Value} {post : Int32 → va_W → Prop} {C : String} {T : u_T} {N b ci : Nat} {fs : List Value} (cx : gC l X rm nL cc own Ts E) (hY : gY y wsy bytes maxL ret np) (hg : GoodIn Ts (wsV own index C y wsy)) (hM : cti l y wsy rmy E (.ref b :: As) ws post) (hyc : y.cls = C) (hcl : vwCl[ci]? = some (C, T, N)) (hrec : ws[0]? = some (b, .inr (ci, fs))) (hR : rmy.frames + 1 ≤ rm.frames ∧ 8 + (maxL + 11) + rmy.locals ≤ rm.locals) (hst : st = As.reverse ++ .ref b :: rest) (hlen : As.length = np) (hroom : (rest.map fun v => v.category).sum ≤ 8) (hf : k + rmy.cells ≤ rm.cells ∧ n + rmy.slots ≤ rm.slots) (hd : decode cc pc = .ok (.invokevirtual index, 3)) (kk : ∀ r w1, post r w1 → gG X (k + rmy.cells) (n + rmy.slots) w1 (pc + 3) lv (.int r :: rest)) : gG X k n ws pc lv st :=
  g_Vi (wr := []) cx hY hg hM hyc hcl hrec (List.range ws.length) [] (rg_some ws) rfl (rg_nd _) rfl (fun _ h => absurd h List.not_mem_nil) hR hst hlen hroom hf hd (fun r w1 hp => kk r w1 hp)
theorem g_VSl {y : MethodName} {wsy : List Cond} {rmy : Room} {bytes : ByteArray} {maxL np index : Nat} {ret : Option FieldType} {As : List Value} {post : Int64 → va_W → Prop} {C : String} {T : u_T} {N b ci : Nat} {fs : List Value} (cx : gC l X rm nL cc own Ts E) (hY : gY y wsy bytes maxL ret np) (hg : GoodIn Ts (wsV own index C y wsy)) (hM : ctl l y wsy rmy E (.ref b :: As) ws post) (hyc : y.cls = C) (hcl : vwCl[ci]? = some (C, T, N)) (hrec : ws[0]? = some (b, .inr (ci, fs))) (hR : rmy.frames + 1 ≤ rm.frames ∧ 8 + (maxL + 11) + rmy.locals ≤ rm.locals) (hst : st = As.reverse ++ .ref b :: rest) (hlen : As.length = np) (hroom : (rest.map fun v => v.category).sum ≤ 8) (hf : k + rmy.cells ≤ rm.cells ∧ n + rmy.slots ≤ rm.slots) (hd : decode cc pc = .ok (.invokevirtual index, 3)) (kk : ∀ r w1, post r w1 → gG X (k + rmy.cells) (n + rmy.slots) w1 (pc + 3) lv (.long r :: rest)) : gG X k n ws pc lv st :=
  g_Vl (wr := []) cx hY hg hM hyc hcl hrec (List.range ws.length) [] (rg_some ws) rfl (rg_nd _) rfl (fun _ h => absurd h List.not_mem_nil) hR hst hlen hroom hf hd (fun r w1 hp => kk r w1 hp)
theorem g_VSv {y : MethodName} {wsy : List Cond} {rmy : Room} {bytes : ByteArray} {maxL np index : Nat} {ret : Option FieldType} {As : List Value} {post : va_W → Prop} {C : String} {T : u_T} {N b ci : Nat} {fs : List Value} (cx : gC l X rm nL cc own Ts E) (hY : gY y wsy bytes maxL ret np) (hg : GoodIn Ts (wsV own index C y wsy)) (hM : ctv l y wsy rmy E (.ref b :: As) ws post) (hyc : y.cls = C) (hcl : vwCl[ci]? = some (C, T, N)) (hrec : ws[0]? = some (b, .inr (ci, fs))) (hR : rmy.frames + 1 ≤ rm.frames ∧ 8 + (maxL + 11) + rmy.locals ≤ rm.locals) (hst : st = As.reverse ++ .ref b :: rest) (hlen : As.length = np) (hroom : (rest.map fun v => v.category).sum ≤ 8) (hf : k + rmy.cells ≤ rm.cells ∧ n + rmy.slots ≤ rm.slots) (hd : decode cc pc = .ok (.invokevirtual index, 3)) (kk : ∀ w1, post w1 → gG X (k + rmy.cells) (n + rmy.slots) w1 (pc + 3) lv rest) : gG X k n ws pc lv st :=
  g_Vv (wr := []) cx hY hg hM hyc hcl hrec (List.range ws.length) [] (rg_some ws) rfl (rg_nd _) rfl (fun _ h => absurd h List.not_mem_nil) hR hst hlen hroom hf hd (fun w1 hp => kk w1 hp)
end GH
