abbrev vwCl : List vw_C := [(RX1, TX1, 3), (RX2, TX2, 2), (RX3, TX3, 11), (RX4, TX4, 5), (RX5, TX5, 8), (RX6, TX6, 16)]
/-! my judgement: gG X k n ws pc lv st: in any heap that holds the world ws, at pc with locals lv and stack st, the machine comes to X's end -/
abbrev gE : Type := va_G × (ClassId × ClassId × ClassId) × (Nat → Nat) × (Nat → Nat)
abbrev gI (E : gE) : ClassId := E.2.1.1
abbrev gJ (E : gE) : ClassId := E.2.1.2.1
abbrev gO (E : gE) : ClassId := E.2.1.2.2
abbrev gty (E : gE) : List (ClassId × FieldType) := [(gI E, .int), (gJ E, .long), (gO E, .object RX1)]
def gKx : List Nat := [45, 54, 59, 74, 79, 89, 99, 101, 103, 105, 107, 109]
def gTx : List String := ["man", "tray", "crack", "mood", "pence", "back", "gay", "grave", "choir", "waltz", "lent", "house"]
def gLen : List Nat := [3, 4, 5, 4, 5, 4, 3, 5, 5, 5, 4, 5]
def gByt : List (List Int32) := [[109, 97, 110], [116, 114, 97, 121], [99, 114, 97, 99, 107], [109, 111, 111, 100], [112, 101, 110, 99, 101], [98, 97, 99, 107], [103, 97, 121], [103, 114, 97, 118, 101], [99, 104, 111, 105, 114], [119, 97, 108, 116, 122], [108, 101, 110, 116], [104, 111, 117, 115, 101]]
def gEV (E : gE) (A : Nat → Prop) (U : State) (H : Heap) : Prop :=
  va_K E.1 vwCl (gty E) U ∧ (va_Nw (.methodLinkNest RX0 9 yX5_isWithin "MuffinBells") U ∧ va_Nw (.methodLinkNest RX3 76 yX5_exchange "MuffinBells") U ∧ va_Nw (.methodLinkNest RX3 99 yX5_held "MuffinBells") U) ∧ (∀ i, i < 12 → vk_R RX4 (gKx.getD i 0) (gTx.getD i "") (E.2.2.1 i) U) ∧ vk_S 12 gLen gByt E.2.2.1 E.2.2.2 A U H ∧ va_Z "java/lang/String" "COMPACT_STRINGS" "Z" (.int 1) A U H ∧ va_Zq "jdk/internal/util/Preconditions" "SIOOBE_FORMATTER" "Ljava/util/function/BiFunction;" A U H ∧ va_AO RX1 U
theorem gEV_call {E : gE} {A A1 : Nat → Prop} {s U : State} {H : Heap} {locs : List Loc} (h : gEV E A s s.heap) (hS : va_S A s.heap H locs) (hW : s.WarmedH U.vm) (hA : ∀ q, A1 q → A q) : gEV E A1 U H := by
  obtain ⟨h1, ⟨n1, n2, n3⟩, h3, h4, h5, h6, h7⟩ := h
  exact ⟨va_K.moved hW.alike h1, ⟨va_Nw.warmM hW n1, va_Nw.warmM hW n2, va_Nw.warmM hW n3⟩, fun i hi => vk_R.warm hW (h3 i hi), ((h4.moved hW.alike).kept hS.2.1).narrow hA, ((h5.moved hW.alike).kept hS.2.1).narrow hA, ((h6.moved hW.alike).kept hS.2.1).narrow hA, va_AO.moved hW.alike h7⟩
theorem gEV_blind {E : gE} {A : Nat → Prop} {U : State} (g : JFrame) (mk : MethodId) (a : Array Value) (h : gEV E A U U.heap) : gEV E A (U.calling g mk a) (U.calling g mk a).heap := by
  obtain ⟨h1, ⟨n1, n2, n3⟩, h3, h4, h5, h6, h7⟩ := h
  exact ⟨va_K.moved (u := U) (U := U.calling g mk a) (Vm.Alike.refl U.vm) h1, ⟨va_Nw.same (u := U) (U := U.calling g mk a) rfl rfl n1, va_Nw.same (u := U) (U := U.calling g mk a) rfl rfl n2, va_Nw.same (u := U) (U := U.calling g mk a) rfl rfl n3⟩, fun i hi => vk_R.same (u := U) (U := U.calling g mk a) rfl (h3 i hi), vk_S.moved (u := U) (U := U.calling g mk a) (Vm.Alike.refl U.vm) h4, va_Z.moved (u := U) (U := U.calling g mk a) (Vm.Alike.refl U.vm) h5, va_Zq.moved (u := U) (U := U.calling g mk a) (Vm.Alike.refl U.vm) h6, va_AO.moved (u := U) (U := U.calling g mk a) (Vm.Alike.refl U.vm) h7⟩
def gPc (E : gE) (av : List Value) (w0 : va_W) (sz : Nat) : Array Value → State → Prop := va_Pc av (fun U => U.heap.size = sz ∧ va_P E.1 vwCl w0 U.heap ∧ gEV E (va_A w0 sz) U U.heap ∧ va_D (fun _ => True) w0)
theorem gPc_blind {E : gE} {av : List Value} {w0 : va_W} {sz : Nat} : FrameBlind (gPc E av w0 sz) := fun a U g mk q => by
  obtain ⟨q0, q1, q2, q3, q4⟩ := q
  exact ⟨q0, q1, q2, gEV_blind g mk a q3, q4⟩
def gBt (E : gE) (w0 : va_W) (sz : Nat) : va_W → State → Prop := fun w t => va_P E.1 vwCl w t.heap ∧ va_D (va_A w0 sz) w
def cti (l : Launch) (y : MethodName) (wsy : List Cond) (rm : Room) (E : gE) (av : List Value) (w0 : va_W) (post : Int32 → va_W → Prop) : Prop := ∀ sz, Met l y wsy rm (gPc E av w0 sz) (va_Qi post (gBt E w0 sz) (va_A w0 sz)) rm.cells rm.slots (va_A w0 sz)
def ctl (l : Launch) (y : MethodName) (wsy : List Cond) (rm : Room) (E : gE) (av : List Value) (w0 : va_W) (post : Int64 → va_W → Prop) : Prop := ∀ sz, Met l y wsy rm (gPc E av w0 sz) (va_Ql post (gBt E w0 sz) (va_A w0 sz)) rm.cells rm.slots (va_A w0 sz)
def ctv (l : Launch) (y : MethodName) (wsy : List Cond) (rm : Room) (E : gE) (av : List Value) (w0 : va_W) (post : va_W → Prop) : Prop := ∀ sz, Met l y wsy rm (gPc E av w0 sz) (va_Qv post (gBt E w0 sz) (va_A w0 sz)) rm.cells rm.slots (va_A w0 sz)
abbrev gX : Type := Program × Launch × Env × Room × State × MethodId × Array Value × List Frame × Method × Code × gE × (Nat → Prop) × Nat × (State → Prop)
def gG (X : gX) (k n : Nat) (ws : va_W) (pc : Nat) (lv : List (Nat × Value)) (st : List Value) : Prop := match X with
  | (p, l, e, R, s, m, args, below, meth, c, E, A, nL, Q) => ∀ (H : Heap) (locs : List Loc) (ls : Array Slot), va_P E.1 vwCl ws H → va_D A ws → va_S A s.heap H locs → lv_has ls nL lv → W p l e R s m args below meth c H locs k n Q (F0 m pc ls st)
def gC (l : Launch) (X : gX) (rm : Room) (nL : Nat) (cc : ByteArray) (own : String) (Ts : List Cond) (E : gE) : Prop := match X with
  | (p, l', _, R, s, m, args, _, _, c, E', A, nL', _) => l' = l ∧ R = rm ∧ nL' = nL ∧ E' = E ∧ p.tables.exec = Jvm.exec ∧ c.code = cc ∧ c.maxLocals = nL ∧ s.vm.findClass own = some m.cls ∧ (∀ w ∈ Ts, w.before args s = true) ∧ gEV E A s s.heap ∧ (∀ q, s.heap.size ≤ q → A q)
/-- the end of X is the contract's -/
def gRi (X : gX) (ret : Option FieldType) (rm : Room) (E : gE) (w0 : va_W) (post : Int32 → va_W → Prop) : Prop := match X with
  | (_, _, _, _, s, _, args, below, meth, _, _, A, _, Q) => A = va_A w0 s.heap.size ∧ Q = MQ below (va_Qi post (gBt E w0 s.heap.size) (va_A w0 s.heap.size)) args s rm.cells rm.slots (va_A w0 s.heap.size) ∧ meth.sig.returnType = ret ∧ meth.locks = false
def gRl (X : gX) (ret : Option FieldType) (rm : Room) (E : gE) (w0 : va_W) (post : Int64 → va_W → Prop) : Prop := match X with
  | (_, _, _, _, s, _, args, below, meth, _, _, A, _, Q) => A = va_A w0 s.heap.size ∧ Q = MQ below (va_Ql post (gBt E w0 s.heap.size) (va_A w0 s.heap.size)) args s rm.cells rm.slots (va_A w0 s.heap.size) ∧ meth.sig.returnType = ret ∧ meth.locks = false
def gRv (X : gX) (ret : Option FieldType) (rm : Room) (E : gE) (w0 : va_W) (post : va_W → Prop) : Prop := match X with
  | (_, _, _, _, s, _, args, below, meth, _, _, A, _, Q) => A = va_A w0 s.heap.size ∧ Q = MQ below (va_Qv post (gBt E w0 s.heap.size) (va_A w0 s.heap.size)) args s rm.cells rm.slots (va_A w0 s.heap.size) ∧ meth.sig.returnType = ret ∧ meth.locks = false
/-- the method is a constructor -/
def gIn (X : gX) : Prop := match X with
  | (_, _, _, _, _, _, _, _, meth, _, _, _, _, _) => meth.name = "<init>"
theorem mt_i {l : Launch} {y : MethodName} {wsy ws' : List Cond} {rm : Room} {E : gE} {av : List Value} {w0 : va_W} {post : Int32 → va_W → Prop} {cc : ByteArray} {maxL : Nat} {ret : Option FieldType} {lv0 : List (Nat × Value)} (hy : plainName y.cls = true) (hw : wsy = Cond.code y cc maxL ret :: ws') (hlv : lv_args 0 av = lv0) (hsl : (lg_sl av).length ≤ maxL)
    (body : ∀ X : gX, gC l X rm maxL cc y.cls wsy E → gRi X ret rm E w0 post → (y.name = "<init>" → gIn X) → gG X 0 0 w0 0 lv0 []) : cti l y wsy rm E av w0 post := by
  intro sz
  refine Met.ofW (cc := cc) (maxL := maxL) (ret := ret) hy hw ?_
  intro p e s m args below meth c s₁ B hml hv
  obtain ⟨rfl, hsz, hP, hEV, hD0⟩ := hv
  have hts := atoms_spec (ws := wsy) B.pre
  have hown : s.vm.findClass y.cls = some m.cls := findClass_of_methodNamed B.named
  have hin : meth.name = y.name := (name_of_methodNamed B.named B.method).1
  subst hsz
  have hD := hD0.self (sz := s.heap.size)
  have hl := lv_entry av (n := maxL) hsl
  rw [lg_entry_eq]
  rw [hlv] at hl
  exact body (p, l, e, rm, s, m, av.toArray, below, meth, c, E, va_A w0 s.heap.size, maxL, MQ below (va_Qi post (gBt E w0 s.heap.size) (va_A w0 s.heap.size)) av.toArray s rm.cells rm.slots (va_A w0 s.heap.size)) ⟨rfl, rfl, rfl, rfl, B.exec, B.bytes, hml, hown, hts, hEV, fun q h => Or.inr h⟩ ⟨rfl, rfl, B.returns, B.notSynchronized⟩ (fun h => hin.trans h) s.heap [] _ hP hD va_S.rf hl
theorem mt_l {l : Launch} {y : MethodName} {wsy ws' : List Cond} {rm : Room} {E : gE} {av : List Value} {w0 : va_W} {post : Int64 → va_W → Prop} {cc : ByteArray} {maxL : Nat} {ret : Option FieldType} {lv0 : List (Nat × Value)} (hy : plainName y.cls = true) (hw : wsy = Cond.code y cc maxL ret :: ws') (hlv : lv_args 0 av = lv0) (hsl : (lg_sl av).length ≤ maxL)
    (body : ∀ X : gX, gC l X rm maxL cc y.cls wsy E → gRl X ret rm E w0 post → (y.name = "<init>" → gIn X) → gG X 0 0 w0 0 lv0 []) : ctl l y wsy rm E av w0 post := by
  intro sz
  refine Met.ofW (cc := cc) (maxL := maxL) (ret := ret) hy hw ?_
  intro p e s m args below meth c s₁ B hml hv
  obtain ⟨rfl, hsz, hP, hEV, hD0⟩ := hv
  have hts := atoms_spec (ws := wsy) B.pre
  have hown : s.vm.findClass y.cls = some m.cls := findClass_of_methodNamed B.named
  have hin : meth.name = y.name := (name_of_methodNamed B.named B.method).1
  subst hsz
  have hD := hD0.self (sz := s.heap.size)
  have hl := lv_entry av (n := maxL) hsl
  rw [lg_entry_eq]
  rw [hlv] at hl
  exact body (p, l, e, rm, s, m, av.toArray, below, meth, c, E, va_A w0 s.heap.size, maxL, MQ below (va_Ql post (gBt E w0 s.heap.size) (va_A w0 s.heap.size)) av.toArray s rm.cells rm.slots (va_A w0 s.heap.size)) ⟨rfl, rfl, rfl, rfl, B.exec, B.bytes, hml, hown, hts, hEV, fun q h => Or.inr h⟩ ⟨rfl, rfl, B.returns, B.notSynchronized⟩ (fun h => hin.trans h) s.heap [] _ hP hD va_S.rf hl
theorem mt_v {l : Launch} {y : MethodName} {wsy ws' : List Cond} {rm : Room} {E : gE} {av : List Value} {w0 : va_W} {post : va_W → Prop} {cc : ByteArray} {maxL : Nat} {ret : Option FieldType} {lv0 : List (Nat × Value)} (hy : plainName y.cls = true) (hw : wsy = Cond.code y cc maxL ret :: ws') (hlv : lv_args 0 av = lv0) (hsl : (lg_sl av).length ≤ maxL)
    (body : ∀ X : gX, gC l X rm maxL cc y.cls wsy E → gRv X ret rm E w0 post → (y.name = "<init>" → gIn X) → gG X 0 0 w0 0 lv0 []) : ctv l y wsy rm E av w0 post := by
  intro sz
  refine Met.ofW (cc := cc) (maxL := maxL) (ret := ret) hy hw ?_
  intro p e s m args below meth c s₁ B hml hv
  obtain ⟨rfl, hsz, hP, hEV, hD0⟩ := hv
  have hts := atoms_spec (ws := wsy) B.pre
  have hown : s.vm.findClass y.cls = some m.cls := findClass_of_methodNamed B.named
  have hin : meth.name = y.name := (name_of_methodNamed B.named B.method).1
  subst hsz
  have hD := hD0.self (sz := s.heap.size)
  have hl := lv_entry av (n := maxL) hsl
  rw [lg_entry_eq]
  rw [hlv] at hl
  exact body (p, l, e, rm, s, m, av.toArray, below, meth, c, E, va_A w0 s.heap.size, maxL, MQ below (va_Qv post (gBt E w0 s.heap.size) (va_A w0 s.heap.size)) av.toArray s rm.cells rm.slots (va_A w0 s.heap.size)) ⟨rfl, rfl, rfl, rfl, B.exec, B.bytes, hml, hown, hts, hEV, fun q h => Or.inr h⟩ ⟨rfl, rfl, B.returns, B.notSynchronized⟩ (fun h => hin.trans h) s.heap [] _ hP hD va_S.rf hl
section GG
variable {l : Launch} {X : gX} {rm : Room} {nL : Nat} {cc : ByteArray} {own : String} {Ts : List Cond} {E : gE} {k n pc : Nat} {ws : va_W} {lv lv' : List (Nat × Value)} {st rest : List Value}
theorem g_iadd {x y : Int32} (cx : gC l X rm nL cc own Ts E) (hd : decode cc pc = .ok (.iadd, 1))  (kk : gG X k n ws (pc + 1) lv (.int (x + y) :: rest)) : gG X k n ws pc lv (.int y :: .int x :: rest) := by
  obtain ⟨p, l', e, R, s, m, args, below, meth, c, E', A, nL', Q⟩ := X
  obtain ⟨rfl, rfl, rfl, rfl, hx, hb, hml, hown, hts, hEV, hA⟩ := cx
  intro H locs ls hP hD hS hl
  exact lv_iadd hx hb hd  (kk H locs ls hP hD hS hl)
theorem g_isub {x y : Int32} (cx : gC l X rm nL cc own Ts E) (hd : decode cc pc = .ok (.isub, 1))  (kk : gG X k n ws (pc + 1) lv (.int (x - y) :: rest)) : gG X k n ws pc lv (.int y :: .int x :: rest) := by
  obtain ⟨p, l', e, R, s, m, args, below, meth, c, E', A, nL', Q⟩ := X
  obtain ⟨rfl, rfl, rfl, rfl, hx, hb, hml, hown, hts, hEV, hA⟩ := cx
  intro H locs ls hP hD hS hl
  exact lv_isub hx hb hd  (kk H locs ls hP hD hS hl)
theorem g_imul {x y : Int32} (cx : gC l X rm nL cc own Ts E) (hd : decode cc pc = .ok (.imul, 1))  (kk : gG X k n ws (pc + 1) lv (.int (x * y) :: rest)) : gG X k n ws pc lv (.int y :: .int x :: rest) := by
  obtain ⟨p, l', e, R, s, m, args, below, meth, c, E', A, nL', Q⟩ := X
  obtain ⟨rfl, rfl, rfl, rfl, hx, hb, hml, hown, hts, hEV, hA⟩ := cx
  intro H locs ls hP hD hS hl
  exact lv_imul hx hb hd  (kk H locs ls hP hD hS hl)
theorem g_iand {x y : Int32} (cx : gC l X rm nL cc own Ts E) (hd : decode cc pc = .ok (.iand, 1))  (kk : gG X k n ws (pc + 1) lv (.int (x &&& y) :: rest)) : gG X k n ws pc lv (.int y :: .int x :: rest) := by
  obtain ⟨p, l', e, R, s, m, args, below, meth, c, E', A, nL', Q⟩ := X
  obtain ⟨rfl, rfl, rfl, rfl, hx, hb, hml, hown, hts, hEV, hA⟩ := cx
  intro H locs ls hP hD hS hl
  exact lv_iand hx hb hd  (kk H locs ls hP hD hS hl)
theorem g_ior {x y : Int32} (cx : gC l X rm nL cc own Ts E) (hd : decode cc pc = .ok (.ior, 1))  (kk : gG X k n ws (pc + 1) lv (.int (x ||| y) :: rest)) : gG X k n ws pc lv (.int y :: .int x :: rest) := by
  obtain ⟨p, l', e, R, s, m, args, below, meth, c, E', A, nL', Q⟩ := X
  obtain ⟨rfl, rfl, rfl, rfl, hx, hb, hml, hown, hts, hEV, hA⟩ := cx
  intro H locs ls hP hD hS hl
  exact lv_ior hx hb hd  (kk H locs ls hP hD hS hl)
theorem g_ladd {x y : Int64} (cx : gC l X rm nL cc own Ts E) (hd : decode cc pc = .ok (.ladd, 1))  (kk : gG X k n ws (pc + 1) lv (.long (x + y) :: rest)) : gG X k n ws pc lv (.long y :: .long x :: rest) := by
  obtain ⟨p, l', e, R, s, m, args, below, meth, c, E', A, nL', Q⟩ := X
  obtain ⟨rfl, rfl, rfl, rfl, hx, hb, hml, hown, hts, hEV, hA⟩ := cx
  intro H locs ls hP hD hS hl
  exact lv_ladd hx hb hd  (kk H locs ls hP hD hS hl)
theorem g_lmul {x y : Int64} (cx : gC l X rm nL cc own Ts E) (hd : decode cc pc = .ok (.lmul, 1))  (kk : gG X k n ws (pc + 1) lv (.long (x * y) :: rest)) : gG X k n ws pc lv (.long y :: .long x :: rest) := by
  obtain ⟨p, l', e, R, s, m, args, below, meth, c, E', A, nL', Q⟩ := X
  obtain ⟨rfl, rfl, rfl, rfl, hx, hb, hml, hown, hts, hEV, hA⟩ := cx
  intro H locs ls hP hD hS hl
  exact lv_lmul hx hb hd  (kk H locs ls hP hD hS hl)
theorem g_land {x y : Int64} (cx : gC l X rm nL cc own Ts E) (hd : decode cc pc = .ok (.land, 1))  (kk : gG X k n ws (pc + 1) lv (.long (x &&& y) :: rest)) : gG X k n ws pc lv (.long y :: .long x :: rest) := by
  obtain ⟨p, l', e, R, s, m, args, below, meth, c, E', A, nL', Q⟩ := X
  obtain ⟨rfl, rfl, rfl, rfl, hx, hb, hml, hown, hts, hEV, hA⟩ := cx
  intro H locs ls hP hD hS hl
  exact lv_land hx hb hd  (kk H locs ls hP hD hS hl)
theorem g_lor {x y : Int64} (cx : gC l X rm nL cc own Ts E) (hd : decode cc pc = .ok (.lor, 1))  (kk : gG X k n ws (pc + 1) lv (.long (x ||| y) :: rest)) : gG X k n ws pc lv (.long y :: .long x :: rest) := by
  obtain ⟨p, l', e, R, s, m, args, below, meth, c, E', A, nL', Q⟩ := X
  obtain ⟨rfl, rfl, rfl, rfl, hx, hb, hml, hown, hts, hEV, hA⟩ := cx
  intro H locs ls hP hD hS hl
  exact lv_lor hx hb hd  (kk H locs ls hP hD hS hl)
theorem g_idiv {x y : Int32} (cx : gC l X rm nL cc own Ts E) (hd : decode cc pc = .ok (.idiv, 1)) (hne : ¬ y = 0) (kk : gG X k n ws (pc + 1) lv (.int (x / y) :: rest)) : gG X k n ws pc lv (.int y :: .int x :: rest) := by
  obtain ⟨p, l', e, R, s, m, args, below, meth, c, E', A, nL', Q⟩ := X
  obtain ⟨rfl, rfl, rfl, rfl, hx, hb, hml, hown, hts, hEV, hA⟩ := cx
  intro H locs ls hP hD hS hl
  exact lv_idiv hx hb hd hne (kk H locs ls hP hD hS hl)
theorem g_irem {x y : Int32} (cx : gC l X rm nL cc own Ts E) (hd : decode cc pc = .ok (.irem, 1)) (hne : ¬ y = 0) (kk : gG X k n ws (pc + 1) lv (.int (x - x / y * y) :: rest)) : gG X k n ws pc lv (.int y :: .int x :: rest) := by
  obtain ⟨p, l', e, R, s, m, args, below, meth, c, E', A, nL', Q⟩ := X
  obtain ⟨rfl, rfl, rfl, rfl, hx, hb, hml, hown, hts, hEV, hA⟩ := cx
  intro H locs ls hP hD hS hl
  exact lv_irem hx hb hd hne (kk H locs ls hP hD hS hl)
theorem g_ishl {x y : Int32} (cx : gC l X rm nL cc own Ts E) (hd : decode cc pc = .ok (.ishl, 1))  (kk : gG X k n ws (pc + 1) lv (.int (x <<< (y &&& 31)) :: rest)) : gG X k n ws pc lv (.int y :: .int x :: rest) := by
  obtain ⟨p, l', e, R, s, m, args, below, meth, c, E', A, nL', Q⟩ := X
  obtain ⟨rfl, rfl, rfl, rfl, hx, hb, hml, hown, hts, hEV, hA⟩ := cx
  intro H locs ls hP hD hS hl
  exact lv_ishl hx hb hd  (kk H locs ls hP hD hS hl)
theorem g_ishr {x y : Int32} (cx : gC l X rm nL cc own Ts E) (hd : decode cc pc = .ok (.ishr, 1))  (kk : gG X k n ws (pc + 1) lv (.int (x >>> (y &&& 31)) :: rest)) : gG X k n ws pc lv (.int y :: .int x :: rest) := by
  obtain ⟨p, l', e, R, s, m, args, below, meth, c, E', A, nL', Q⟩ := X
  obtain ⟨rfl, rfl, rfl, rfl, hx, hb, hml, hown, hts, hEV, hA⟩ := cx
  intro H locs ls hP hD hS hl
  exact lv_ishr hx hb hd  (kk H locs ls hP hD hS hl)
theorem g_lshl {x : Int64} {y : Int32} (cx : gC l X rm nL cc own Ts E) (hd : decode cc pc = .ok (.lshl, 1))  (kk : gG X k n ws (pc + 1) lv (.long (x <<< (y.toInt64 &&& 63)) :: rest)) : gG X k n ws pc lv (.int y :: .long x :: rest) := by
  obtain ⟨p, l', e, R, s, m, args, below, meth, c, E', A, nL', Q⟩ := X
  obtain ⟨rfl, rfl, rfl, rfl, hx, hb, hml, hown, hts, hEV, hA⟩ := cx
  intro H locs ls hP hD hS hl
  exact lv_lshl hx hb hd rfl (kk H locs ls hP hD hS hl)
theorem g_i2l {x : Int32} (cx : gC l X rm nL cc own Ts E) (hd : decode cc pc = .ok (.i2l, 1))  (kk : gG X k n ws (pc + 1) lv (.long x.toInt64 :: rest)) : gG X k n ws pc lv (.int x :: rest) := by
  obtain ⟨p, l', e, R, s, m, args, below, meth, c, E', A, nL', Q⟩ := X
  obtain ⟨rfl, rfl, rfl, rfl, hx, hb, hml, hown, hts, hEV, hA⟩ := cx
  intro H locs ls hP hD hS hl
  exact lv_i2l hx hb hd rfl (kk H locs ls hP hD hS hl)
theorem g_l2i {x : Int64} (cx : gC l X rm nL cc own Ts E) (hd : decode cc pc = .ok (.l2i, 1))  (kk : gG X k n ws (pc + 1) lv (.int x.toInt32 :: rest)) : gG X k n ws pc lv (.long x :: rest) := by
  obtain ⟨p, l', e, R, s, m, args, below, meth, c, E', A, nL', Q⟩ := X
  obtain ⟨rfl, rfl, rfl, rfl, hx, hb, hml, hown, hts, hEV, hA⟩ := cx
  intro H locs ls hP hD hS hl
  exact lv_l2i hx hb hd rfl (kk H locs ls hP hD hS hl)
theorem g_i2b {x : Int32} (cx : gC l X rm nL cc own Ts E) (hd : decode cc pc = .ok (.i2b, 1))  (kk : gG X k n ws (pc + 1) lv (.int x.toInt8.toInt32 :: rest)) : gG X k n ws pc lv (.int x :: rest) := by
  obtain ⟨p, l', e, R, s, m, args, below, meth, c, E', A, nL', Q⟩ := X
  obtain ⟨rfl, rfl, rfl, rfl, hx, hb, hml, hown, hts, hEV, hA⟩ := cx
  intro H locs ls hP hD hS hl
  exact lv_i2b hx hb hd rfl (kk H locs ls hP hD hS hl)
theorem g_i2s {x : Int32} (cx : gC l X rm nL cc own Ts E) (hd : decode cc pc = .ok (.i2s, 1))  (kk : gG X k n ws (pc + 1) lv (.int x.toInt16.toInt32 :: rest)) : gG X k n ws pc lv (.int x :: rest) := by
  obtain ⟨p, l', e, R, s, m, args, below, meth, c, E', A, nL', Q⟩ := X
  obtain ⟨rfl, rfl, rfl, rfl, hx, hb, hml, hown, hts, hEV, hA⟩ := cx
  intro H locs ls hP hD hS hl
  exact lv_i2s hx hb hd rfl (kk H locs ls hP hD hS hl)
theorem g_i2c {x : Int32} (cx : gC l X rm nL cc own Ts E) (hd : decode cc pc = .ok (.i2c, 1))  (kk : gG X k n ws (pc + 1) lv (.int (x.toUInt32 % 65536).toInt32 :: rest)) : gG X k n ws pc lv (.int x :: rest) := by
  obtain ⟨p, l', e, R, s, m, args, below, meth, c, E', A, nL', Q⟩ := X
  obtain ⟨rfl, rfl, rfl, rfl, hx, hb, hml, hown, hts, hEV, hA⟩ := cx
  intro H locs ls hP hD hS hl
  exact lv_i2c hx hb hd rfl (kk H locs ls hP hD hS hl)
theorem g_lcmp {x y : Int64} (cx : gC l X rm nL cc own Ts E) (hd : decode cc pc = .ok (.lcmp, 1))  (kk : gG X k n ws (pc + 1) lv (.int (lg_cmp x y) :: rest)) : gG X k n ws pc lv (.long y :: .long x :: rest) := by
  obtain ⟨p, l', e, R, s, m, args, below, meth, c, E', A, nL', Q⟩ := X
  obtain ⟨rfl, rfl, rfl, rfl, hx, hb, hml, hown, hts, hEV, hA⟩ := cx
  intro H locs ls hP hD hS hl
  exact W.lcmp hx hb hd  (kk H locs ls hP hD hS hl)
theorem g_iconst {i : Int} {v : Int32} (cx : gC l X rm nL cc own Ts E) (hd : decode cc pc = .ok (.iconst i, 1)) (hv : Int32.ofInt i = v) (kk : gG X k n ws (pc + 1) lv (.int v :: rest)) : gG X k n ws pc lv (rest) := by
  obtain ⟨p, l', e, R, s, m, args, below, meth, c, E', A, nL', Q⟩ := X
  obtain ⟨rfl, rfl, rfl, rfl, hx, hb, hml, hown, hts, hEV, hA⟩ := cx
  intro H locs ls hP hD hS hl
  exact lv_iconst hx hb hd hv (kk H locs ls hP hD hS hl)
theorem g_bipush {i : Int} {v : Int32} (cx : gC l X rm nL cc own Ts E) (hd : decode cc pc = .ok (.bipush i, 2)) (hv : (Int8.ofInt i).toInt32 = v) (kk : gG X k n ws (pc + 2) lv (.int v :: rest)) : gG X k n ws pc lv (rest) := by
  obtain ⟨p, l', e, R, s, m, args, below, meth, c, E', A, nL', Q⟩ := X
  obtain ⟨rfl, rfl, rfl, rfl, hx, hb, hml, hown, hts, hEV, hA⟩ := cx
  intro H locs ls hP hD hS hl
  exact lv_bipush hx hb hd hv (kk H locs ls hP hD hS hl)
theorem g_sipush {i : Int} {v : Int32} (cx : gC l X rm nL cc own Ts E) (hd : decode cc pc = .ok (.sipush i, 3)) (hv : (Int16.ofInt i).toInt32 = v) (kk : gG X k n ws (pc + 3) lv (.int v :: rest)) : gG X k n ws pc lv (rest) := by
  obtain ⟨p, l', e, R, s, m, args, below, meth, c, E', A, nL', Q⟩ := X
  obtain ⟨rfl, rfl, rfl, rfl, hx, hb, hml, hown, hts, hEV, hA⟩ := cx
  intro H locs ls hP hD hS hl
  exact lv_sipush hx hb hd hv (kk H locs ls hP hD hS hl)
theorem g_lconst {i : Fin 2} {v : Int64} (cx : gC l X rm nL cc own Ts E) (hd : decode cc pc = .ok (.lconst i, 1)) (hv : Int64.ofNat (i : Nat) = v) (kk : gG X k n ws (pc + 1) lv (.long v :: rest)) : gG X k n ws pc lv (rest) := by
  obtain ⟨p, l', e, R, s, m, args, below, meth, c, E', A, nL', Q⟩ := X
  obtain ⟨rfl, rfl, rfl, rfl, hx, hb, hml, hown, hts, hEV, hA⟩ := cx
  intro H locs ls hP hD hS hl
  exact lv_lconst hx hb hd hv (kk H locs ls hP hD hS hl)
theorem g_dup {va : Value} (cx : gC l X rm nL cc own Ts E) (hd : decode cc pc = .ok (.dup, 1)) (hva : va.category = 1) (kk : gG X k n ws (pc + 1) lv (va :: va :: rest)) : gG X k n ws pc lv (va :: rest) := by
  obtain ⟨p, l', e, R, s, m, args, below, meth, c, E', A, nL', Q⟩ := X
  obtain ⟨rfl, rfl, rfl, rfl, hx, hb, hml, hown, hts, hEV, hA⟩ := cx
  intro H locs ls hP hD hS hl
  exact lv_dup hx hb hd hva (kk H locs ls hP hD hS hl)
theorem g_pop {va : Value} (cx : gC l X rm nL cc own Ts E) (hd : decode cc pc = .ok (.pop, 1)) (hva : va.category = 1) (kk : gG X k n ws (pc + 1) lv (rest)) : gG X k n ws pc lv (va :: rest) := by
  obtain ⟨p, l', e, R, s, m, args, below, meth, c, E', A, nL', Q⟩ := X
  obtain ⟨rfl, rfl, rfl, rfl, hx, hb, hml, hown, hts, hEV, hA⟩ := cx
  intro H locs ls hP hD hS hl
  exact lv_pop hx hb hd hva (kk H locs ls hP hD hS hl)
theorem g_dup2 {va vb : Value} (cx : gC l X rm nL cc own Ts E) (hd : decode cc pc = .ok (.dup2, 1)) (hva : va.category = 1) (hvb : vb.category = 1) (kk : gG X k n ws (pc + 1) lv (va :: vb :: va :: vb :: rest)) : gG X k n ws pc lv (va :: vb :: rest) := by
  obtain ⟨p, l', e, R, s, m, args, below, meth, c, E', A, nL', Q⟩ := X
  obtain ⟨rfl, rfl, rfl, rfl, hx, hb, hml, hown, hts, hEV, hA⟩ := cx
  intro H locs ls hP hD hS hl
  exact lv_dup2_11 hx hb hd hva hvb (kk H locs ls hP hD hS hl)
theorem g_ldc {index : Nat} {v : Int32} (cx : gC l X rm nL cc own Ts E) (hm : Cond.constant own index v ∈ Ts) (hd : decode cc pc = .ok (.ldc index, 2)) (kk : gG X k n ws (pc + 2) lv (.int v :: rest)) : gG X k n ws pc lv rest := by
  obtain ⟨p, l', e, R, s, m, args, below, meth, c, E', A, nL', Q⟩ := X
  obtain ⟨rfl, rfl, rfl, rfl, hx, hb, hml, hown, hts, hEV, hA⟩ := cx
  intro H locs ls hP hD hS hl
  exact lv_ldc hx hb hown (hts _ hm) hd (kk H locs ls hP hD hS hl)
theorem g_ldcw {index : Nat} {v : Int32} (cx : gC l X rm nL cc own Ts E) (hm : Cond.constant own index v ∈ Ts) (hd : decode cc pc = .ok (.ldc_w index, 3)) (kk : gG X k n ws (pc + 3) lv (.int v :: rest)) : gG X k n ws pc lv rest := by
  obtain ⟨p, l', e, R, s, m, args, below, meth, c, E', A, nL', Q⟩ := X
  obtain ⟨rfl, rfl, rfl, rfl, hx, hb, hml, hown, hts, hEV, hA⟩ := cx
  intro H locs ls hP hD hS hl
  exact lv_ldcw hx hb hown (hts _ hm) hd (kk H locs ls hP hD hS hl)
theorem g_ldc2 {index : Nat} {v : Int64} (cx : gC l X rm nL cc own Ts E) (hm : Cond.constantLong own index v ∈ Ts) (hd : decode cc pc = .ok (.ldc2_w index, 3)) (kk : gG X k n ws (pc + 3) lv (.long v :: rest)) : gG X k n ws pc lv rest := by
  obtain ⟨p, l', e, R, s, m, args, below, meth, c, E', A, nL', Q⟩ := X
  obtain ⟨rfl, rfl, rfl, rfl, hx, hb, hml, hown, hts, hEV, hA⟩ := cx
  intro H locs ls hP hD hS hl
  exact lv_ldc2 hx hb hown (hts _ hm) hd (kk H locs ls hP hD hS hl)
theorem g_iload_n {i : Fin 4} {x : Int32} (cx : gC l X rm nL cc own Ts E) (hd : decode cc pc = .ok (.iload_n i, 1)) (q : Nat) (hq : lv[q]? = some ((i : Nat), .int x)) (kk : gG X k n ws (pc + 1) lv (.int x :: rest)) : gG X k n ws pc lv rest := by
  obtain ⟨p, l', e, R, s, m, args, below, meth, c, E', A, nL', Q⟩ := X
  obtain ⟨rfl, rfl, rfl, rfl, hx, hb, hml, hown, hts, hEV, hA⟩ := cx
  intro H locs ls hP hD hS hl
  exact lv_iload_n hx hb hd rfl (lv_at hl q hq) (kk H locs ls hP hD hS hl)
theorem g_iload {i : Nat} {x : Int32} (cx : gC l X rm nL cc own Ts E) (hd : decode cc pc = .ok (.iload i, 2)) (q : Nat) (hq : lv[q]? = some (i, .int x)) (kk : gG X k n ws (pc + 2) lv (.int x :: rest)) : gG X k n ws pc lv rest := by
  obtain ⟨p, l', e, R, s, m, args, below, meth, c, E', A, nL', Q⟩ := X
  obtain ⟨rfl, rfl, rfl, rfl, hx, hb, hml, hown, hts, hEV, hA⟩ := cx
  intro H locs ls hP hD hS hl
  exact lv_iload hx hb hd (lv_at hl q hq) (kk H locs ls hP hD hS hl)
theorem g_aload_n {i : Fin 4} {x : Nat} (cx : gC l X rm nL cc own Ts E) (hd : decode cc pc = .ok (.aload_n i, 1)) (q : Nat) (hq : lv[q]? = some ((i : Nat), .ref x)) (kk : gG X k n ws (pc + 1) lv (.ref x :: rest)) : gG X k n ws pc lv rest := by
  obtain ⟨p, l', e, R, s, m, args, below, meth, c, E', A, nL', Q⟩ := X
  obtain ⟨rfl, rfl, rfl, rfl, hx, hb, hml, hown, hts, hEV, hA⟩ := cx
  intro H locs ls hP hD hS hl
  exact lv_aload_n hx hb hd rfl (lv_at hl q hq) (kk H locs ls hP hD hS hl)
theorem g_aload {i : Nat} {x : Nat} (cx : gC l X rm nL cc own Ts E) (hd : decode cc pc = .ok (.aload i, 2)) (q : Nat) (hq : lv[q]? = some (i, .ref x)) (kk : gG X k n ws (pc + 2) lv (.ref x :: rest)) : gG X k n ws pc lv rest := by
  obtain ⟨p, l', e, R, s, m, args, below, meth, c, E', A, nL', Q⟩ := X
  obtain ⟨rfl, rfl, rfl, rfl, hx, hb, hml, hown, hts, hEV, hA⟩ := cx
  intro H locs ls hP hD hS hl
  exact lv_aload hx hb hd (lv_at hl q hq) (kk H locs ls hP hD hS hl)
theorem g_lload_n {i : Fin 4} {x : Int64} (cx : gC l X rm nL cc own Ts E) (hd : decode cc pc = .ok (.lload_n i, 1)) (q : Nat) (hq : lv[q]? = some ((i : Nat), .long x)) (kk : gG X k n ws (pc + 1) lv (.long x :: rest)) : gG X k n ws pc lv rest := by
  obtain ⟨p, l', e, R, s, m, args, below, meth, c, E', A, nL', Q⟩ := X
  obtain ⟨rfl, rfl, rfl, rfl, hx, hb, hml, hown, hts, hEV, hA⟩ := cx
  intro H locs ls hP hD hS hl
  exact lv_lload_n hx hb hd rfl (lv_at hl q hq) (kk H locs ls hP hD hS hl)
theorem g_lload {i : Nat} {x : Int64} (cx : gC l X rm nL cc own Ts E) (hd : decode cc pc = .ok (.lload i, 2)) (q : Nat) (hq : lv[q]? = some (i, .long x)) (kk : gG X k n ws (pc + 2) lv (.long x :: rest)) : gG X k n ws pc lv rest := by
  obtain ⟨p, l', e, R, s, m, args, below, meth, c, E', A, nL', Q⟩ := X
  obtain ⟨rfl, rfl, rfl, rfl, hx, hb, hml, hown, hts, hEV, hA⟩ := cx
  intro H locs ls hP hD hS hl
  exact lv_lload hx hb hd (lv_at hl q hq) (kk H locs ls hP hD hS hl)
theorem g_istore_n {i : Fin 4} {x : Int32} (cx : gC l X rm nL cc own Ts E) (hd : decode cc pc = .ok (.istore_n i, 1)) (hn : (i : Nat) < nL) (hq : ((i : Nat), Value.int x) :: lv.filter (fun q => !(q.1 == (i : Nat)) && !(q.1 + 1 == (i : Nat) && q.2.category == 2)) = lv') (kk : gG X k n ws (pc + 1) lv' rest) : gG X k n ws pc lv (.int x :: rest) := by
  obtain ⟨p, l', e, R, s, m, args, below, meth, c, E', A, nL', Q⟩ := X
  obtain ⟨rfl, rfl, rfl, rfl, hx, hb, hml, hown, hts, hEV, hA⟩ := cx
  intro H locs ls hP hD hS hl
  exact lv_istore_n hx hb hd rfl hl hn hq (fun ls hl => kk H locs ls hP hD hS hl)
theorem g_istore {i : Nat} {x : Int32} (cx : gC l X rm nL cc own Ts E) (hd : decode cc pc = .ok (.istore i, 2)) (hn : i < nL) (hq : (i, Value.int x) :: lv.filter (fun q => !(q.1 == i) && !(q.1 + 1 == i && q.2.category == 2)) = lv') (kk : gG X k n ws (pc + 2) lv' rest) : gG X k n ws pc lv (.int x :: rest) := by
  obtain ⟨p, l', e, R, s, m, args, below, meth, c, E', A, nL', Q⟩ := X
  obtain ⟨rfl, rfl, rfl, rfl, hx, hb, hml, hown, hts, hEV, hA⟩ := cx
  intro H locs ls hP hD hS hl
  exact lv_istore hx hb hd  hl hn hq (fun ls hl => kk H locs ls hP hD hS hl)
theorem g_astore_n {i : Fin 4} {x : Nat} (cx : gC l X rm nL cc own Ts E) (hd : decode cc pc = .ok (.astore_n i, 1)) (hn : (i : Nat) < nL) (hq : ((i : Nat), Value.ref x) :: lv.filter (fun q => !(q.1 == (i : Nat)) && !(q.1 + 1 == (i : Nat) && q.2.category == 2)) = lv') (kk : gG X k n ws (pc + 1) lv' rest) : gG X k n ws pc lv (.ref x :: rest) := by
  obtain ⟨p, l', e, R, s, m, args, below, meth, c, E', A, nL', Q⟩ := X
  obtain ⟨rfl, rfl, rfl, rfl, hx, hb, hml, hown, hts, hEV, hA⟩ := cx
  intro H locs ls hP hD hS hl
  exact lv_astore_n hx hb hd rfl hl hn hq (fun ls hl => kk H locs ls hP hD hS hl)
theorem g_astore {i : Nat} {x : Nat} (cx : gC l X rm nL cc own Ts E) (hd : decode cc pc = .ok (.astore i, 2)) (hn : i < nL) (hq : (i, Value.ref x) :: lv.filter (fun q => !(q.1 == i) && !(q.1 + 1 == i && q.2.category == 2)) = lv') (kk : gG X k n ws (pc + 2) lv' rest) : gG X k n ws pc lv (.ref x :: rest) := by
  obtain ⟨p, l', e, R, s, m, args, below, meth, c, E', A, nL', Q⟩ := X
  obtain ⟨rfl, rfl, rfl, rfl, hx, hb, hml, hown, hts, hEV, hA⟩ := cx
  intro H locs ls hP hD hS hl
  exact lv_astore hx hb hd  hl hn hq (fun ls hl => kk H locs ls hP hD hS hl)
theorem g_lstore_n {i : Fin 4} {x : Int64} (cx : gC l X rm nL cc own Ts E) (hd : decode cc pc = .ok (.lstore_n i, 1)) (hn : (i : Nat) + 1 < nL) (hq : ((i : Nat), Value.long x) :: lv.filter (fun q => !(q.1 == (i : Nat)) && (!(q.1 == (i : Nat) + 1) && !(q.1 + 1 == (i : Nat) && q.2.category == 2))) = lv') (kk : gG X k n ws (pc + 1) lv' rest) : gG X k n ws pc lv (.long x :: rest) := by
  obtain ⟨p, l', e, R, s, m, args, below, meth, c, E', A, nL', Q⟩ := X
  obtain ⟨rfl, rfl, rfl, rfl, hx, hb, hml, hown, hts, hEV, hA⟩ := cx
  intro H locs ls hP hD hS hl
  exact lv_lstore_n hx hb hd rfl hl hn hq (fun ls hl => kk H locs ls hP hD hS hl)
theorem g_lstore {i : Nat} {x : Int64} (cx : gC l X rm nL cc own Ts E) (hd : decode cc pc = .ok (.lstore i, 2)) (hn : i + 1 < nL) (hq : (i, Value.long x) :: lv.filter (fun q => !(q.1 == i) && (!(q.1 == i + 1) && !(q.1 + 1 == i && q.2.category == 2))) = lv') (kk : gG X k n ws (pc + 2) lv' rest) : gG X k n ws pc lv (.long x :: rest) := by
  obtain ⟨p, l', e, R, s, m, args, below, meth, c, E', A, nL', Q⟩ := X
  obtain ⟨rfl, rfl, rfl, rfl, hx, hb, hml, hown, hts, hEV, hA⟩ := cx
  intro H locs ls hP hD hS hl
  exact lv_lstore hx hb hd  hl hn hq (fun ls hl => kk H locs ls hP hD hS hl)
theorem g_iinc {i : Nat} {d : Int} {x v : Int32} (cx : gC l X rm nL cc own Ts E) (hd : decode cc pc = .ok (.iinc i d, 3)) (q : Nat) (hk : lv[q]? = some (i, .int x)) (hv : x + Int32.ofInt d = v) (hn : i < nL) (hq : (i, Value.int v) :: lv.filter (fun q => !(q.1 == i) && !(q.1 + 1 == i && q.2.category == 2)) = lv') (kk : gG X k n ws (pc + 3) lv' rest) : gG X k n ws pc lv rest := by
  obtain ⟨p, l', e, R, s, m, args, below, meth, c, E', A, nL', Q⟩ := X
  obtain ⟨rfl, rfl, rfl, rfl, hx, hb, hml, hown, hts, hEV, hA⟩ := cx
  intro H locs ls hP hD hS hl
  exact lv_iinc hx hb hd hl (k := q) hk hv hn hq (fun ls hl => kk H locs ls hP hD hS hl)
theorem g_if_eq {x : Int32} {off : Int} {tgt : Nat} (cx : gC l X rm nL cc own Ts E) (hd : decode cc pc = .ok (.ifCond .eq off, 3)) (ht : (pc : Int) + off = (tgt : Int)) (kt : x = 0 → gG X k n ws tgt lv rest) (kf : ¬ (x = 0) → gG X k n ws (pc + 3) lv rest) : gG X k n ws pc lv (.int x :: rest) := by
  obtain ⟨p, l', e, R, s, m, args, below, meth, c, E', A, nL', Q⟩ := X
  obtain ⟨rfl, rfl, rfl, rfl, hx, hb, hml, hown, hts, hEV, hA⟩ := cx
  intro H locs ls hP hD hS hl
  exact lv_if_eq hx hb hd ht (fun h => kt h H locs ls hP hD hS hl) (fun h => kf h H locs ls hP hD hS hl)
theorem g_if_ne {x : Int32} {off : Int} {tgt : Nat} (cx : gC l X rm nL cc own Ts E) (hd : decode cc pc = .ok (.ifCond .ne off, 3)) (ht : (pc : Int) + off = (tgt : Int)) (kt : ¬ x = 0 → gG X k n ws tgt lv rest) (kf : x = 0 → gG X k n ws (pc + 3) lv rest) : gG X k n ws pc lv (.int x :: rest) := by
  obtain ⟨p, l', e, R, s, m, args, below, meth, c, E', A, nL', Q⟩ := X
  obtain ⟨rfl, rfl, rfl, rfl, hx, hb, hml, hown, hts, hEV, hA⟩ := cx
  intro H locs ls hP hD hS hl
  exact lv_if_ne hx hb hd ht (fun h => kt h H locs ls hP hD hS hl) (fun h => kf (by first | exact h | exact Decidable.of_not_not h) H locs ls hP hD hS hl)
theorem g_if_lt {x : Int32} {off : Int} {tgt : Nat} (cx : gC l X rm nL cc own Ts E) (hd : decode cc pc = .ok (.ifCond .lt off, 3)) (ht : (pc : Int) + off = (tgt : Int)) (kt : x < 0 → gG X k n ws tgt lv rest) (kf : ¬ (x < 0) → gG X k n ws (pc + 3) lv rest) : gG X k n ws pc lv (.int x :: rest) := by
  obtain ⟨p, l', e, R, s, m, args, below, meth, c, E', A, nL', Q⟩ := X
  obtain ⟨rfl, rfl, rfl, rfl, hx, hb, hml, hown, hts, hEV, hA⟩ := cx
  intro H locs ls hP hD hS hl
  exact lv_if_lt hx hb hd ht (fun h => kt h H locs ls hP hD hS hl) (fun h => kf h H locs ls hP hD hS hl)
theorem g_if_ge {x : Int32} {off : Int} {tgt : Nat} (cx : gC l X rm nL cc own Ts E) (hd : decode cc pc = .ok (.ifCond .ge off, 3)) (ht : (pc : Int) + off = (tgt : Int)) (kt : 0 ≤ x → gG X k n ws tgt lv rest) (kf : ¬ (0 ≤ x) → gG X k n ws (pc + 3) lv rest) : gG X k n ws pc lv (.int x :: rest) := by
  obtain ⟨p, l', e, R, s, m, args, below, meth, c, E', A, nL', Q⟩ := X
  obtain ⟨rfl, rfl, rfl, rfl, hx, hb, hml, hown, hts, hEV, hA⟩ := cx
  intro H locs ls hP hD hS hl
  exact lv_if_ge hx hb hd ht (fun h => kt h H locs ls hP hD hS hl) (fun h => kf h H locs ls hP hD hS hl)
theorem g_if_gt {x : Int32} {off : Int} {tgt : Nat} (cx : gC l X rm nL cc own Ts E) (hd : decode cc pc = .ok (.ifCond .gt off, 3)) (ht : (pc : Int) + off = (tgt : Int)) (kt : 0 < x → gG X k n ws tgt lv rest) (kf : ¬ (0 < x) → gG X k n ws (pc + 3) lv rest) : gG X k n ws pc lv (.int x :: rest) := by
  obtain ⟨p, l', e, R, s, m, args, below, meth, c, E', A, nL', Q⟩ := X
  obtain ⟨rfl, rfl, rfl, rfl, hx, hb, hml, hown, hts, hEV, hA⟩ := cx
  intro H locs ls hP hD hS hl
  exact lv_if_gt hx hb hd ht (fun h => kt h H locs ls hP hD hS hl) (fun h => kf h H locs ls hP hD hS hl)
theorem g_if_le {x : Int32} {off : Int} {tgt : Nat} (cx : gC l X rm nL cc own Ts E) (hd : decode cc pc = .ok (.ifCond .le off, 3)) (ht : (pc : Int) + off = (tgt : Int)) (kt : x ≤ 0 → gG X k n ws tgt lv rest) (kf : ¬ (x ≤ 0) → gG X k n ws (pc + 3) lv rest) : gG X k n ws pc lv (.int x :: rest) := by
  obtain ⟨p, l', e, R, s, m, args, below, meth, c, E', A, nL', Q⟩ := X
  obtain ⟨rfl, rfl, rfl, rfl, hx, hb, hml, hown, hts, hEV, hA⟩ := cx
  intro H locs ls hP hD hS hl
  exact lv_if_le hx hb hd ht (fun h => kt h H locs ls hP hD hS hl) (fun h => kf h H locs ls hP hD hS hl)
theorem g_icmp_eq {x y : Int32} {off : Int} {tgt : Nat} (cx : gC l X rm nL cc own Ts E) (hd : decode cc pc = .ok (.if_icmp .eq off, 3)) (ht : (pc : Int) + off = (tgt : Int)) (kt : x = y → gG X k n ws tgt lv rest) (kf : ¬ (x = y) → gG X k n ws (pc + 3) lv rest) : gG X k n ws pc lv (.int y :: .int x :: rest) := by
  obtain ⟨p, l', e, R, s, m, args, below, meth, c, E', A, nL', Q⟩ := X
  obtain ⟨rfl, rfl, rfl, rfl, hx, hb, hml, hown, hts, hEV, hA⟩ := cx
  intro H locs ls hP hD hS hl
  exact lv_icmp_eq hx hb hd ht (fun h => kt h H locs ls hP hD hS hl) (fun h => kf h H locs ls hP hD hS hl)
theorem g_icmp_ne {x y : Int32} {off : Int} {tgt : Nat} (cx : gC l X rm nL cc own Ts E) (hd : decode cc pc = .ok (.if_icmp .ne off, 3)) (ht : (pc : Int) + off = (tgt : Int)) (kt : ¬ x = y → gG X k n ws tgt lv rest) (kf : x = y → gG X k n ws (pc + 3) lv rest) : gG X k n ws pc lv (.int y :: .int x :: rest) := by
  obtain ⟨p, l', e, R, s, m, args, below, meth, c, E', A, nL', Q⟩ := X
  obtain ⟨rfl, rfl, rfl, rfl, hx, hb, hml, hown, hts, hEV, hA⟩ := cx
  intro H locs ls hP hD hS hl
  exact lv_icmp_ne hx hb hd ht (fun h => kt h H locs ls hP hD hS hl) (fun h => kf (by first | exact h | exact Decidable.of_not_not h) H locs ls hP hD hS hl)
theorem g_icmp_lt {x y : Int32} {off : Int} {tgt : Nat} (cx : gC l X rm nL cc own Ts E) (hd : decode cc pc = .ok (.if_icmp .lt off, 3)) (ht : (pc : Int) + off = (tgt : Int)) (kt : x < y → gG X k n ws tgt lv rest) (kf : ¬ (x < y) → gG X k n ws (pc + 3) lv rest) : gG X k n ws pc lv (.int y :: .int x :: rest) := by
  obtain ⟨p, l', e, R, s, m, args, below, meth, c, E', A, nL', Q⟩ := X
  obtain ⟨rfl, rfl, rfl, rfl, hx, hb, hml, hown, hts, hEV, hA⟩ := cx
  intro H locs ls hP hD hS hl
  exact lv_icmp_lt hx hb hd ht (fun h => kt h H locs ls hP hD hS hl) (fun h => kf h H locs ls hP hD hS hl)
theorem g_icmp_ge {x y : Int32} {off : Int} {tgt : Nat} (cx : gC l X rm nL cc own Ts E) (hd : decode cc pc = .ok (.if_icmp .ge off, 3)) (ht : (pc : Int) + off = (tgt : Int)) (kt : y ≤ x → gG X k n ws tgt lv rest) (kf : ¬ (y ≤ x) → gG X k n ws (pc + 3) lv rest) : gG X k n ws pc lv (.int y :: .int x :: rest) := by
  obtain ⟨p, l', e, R, s, m, args, below, meth, c, E', A, nL', Q⟩ := X
  obtain ⟨rfl, rfl, rfl, rfl, hx, hb, hml, hown, hts, hEV, hA⟩ := cx
  intro H locs ls hP hD hS hl
  exact lv_icmp_ge hx hb hd ht (fun h => kt h H locs ls hP hD hS hl) (fun h => kf h H locs ls hP hD hS hl)
theorem g_icmp_gt {x y : Int32} {off : Int} {tgt : Nat} (cx : gC l X rm nL cc own Ts E) (hd : decode cc pc = .ok (.if_icmp .gt off, 3)) (ht : (pc : Int) + off = (tgt : Int)) (kt : y < x → gG X k n ws tgt lv rest) (kf : ¬ (y < x) → gG X k n ws (pc + 3) lv rest) : gG X k n ws pc lv (.int y :: .int x :: rest) := by
  obtain ⟨p, l', e, R, s, m, args, below, meth, c, E', A, nL', Q⟩ := X
  obtain ⟨rfl, rfl, rfl, rfl, hx, hb, hml, hown, hts, hEV, hA⟩ := cx
  intro H locs ls hP hD hS hl
  exact lv_icmp_gt hx hb hd ht (fun h => kt h H locs ls hP hD hS hl) (fun h => kf h H locs ls hP hD hS hl)
theorem g_icmp_le {x y : Int32} {off : Int} {tgt : Nat} (cx : gC l X rm nL cc own Ts E) (hd : decode cc pc = .ok (.if_icmp .le off, 3)) (ht : (pc : Int) + off = (tgt : Int)) (kt : x ≤ y → gG X k n ws tgt lv rest) (kf : ¬ (x ≤ y) → gG X k n ws (pc + 3) lv rest) : gG X k n ws pc lv (.int y :: .int x :: rest) := by
  obtain ⟨p, l', e, R, s, m, args, below, meth, c, E', A, nL', Q⟩ := X
  obtain ⟨rfl, rfl, rfl, rfl, hx, hb, hml, hown, hts, hEV, hA⟩ := cx
  intro H locs ls hP hD hS hl
  exact lv_icmp_le hx hb hd ht (fun h => kt h H locs ls hP hD hS hl) (fun h => kf h H locs ls hP hD hS hl)
theorem g_lc_lt {x y : Int64} {off : Int} {tgt : Nat} (cx : gC l X rm nL cc own Ts E) (hd : decode cc pc = .ok (.lcmp, 1)) (hd2 : decode cc (pc + 1) = .ok (.ifCond .lt off, 3)) (ht : ((pc + 1 : Nat) : Int) + off = (tgt : Int)) (kt : x < y → gG X k n ws tgt lv rest) (kf : ¬ (x < y) → gG X k n ws (pc + 1 + 3) lv rest) : gG X k n ws pc lv (.long y :: .long x :: rest) :=
  g_lcmp cx hd (g_if_lt cx hd2 ht (fun h => kt ((lg_cmp_lt x y).mp h)) (fun h => kf (fun h2 => h ((lg_cmp_lt x y).mpr h2))))
theorem g_lc_ge {x y : Int64} {off : Int} {tgt : Nat} (cx : gC l X rm nL cc own Ts E) (hd : decode cc pc = .ok (.lcmp, 1)) (hd2 : decode cc (pc + 1) = .ok (.ifCond .ge off, 3)) (ht : ((pc + 1 : Nat) : Int) + off = (tgt : Int)) (kt : y ≤ x → gG X k n ws tgt lv rest) (kf : ¬ (y ≤ x) → gG X k n ws (pc + 1 + 3) lv rest) : gG X k n ws pc lv (.long y :: .long x :: rest) :=
  g_lcmp cx hd (g_if_ge cx hd2 ht (fun h => kt ((lg_cmp_ge x y).mp h)) (fun h => kf (fun h2 => h ((lg_cmp_ge x y).mpr h2))))
theorem g_lc_gt {x y : Int64} {off : Int} {tgt : Nat} (cx : gC l X rm nL cc own Ts E) (hd : decode cc pc = .ok (.lcmp, 1)) (hd2 : decode cc (pc + 1) = .ok (.ifCond .gt off, 3)) (ht : ((pc + 1 : Nat) : Int) + off = (tgt : Int)) (kt : y < x → gG X k n ws tgt lv rest) (kf : ¬ (y < x) → gG X k n ws (pc + 1 + 3) lv rest) : gG X k n ws pc lv (.long y :: .long x :: rest) :=
  g_lcmp cx hd (g_if_gt cx hd2 ht (fun h => kt ((lg_cmp_gt x y).mp h)) (fun h => kf (fun h2 => h ((lg_cmp_gt x y).mpr h2))))
theorem g_lc_le {x y : Int64} {off : Int} {tgt : Nat} (cx : gC l X rm nL cc own Ts E) (hd : decode cc pc = .ok (.lcmp, 1)) (hd2 : decode cc (pc + 1) = .ok (.ifCond .le off, 3)) (ht : ((pc + 1 : Nat) : Int) + off = (tgt : Int)) (kt : x ≤ y → gG X k n ws tgt lv rest) (kf : ¬ (x ≤ y) → gG X k n ws (pc + 1 + 3) lv rest) : gG X k n ws pc lv (.long y :: .long x :: rest) :=
  g_lcmp cx hd (g_if_le cx hd2 ht (fun h => kt ((lg_cmp_le x y).mp h)) (fun h => kf (fun h2 => h ((lg_cmp_le x y).mpr h2))))
theorem g_lc_eq {x y : Int64} {off : Int} {tgt : Nat} (cx : gC l X rm nL cc own Ts E) (hd : decode cc pc = .ok (.lcmp, 1)) (hd2 : decode cc (pc + 1) = .ok (.ifCond .eq off, 3)) (ht : ((pc + 1 : Nat) : Int) + off = (tgt : Int)) (kt : x = y → gG X k n ws tgt lv rest) (kf : ¬ (x = y) → gG X k n ws (pc + 1 + 3) lv rest) : gG X k n ws pc lv (.long y :: .long x :: rest) :=
  g_lcmp cx hd (g_if_eq cx hd2 ht (fun h => kt ((lg_cmp_eq x y).mp h)) (fun h => kf (fun h2 => h ((lg_cmp_eq x y).mpr h2))))
theorem g_lc_ne {x y : Int64} {off : Int} {tgt : Nat} (cx : gC l X rm nL cc own Ts E) (hd : decode cc pc = .ok (.lcmp, 1)) (hd2 : decode cc (pc + 1) = .ok (.ifCond .ne off, 3)) (ht : ((pc + 1 : Nat) : Int) + off = (tgt : Int)) (kt : ¬ x = y → gG X k n ws tgt lv rest) (kf : x = y → gG X k n ws (pc + 1 + 3) lv rest) : gG X k n ws pc lv (.long y :: .long x :: rest) :=
  g_lcmp cx hd (g_if_ne cx hd2 ht (fun h => kt (fun h2 => h ((lg_cmp_eq x y).mpr h2))) (fun h => kf ((lg_cmp_eq x y).mp h)))
theorem g_goto {off : Int} {tgt : Nat} (cx : gC l X rm nL cc own Ts E) (hd : decode cc pc = .ok (.goto off, 3)) (ht : (pc : Int) + off = (tgt : Int)) (kk : gG X k n ws tgt lv rest) : gG X k n ws pc lv rest := by
  obtain ⟨p, l', e, R, s, m, args, below, meth, c, E', A, nL', Q⟩ := X
  obtain ⟨rfl, rfl, rfl, rfl, hx, hb, hml, hown, hts, hEV, hA⟩ := cx
  intro H locs ls hP hD hS hl
  exact lv_goto hx hb hd ht (kk H locs ls hP hD hS hl)
theorem g_tsw {dflt lo hi : Int} {offs : Array Int} {len : Nat} {x : Int32} (cx : gC l X rm nL cc own Ts E) (hd : decode cc pc = .ok (.tableswitch dflt lo hi offs, len)) (tgt : Nat) (ht : (pc : Int) + dflt = (tgt : Int)) (hin : ∀ j : Nat, lo + j ≤ hi → x.toInt = lo + j → ∃ (off : Int) (t : Nat), offs[j]? = some off ∧ (pc : Int) + off = (t : Int) ∧ gG X k n ws t lv rest) (hout : (x.toInt < lo ∨ hi < x.toInt) → gG X k n ws tgt lv rest) : gG X k n ws pc lv (.int x :: rest) := by
  obtain ⟨p, l', e, R, s, m, args, below, meth, c, E', A, nL', Q⟩ := X
  obtain ⟨rfl, rfl, rfl, rfl, hx, hb, hml, hown, hts, hEV, hA⟩ := cx
  intro H locs ls hP hD hS hl
  by_cases h1 : x.toInt < lo
  · exact lv_tableOut hx hb hd (Or.inl h1) ht (hout (Or.inl h1) H locs ls hP hD hS hl)
  · by_cases h2 : hi < x.toInt
    · exact lv_tableOut hx hb hd (Or.inr h2) ht (hout (Or.inr h2) H locs ls hP hD hS hl)
    · obtain ⟨off, t, a1, a2, a3⟩ := hin (x.toInt - lo).toNat (by omega) (by omega)
      exact lv_tableIn hx hb hd h1 h2 a1 a2 (a3 H locs ls hP hD hS hl)
theorem g_get {C : String} {T : u_T} {N ci index a : Nat} {fs : List Value} {v : Value} (cx : gC l X rm nL cc own Ts E) (hin : ∀ w ∈ u_ws C T N, w ∈ Ts) (q0 kf : Nat) (he : ws[q0]? = some (a, .inr (ci, fs))) (hc : vwCl[ci]? = some (C, T, N)) (hk : kf < N) (hlink : Cond.fieldLink own index (T kf).1 (T kf).2.1 (T kf).2.2.1 ∈ Ts) (hv : fs[kf]? = some v) (hd : decode cc pc = .ok (.getfield index, 3)) (kk : gG X k n ws (pc + 3) lv (v :: rest)) : gG X k n ws pc lv (.ref a :: rest) := by
  obtain ⟨p, l', e, R, s, m, args, below, meth, c, E', A, nL', Q⟩ := X
  obtain ⟨rfl, rfl, rfl, rfl, hx, hb, hml, hown, hts, hEV, hA⟩ := cx
  intro H locs ls hP hD hS hl
  exact va_get hx hb hts hin hown hEV.1 hP q0 he hc kf hk (hts _ hlink) (fun _ h9 => h9) hv hd (kk H locs ls hP hD hS hl)
theorem g_put {C : String} {T : u_T} {N ci index a : Nat} {fs : List Value} {v : Value} {ws' : va_W} (cx : gC l X rm nL cc own Ts E) (hin : ∀ w ∈ u_ws C T N, w ∈ Ts) (ty0 : Nat → FieldType) (hty : ∀ k, k < N → parseFieldDescriptor (T k).2.2.1 = some (ty0 k)) (hnm : ∀ a, a < N → ∀ b, b < N → a ≠ b → (T a).2.1 ≠ (T b).2.1) (q0 kf : Nat) (he : ws[q0]? = some (a, .inr (ci, fs))) (hc : vwCl[ci]? = some (C, T, N)) (hk : kf < N) (hlink : Cond.fieldLink own index (T kf).1 (T kf).2.1 (T kf).2.2.1 ∈ Ts) (hfin : (T kf).2.2.2 = false) (hnar : narrow (ty0 kf) v = v) (hfit : fits (ty0 kf) v = true) (hlen : kf < fs.length) (hd : decode cc pc = .ok (.putfield index, 3)) (hws : ws.set q0 (a, .inr (ci, fs.set kf v)) = ws') (kk : gG X k n ws' (pc + 3) lv rest) : gG X k n ws pc lv (v :: .ref a :: rest) := by
  obtain ⟨p, l', e, R, s, m, args, below, meth, c, E', A, nL', Q⟩ := X
  obtain ⟨rfl, rfl, rfl, rfl, hx, hb, hml, hown, hts, hEV, hA⟩ := cx
  intro H locs ls hP hD hS hl
  subst hws
  exact va_put hx hb hts hin ty0 hty hnm hown hEV.1 hP hD hS q0 he hc kf hk (hts _ hlink) (fun _ h9 => h9) hfin (hty kf hk) hnar hfit hlen hd (fun H locs hP hD hS => kk H locs ls hP hD hS hl)
theorem g_putF {C : String} {T : u_T} {N ci index a : Nat} {fs : List Value} {v : Value} {ws' : va_W} (cx : gC l X rm nL cc own Ts E) (hI : gIn X) (hin : ∀ w ∈ u_ws C T N, w ∈ Ts) (ty0 : Nat → FieldType) (hty : ∀ k, k < N → parseFieldDescriptor (T k).2.2.1 = some (ty0 k)) (hnm : ∀ a, a < N → ∀ b, b < N → a ≠ b → (T a).2.1 ≠ (T b).2.1) (q0 kf : Nat) (he : ws[q0]? = some (a, .inr (ci, fs))) (hc : vwCl[ci]? = some (C, T, N)) (hk : kf < N) (hlink : Cond.fieldLink own index (T kf).1 (T kf).2.1 (T kf).2.2.1 ∈ Ts) (hfin : (T kf).2.2.2 = true) (hfo : (T kf).1 = own) (hnar : narrow (ty0 kf) v = v) (hfit : fits (ty0 kf) v = true) (hlen : kf < fs.length) (hd : decode cc pc = .ok (.putfield index, 3)) (hws : ws.set q0 (a, .inr (ci, fs.set kf v)) = ws') (kk : gG X k n ws' (pc + 3) lv rest) : gG X k n ws pc lv (v :: .ref a :: rest) := by
  obtain ⟨p, l', e, R, s, m, args, below, meth, c, E', A, nL', Q⟩ := X
  obtain ⟨rfl, rfl, rfl, rfl, hx, hb, hml, hown, hts, hEV, hA⟩ := cx
  intro H locs ls hP hD hS hl
  subst hws
  exact va_putF hx hb hts hin ty0 hty hnm hown hEV.1 hP hD hS q0 he hc kf hk (hts _ hlink) (fun _ h9 => h9) hfin hI hfo (hty kf hk) hnar hfit hlen hd (fun H locs hP hD hS => kk H locs ls hP hD hS hl)
theorem g_iald {cA : ClassId} {N a : Nat} {f : Nat → Int32} {i : Int32} (cx : gC l X rm nL cc own Ts E) (q0 : Nat) (ha : ws[q0]? = some (a, .inl (cA, N, .inl f))) (ht : (gty E)[0]? = some (cA, .int)) (hin : vp_in i N) (hd : decode cc pc = .ok (.iaload, 1)) (kk : gG X k n ws (pc + 1) lv (.int (f i.toNatClampNeg) :: rest)) : gG X k n ws pc lv (.int i :: .ref a :: rest) := by
  obtain ⟨p, l', e, R, s, m, args, below, meth, c, E', A, nL', Q⟩ := X
  obtain ⟨rfl, rfl, rfl, rfl, hx, hb, hml, hown, hts, hEV, hA⟩ := cx
  intro H locs ls hP hD hS hl
  exact va_iald hx hb hEV.1 hP q0 0 ha ht hin hd (kk H locs ls hP hD hS hl)
theorem g_lald {cA : ClassId} {N a : Nat} {f : Nat → Int64} {i : Int32} (cx : gC l X rm nL cc own Ts E) (q0 : Nat) (ha : ws[q0]? = some (a, .inl (cA, N, .inr (.inl f)))) (ht : (gty E)[1]? = some (cA, .long)) (hin : vp_in i N) (hd : decode cc pc = .ok (.laload, 1)) (kk : gG X k n ws (pc + 1) lv (.long (f i.toNatClampNeg) :: rest)) : gG X k n ws pc lv (.int i :: .ref a :: rest) := by
  obtain ⟨p, l', e, R, s, m, args, below, meth, c, E', A, nL', Q⟩ := X
  obtain ⟨rfl, rfl, rfl, rfl, hx, hb, hml, hown, hts, hEV, hA⟩ := cx
  intro H locs ls hP hD hS hl
  exact va_lald hx hb hEV.1 hP q0 1 ha ht hin hd (kk H locs ls hP hD hS hl)
theorem g_iast {cA : ClassId} {N a : Nat} {f : Nat → Int32} {i : Int32} {x : Int32} {ws' : va_W} (cx : gC l X rm nL cc own Ts E) (q0 : Nat) (ha : ws[q0]? = some (a, .inl (cA, N, .inl f))) (ht : (gty E)[0]? = some (cA, .int)) (hin : vp_in i N) (hd : decode cc pc = .ok (.iastore, 1)) (hws : ws.set q0 (a, .inl (cA, N, .inl (upd f i.toNatClampNeg x))) = ws') (kk : gG X k n ws' (pc + 1) lv rest) : gG X k n ws pc lv (.int x :: .int i :: .ref a :: rest) := by
  obtain ⟨p, l', e, R, s, m, args, below, meth, c, E', A, nL', Q⟩ := X
  obtain ⟨rfl, rfl, rfl, rfl, hx, hb, hml, hown, hts, hEV, hA⟩ := cx
  intro H locs ls hP hD hS hl
  subst hws
  exact va_iast hx hb hEV.1 hP hD hS q0 0 ha ht hin hd (fun H locs hP hD hS => kk H locs ls hP hD hS hl)
theorem g_last {cA : ClassId} {N a : Nat} {f : Nat → Int64} {i : Int32} {x : Int64} {ws' : va_W} (cx : gC l X rm nL cc own Ts E) (q0 : Nat) (ha : ws[q0]? = some (a, .inl (cA, N, .inr (.inl f)))) (ht : (gty E)[1]? = some (cA, .long)) (hin : vp_in i N) (hd : decode cc pc = .ok (.lastore, 1)) (hws : ws.set q0 (a, .inl (cA, N, .inr (.inl (vp_updL f i.toNatClampNeg x)))) = ws') (kk : gG X k n ws' (pc + 1) lv rest) : gG X k n ws pc lv (.long x :: .int i :: .ref a :: rest) := by
  obtain ⟨p, l', e, R, s, m, args, below, meth, c, E', A, nL', Q⟩ := X
  obtain ⟨rfl, rfl, rfl, rfl, hx, hb, hml, hown, hts, hEV, hA⟩ := cx
  intro H locs ls hP hD hS hl
  subst hws
  exact va_last hx hb hEV.1 hP hD hS q0 1 ha ht hin hd (fun H locs hP hD hS => kk H locs ls hP hD hS hl)
theorem g_alen {cA : ClassId} {a : Nat} {x : vp_A} {ty : FieldType} {v : Int32} (cx : gC l X rm nL cc own Ts E) (q0 t0 : Nat) (ha : ws[q0]? = some (a, .inl (cA, x))) (ht : (gty E)[t0]? = some (cA, ty)) (hv : Int32.ofNat x.1 = v) (hd : decode cc pc = .ok (.arraylength, 1)) (kk : gG X k n ws (pc + 1) lv (.int v :: rest)) : gG X k n ws pc lv (.ref a :: rest) := by
  obtain ⟨p, l', e, R, s, m, args, below, meth, c, E', A, nL', Q⟩ := X
  obtain ⟨rfl, rfl, rfl, rfl, hx, hb, hml, hown, hts, hEV, hA⟩ := cx
  intro H locs ls hP hD hS hl
  exact va_alen hx hb hEV.1 hP q0 t0 ha ht hv hd (kk H locs ls hP hD hS hl)
theorem g_aald {cA : ClassId} {N a : Nat} {f : Nat → Option Nat} {i : Int32} {v : Nat} (cx : gC l X rm nL cc own Ts E) (q0 : Nat) (ha : ws[q0]? = some (a, .inl (cA, N, .inr (.inr (.inr (.inr f)))))) (ht : (gty E)[2]? = some (cA, .object RX1)) (hin : vp_in i N) (hv : f i.toNatClampNeg = some v) (hd : decode cc pc = .ok (.aaload, 1)) (kk : gG X k n ws (pc + 1) lv (.ref v :: rest)) : gG X k n ws pc lv (.int i :: .ref a :: rest) := by
  obtain ⟨p, l', e, R, s, m, args, below, meth, c, E', A, nL', Q⟩ := X
  obtain ⟨rfl, rfl, rfl, rfl, hx, hb, hml, hown, hts, hEV, hA⟩ := cx
  intro H locs ls hP hD hS hl
  refine va_aldq hx hb hEV.1 hP q0 2 ha ht hin hd ?_
  rw [hv]
  exact kk H locs ls hP hD hS hl
theorem g_mmax {index : Nat} {x y : Int32} (cx : gC l X rm nL cc own Ts E) (hm : ∀ w ∈ [Cond.methodLink own index Lib.Math.max.name, Cond.static Lib.Math.max.name, Cond.initialized "java/lang/Math", Cond.code Lib.Math.max.name Lib.Math.max.code 2 (some .int)], w ∈ Ts) (hf : 1 ≤ rm.frames) (hlo : (rest.map fun v => v.category).sum + 13 ≤ rm.locals) (hc : k ≤ rm.cells) (hs : n ≤ rm.slots) (hd : decode cc pc = .ok (.invokestatic index, 3)) (kk : gG X k n ws (pc + 3) lv (.int (if x < y then y else x) :: rest)) : gG X k n ws pc lv (.int y :: .int x :: rest) := by
  obtain ⟨p, l', e, R, s, m, args, below, meth, c, E', A, nL', Q⟩ := X
  obtain ⟨rfl, rfl, rfl, rfl, hx, hb, hml, hown, hts, hEV, hA⟩ := cx
  intro H locs ls hP hD hS hl
  exact va_mmax hx hb (hml.trans hl.1.symm) hown (hts _ (hm _ (by simp))) (hts _ (hm _ (by simp))) (hts _ (hm _ (by simp))) (hts _ (hm _ (by simp))) hf hlo hc hs hd (kk H locs ls hP hD hS hl)
theorem g_mmin {index : Nat} {x y : Int32} (cx : gC l X rm nL cc own Ts E) (hm : ∀ w ∈ [Cond.methodLink own index Lib.Math.min.name, Cond.static Lib.Math.min.name, Cond.initialized "java/lang/Math", Cond.code Lib.Math.min.name Lib.Math.min.code 2 (some .int)], w ∈ Ts) (hf : 1 ≤ rm.frames) (hlo : (rest.map fun v => v.category).sum + 13 ≤ rm.locals) (hc : k ≤ rm.cells) (hs : n ≤ rm.slots) (hd : decode cc pc = .ok (.invokestatic index, 3)) (kk : gG X k n ws (pc + 3) lv (.int (if y < x then y else x) :: rest)) : gG X k n ws pc lv (.int y :: .int x :: rest) := by
  obtain ⟨p, l', e, R, s, m, args, below, meth, c, E', A, nL', Q⟩ := X
  obtain ⟨rfl, rfl, rfl, rfl, hx, hb, hml, hown, hts, hEV, hA⟩ := cx
  intro H locs ls hP hD hS hl
  exact va_mmin hx hb (hml.trans hl.1.symm) hown (hts _ (hm _ (by simp))) (hts _ (hm _ (by simp))) (hts _ (hm _ (by simp))) (hts _ (hm _ (by simp))) hf hlo hc hs hd (kk H locs ls hP hD hS hl)
theorem g_new {C : String} {T : u_T} {N ci index : Nat} {fs : List Value} (cx : gC l X rm nL cc own Ts E) (hin : ∀ w ∈ u_ws C T N, w ∈ Ts) (ty0 : Nat → FieldType) (hty : ∀ k, k < N → parseFieldDescriptor (T k).2.2.1 = some (ty0 k)) (hm : ∀ w ∈ [Cond.classLink own index C, Cond.instantiable C N, Cond.initialized C], w ∈ Ts) (hc : vwCl[ci]? = some (C, T, N)) (hfs : ∀ j, j < N → defaultValue (ty0 j) = vp_V fs j) (hcells : k + 1 ≤ rm.cells) (hslots : n + N ≤ rm.slots) (hd : decode cc pc = .ok (.new index, 3)) (kk : ∀ q, gG X (k + 1) (n + N) (ws ++ [(q, .inr (ci, fs))]) (pc + 3) lv (.ref q :: rest)) : gG X k n ws pc lv rest := by
  obtain ⟨p, l', e, R, s, m, args, below, meth, c, E', A, nL', Q⟩ := X
  obtain ⟨rfl, rfl, rfl, rfl, hx, hb, hml, hown, hts, hEV, hA⟩ := cx
  intro H locs ls hP hD hS hl
  exact va_new hx hb hts hin ty0 hty hown (hts _ (hm _ (by simp))) (hts _ (hm _ (by simp))) (hts _ (hm _ (by simp))) hEV.1 hP hD hS hA hc hfs hcells hslots hd (fun q H1 hP hD hS => kk q H1 locs ls hP hD hS hl)
theorem g_newI {i : Int32} {N' : Nat} (cx : gC l X rm nL cc own Ts E) (harr : Cond.arrayClass .int ∈ Ts) (hn : ¬ i < 0) (hN : i.toNatClampNeg = N') (hby : N' * 4 ≤ 536870912) (hcells : k + 1 ≤ rm.cells) (hslots : n + N' ≤ rm.slots) (hd : decode cc pc = .ok (.newarray .int, 2)) (kk : ∀ q, gG X (k + 1) (n + N') (ws ++ [(q, .inl (gI E, N', .inl (fun _ => 0)))]) (pc + 2) lv (.ref q :: rest)) : gG X k n ws pc lv (.int i :: rest) := by
  obtain ⟨p, l', e, R, s, m, args, below, meth, c, E', A, nL', Q⟩ := X
  obtain ⟨rfl, rfl, rfl, rfl, hx, hb, hml, hown, hts, hEV, hA⟩ := cx
  intro H locs ls hP hD hS hl
  refine va_newa (atype := .int) (ty := .int) (a0 := (N', .inl (fun _ => 0))) hx hb (hts _ harr) rfl hEV.1 hP hD hS hA (fun cA => rfl) hn hN hby hcells hslots hd (fun q cA H1 hK1 hP1 hD1 hS1 => ?_)
  have h1 : s.vm.findClass ("[" ++ FieldType.toString .int) = some cA := (hK1.2 3 (cA, .int) rfl).2
  have h2 : s.vm.findClass ("[" ++ FieldType.toString .int) = some (gI E') := (hEV.1.2 0 (gI E', .int) rfl).2
  have h3 : cA = gI E' := Option.some.inj (h1.symm.trans h2)
  subst h3
  exact kk q H1 locs ls hP1 hD1 hS1 hl
theorem g_newJ {i : Int32} {N' : Nat} (cx : gC l X rm nL cc own Ts E) (harr : Cond.arrayClass .long ∈ Ts) (hn : ¬ i < 0) (hN : i.toNatClampNeg = N') (hby : N' * 8 ≤ 536870912) (hcells : k + 1 ≤ rm.cells) (hslots : n + N' ≤ rm.slots) (hd : decode cc pc = .ok (.newarray .long, 2)) (kk : ∀ q, gG X (k + 1) (n + N') (ws ++ [(q, .inl (gJ E, N', .inr (.inl (fun _ => 0))))]) (pc + 2) lv (.ref q :: rest)) : gG X k n ws pc lv (.int i :: rest) := by
  obtain ⟨p, l', e, R, s, m, args, below, meth, c, E', A, nL', Q⟩ := X
  obtain ⟨rfl, rfl, rfl, rfl, hx, hb, hml, hown, hts, hEV, hA⟩ := cx
  intro H locs ls hP hD hS hl
  refine va_newa (atype := .long) (ty := .long) (a0 := (N', .inr (.inl (fun _ => 0)))) hx hb (hts _ harr) rfl hEV.1 hP hD hS hA (fun cA => rfl) hn hN hby hcells hslots hd (fun q cA H1 hK1 hP1 hD1 hS1 => ?_)
  have h1 : s.vm.findClass ("[" ++ FieldType.toString .long) = some cA := (hK1.2 3 (cA, .long) rfl).2
  have h2 : s.vm.findClass ("[" ++ FieldType.toString .long) = some (gJ E') := (hEV.1.2 1 (gJ E', .long) rfl).2
  have h3 : cA = gJ E' := Option.some.inj (h1.symm.trans h2)
  subst h3
  exact kk q H1 locs ls hP1 hD1 hS1 hl
theorem g_newS {i : Int32} {N' index : Nat} (cx : gC l X rm nL cc own Ts E) (hm : Cond.classLink own index RX1 ∈ Ts) (hn : ¬ i < 0) (hN : i.toNatClampNeg = N') (hby : N' * 4 ≤ 536870912) (hcells : k + 1 ≤ rm.cells) (hslots : n + N' ≤ rm.slots) (hd : decode cc pc = .ok (.anewarray index, 3)) (kk : ∀ q, gG X (k + 1) (n + N') (ws ++ [(q, .inl (gO E, N', .inr (.inr (.inr (.inr (fun _ => none))))))]) (pc + 3) lv (.ref q :: rest)) : gG X k n ws pc lv (.int i :: rest) := by
  obtain ⟨p, l', e, R, s, m, args, below, meth, c, E', A, nL', Q⟩ := X
  obtain ⟨rfl, rfl, rfl, rfl, hx, hb, hml, hown, hts, hEV, hA⟩ := cx
  intro H locs ls hP hD hS hl
  refine va_newq hx hb hown (hts _ hm) hEV.2.2.2.2.2.2 hEV.1 hP hD hS hA hn hN hby hcells hslots hd (fun q cA H1 hK1 hP1 hD1 hS1 => ?_)
  obtain ⟨_, _, _, _, _, h1⟩ := (hK1.2 3 (cA, .object RX1) rfl).2
  obtain ⟨_, _, _, _, _, h2⟩ := (hEV.1.2 2 (gO E', .object RX1) rfl).2
  have h3 : cA = gO E' := Option.some.inj (h1.symm.trans h2)
  subst h3
  exact kk q H1 locs ls hP1 hD1 hS1 hl
theorem g_aast {N a v ci qk : Nat} {r : vw_C} {vs : List Value} {f : Nat → Option Nat} {i : Int32} {ws' : va_W} (cx : gC l X rm nL cc own Ts E) (q0 : Nat) (ha : ws[q0]? = some (a, .inl (gO E, N, .inr (.inr (.inr (.inr f)))))) (hr : r.1 = RX1) (hv : ws[qk]? = some (v, .inr (ci, vs))) (hc : vwCl[ci]? = some r) (hin : vp_in i N) (hd : decode cc pc = .ok (.aastore, 1)) (hws : ws.set q0 (a, .inl (gO E, N, .inr (.inr (.inr (.inr (va_up f i.toNatClampNeg (some v))))))) = ws') (kk : gG X k n ws' (pc + 1) lv rest) : gG X k n ws pc lv (.ref v :: .int i :: .ref a :: rest) := by
  obtain ⟨p, l', e, R, s, m, args, below, meth, c, E', A, nL', Q⟩ := X
  obtain ⟨rfl, rfl, rfl, rfl, hx, hb, hml, hown, hts, hEV, hA⟩ := cx
  intro H locs ls hP hD hS hl
  subst hws
  exact va_astq hx hb hEV.1 hP hD hS q0 2 qk ci ha (by rw [hr]; rfl) hv hc hin hd (fun H locs hP hD hS => kk H locs ls hP hD hS hl)
theorem g_oinit {index a : Nat} (cx : gC l X rm nL cc own Ts E) (hm : ∀ w ∈ [Cond.methodLink own index objectInit, Cond.instanceMethod objectInit], w ∈ Ts) (hmc : Cond.code objectInit ⟨#[0xb1]⟩ 1 none ∈ Ts) (hf : 1 ≤ rm.frames) (hlo : (rest.map fun v => v.category).sum + 12 ≤ rm.locals) (hd : decode cc pc = .ok (.invokespecial index, 3)) (kk : gG X k n ws (pc + 3) lv rest) : gG X k n ws pc lv (.ref a :: rest) := by
  obtain ⟨p, l', e, R, s, m, args, below, meth, c, E', A, nL', Q⟩ := X
  obtain ⟨rfl, rfl, rfl, rfl, hx, hb, hml, hown, hts, hEV, hA⟩ := cx
  intro H locs ls hP hD hS hl
  exact W.objInit hx hb hown (hts _ (hm _ (by simp))) (hts _ (hm _ (by simp))) (hts _ hmc) rfl (by rw [hml]; exact hl.1) rfl hd hf (by simpa [JFrame.monitorRoom] using hlo) (kk H locs ls hP hD hS hl)
theorem g_copyI {index a0 a N0 N1 : Nat} {f g : Nat → Int32} {sp dp nn : Int32} {ws' : va_W} (cx : gC l X rm nL cc own Ts E) (hm : ∀ w ∈ [Cond.methodLink own index arraycopyName, Cond.native arraycopyName, Cond.static arraycopyName, Cond.initialized "java/lang/System"], w ∈ Ts) (q0 q1 : Nat) (h0 : ws[q0]? = some (a0, .inl (gI E, N0, .inl f))) (h1 : ws[q1]? = some (a, .inl (gI E, N1, .inl g))) (c1 : ¬ sp < 0) (c2 : ¬ dp < 0) (c3 : ¬ nn < 0) (c4 : sp.toNatClampNeg + nn.toNatClampNeg ≤ N0) (c5 : dp.toNatClampNeg + nn.toNatClampNeg ≤ N1) (hf : 1 ≤ rm.frames) (hlo : (rest.map fun v => v.category).sum + (nativeFrameWords "java/lang/System" "arraycopy" 5 + 11) ≤ rm.locals) (hd : decode cc pc = .ok (.invokestatic index, 3)) (hws : ws.set q1 (a, .inl (gI E, N1, .inl (va_cpy f g sp.toNatClampNeg dp.toNatClampNeg nn.toNatClampNeg))) = ws') (kk : gG X k n ws' (pc + 3) lv rest) : gG X k n ws pc lv (.int nn :: .int dp :: .ref a :: .int sp :: .ref a0 :: rest) := by
  obtain ⟨p, l', e, R, s, m, args, below, meth, c, E', A, nL', Q⟩ := X
  obtain ⟨rfl, rfl, rfl, rfl, hx, hb, hml, hown, hts, hEV, hA⟩ := cx
  intro H locs ls hP hD hS hl
  subst hws
  exact va_copyi (ty := .int) hx hb (hml.trans hl.1.symm) hown (hts _ (hm _ (by simp))) (hts _ (hm _ (by simp))) (hts _ (hm _ (by simp))) (hts _ (hm _ (by simp))) hEV.1 hP hD hS q0 q1 0 0 h0 h1 rfl rfl rfl c1 c2 c3 c4 c5 (fun _ _ => rfl) hf hlo hd (fun H locs hP hD hS => kk H locs ls hP hD hS hl)
theorem g_copyL {index a0 a N0 N1 : Nat} {f g : Nat → Int64} {sp dp nn : Int32} {ws' : va_W} (cx : gC l X rm nL cc own Ts E) (hm : ∀ w ∈ [Cond.methodLink own index arraycopyName, Cond.native arraycopyName, Cond.static arraycopyName, Cond.initialized "java/lang/System"], w ∈ Ts) (q0 q1 : Nat) (h0 : ws[q0]? = some (a0, .inl (gJ E, N0, .inr (.inl f)))) (h1 : ws[q1]? = some (a, .inl (gJ E, N1, .inr (.inl g)))) (c1 : ¬ sp < 0) (c2 : ¬ dp < 0) (c3 : ¬ nn < 0) (c4 : sp.toNatClampNeg + nn.toNatClampNeg ≤ N0) (c5 : dp.toNatClampNeg + nn.toNatClampNeg ≤ N1) (hf : 1 ≤ rm.frames) (hlo : (rest.map fun v => v.category).sum + (nativeFrameWords "java/lang/System" "arraycopy" 5 + 11) ≤ rm.locals) (hd : decode cc pc = .ok (.invokestatic index, 3)) (hws : ws.set q1 (a, .inl (gJ E, N1, .inr (.inl (va_cpy f g sp.toNatClampNeg dp.toNatClampNeg nn.toNatClampNeg)))) = ws') (kk : gG X k n ws' (pc + 3) lv rest) : gG X k n ws pc lv (.int nn :: .int dp :: .ref a :: .int sp :: .ref a0 :: rest) := by
  obtain ⟨p, l', e, R, s, m, args, below, meth, c, E', A, nL', Q⟩ := X
  obtain ⟨rfl, rfl, rfl, rfl, hx, hb, hml, hown, hts, hEV, hA⟩ := cx
  intro H locs ls hP hD hS hl
  subst hws
  exact va_copyl (ty := .long) hx hb (hml.trans hl.1.symm) hown (hts _ (hm _ (by simp))) (hts _ (hm _ (by simp))) (hts _ (hm _ (by simp))) (hts _ (hm _ (by simp))) hEV.1 hP hD hS q0 q1 1 1 h0 h1 rfl rfl rfl c1 c2 c3 c4 c5 (fun _ _ => rfl) hf hlo hd (fun H locs hP hD hS => kk H locs ls hP hD hS hl)
theorem g_fm {α : Type} {f : Nat → Option α} {is : List Nat} {wc : List α} (h : is.map f = wc.map some) : is.filterMap f = wc := by
  have h2 := congrArg (List.filterMap id) h
  rw [List.filterMap_map, List.filterMap_map] at h2
  simpa using h2
theorem g_ws {ws' : va_W} (is : List Nat) (hs : is.map (fun i => ws[i]?) = ws'.map some) (hn : va_nd is = true) (kk : gG X k n ws' pc lv st) : gG X k n ws pc lv st := by
  obtain ⟨p, l', e, R, s, m, args, below, meth, c, E', A, nL', Q⟩ := X
  intro H locs ls hP hD hS hl
  exact kk H locs ls (hP.sub is (g_fm hs)) (hD.sub is hn hs) hS hl
theorem g_lv (ks : List Nat) (h : lv_pick lv ks = lv') (kk : gG X k n ws pc lv' st) : gG X k n ws pc lv st := by
  obtain ⟨p, l', e, R, s, m, args, below, meth, c, E', A, nL', Q⟩ := X
  intro H locs ls hP hD hS hl
  exact kk H locs ls hP hD hS (lv_sub hl ks h)
theorem g_wd {k' n' : Nat} (h1 : k ≤ k') (h2 : n ≤ n') (kk : gG X k' n' ws pc lv st) : gG X k n ws pc lv st := by
  obtain ⟨p, l', e, R, s, m, args, below, meth, c, E', A, nL', Q⟩ := X
  intro H locs ls hP hD hS hl
  exact W.widen h1 h2 (kk H locs ls hP hD hS hl)
theorem arrV_cong {cI : ClassId} {N : Nat} {f g : Nat → Value} (h : ∀ j, j < N → f j = g j) : arrV cI N f = arrV cI N g := by
  unfold arrV
  congr 1
  exact congrArg (Array.ofFn (n := N)) (funext fun j => h j.val j.isLt)
theorem g_set {ws' : va_W} {a q0 : Nat} {e0 e1 : va_E} (he : ws[q0]? = some (a, e0)) (hc : ∀ (D : va_G) (H : Heap), va_at D vwCl (a, e0) H → va_at D vwCl (a, e1) H) (hws : ws.set q0 (a, e1) = ws') (kk : gG X k n ws' pc lv st) : gG X k n ws pc lv st := by
  subst hws
  obtain ⟨p, l', e, R, s, m, args, below, meth, c, E', A, nL', Q⟩ := X
  intro H locs ls hP hD hS hl
  exact kk H locs ls (hP.set hD he (hc _ _ (hP q0 _ he)) (fun _ _ => rfl)) (hD.set he) hS hl
theorem g_cgI {ws' : va_W} {cA : ClassId} {N a : Nat} {f g : Nat → Int32} (q0 : Nat) (he : ws[q0]? = some (a, .inl (cA, N, .inl f))) (hfg : ∀ j, j < N → f j = g j) (hws : ws.set q0 (a, .inl (cA, N, .inl g)) = ws') (kk : gG X k n ws' pc lv st) : gG X k n ws pc lv st := by
  refine g_set he (fun D H h => ?_) hws kk
  have h : H[a]? = some (arrV cA N (fun j => .int (f j))) := h
  show H[a]? = some (arrV cA N (fun j => .int (g j)))
  rw [h, arrV_cong (fun j hj => by rw [hfg j hj])]
theorem g_cgL {ws' : va_W} {cA : ClassId} {N a : Nat} {f g : Nat → Int64} (q0 : Nat) (he : ws[q0]? = some (a, .inl (cA, N, .inr (.inl f)))) (hfg : ∀ j, j < N → f j = g j) (hws : ws.set q0 (a, .inl (cA, N, .inr (.inl g))) = ws') (kk : gG X k n ws' pc lv st) : gG X k n ws pc lv st := by
  refine g_set he (fun D H h => ?_) hws kk
  have h : H[a]? = some (arrV cA N (fun j => .long (f j))) := h
  show H[a]? = some (arrV cA N (fun j => .long (g j)))
  rw [h, arrV_cong (fun j hj => by rw [hfg j hj])]
theorem g_iret {post : Int32 → va_W → Prop} {w0 : va_W} {v : Int32} (cx : gC l X rm nL cc own Ts E) (gr : gRi X (some .int) rm E w0 post) (hk : k ≤ rm.cells) (hn : n ≤ rm.slots) (hd : decode cc pc = .ok (.ireturn, 1)) (hp : post v ws) : gG X k n ws pc lv [.int v] := by
  obtain ⟨p, l', e, R, s, m, args, below, meth, c, E', A, nL', Q⟩ := X
  obtain ⟨rfl, rfl, rfl, rfl, hx, hb, hml, hown, hts, hEV, hA⟩ := cx
  obtain ⟨rfl, rfl, hr, hlocks⟩ := gr
  intro H locs ls hP hD hS hl
  refine W.widen hk hn ?_
  exact W.iret (v := v) hx hb hr (fun t ht hW => ⟨⟨v, ws, rfl, hp, by rw [ht]; exact hP, hD⟩, hS.F ht⟩) hS.2.2 hd hlocks
theorem g_zret {post : Int32 → va_W → Prop} {w0 : va_W} {v : Int32} {ty : FieldType} (cx : gC l X rm nL cc own Ts E) (gr : gRi X (some ty) rm E w0 post) (hnar : narrow ty (.int v) = .int v) (hk : k ≤ rm.cells) (hn : n ≤ rm.slots) (hd : decode cc pc = .ok (.ireturn, 1)) (hp : post v ws) : gG X k n ws pc lv [.int v] := by
  obtain ⟨p, l', e, R, s, m, args, below, meth, c, E', A, nL', Q⟩ := X
  obtain ⟨rfl, rfl, rfl, rfl, hx, hb, hml, hown, hts, hEV, hA⟩ := cx
  obtain ⟨rfl, rfl, hr, hlocks⟩ := gr
  intro H locs ls hP hD hS hl
  refine W.widen hk hn ?_
  exact W.zret (v := v) hx hb hr hnar (fun t ht hW => ⟨⟨v, ws, rfl, hp, by rw [ht]; exact hP, hD⟩, hS.F ht⟩) hS.2.2 hd hlocks
theorem g_lret {post : Int64 → va_W → Prop} {w0 : va_W} {v : Int64} (cx : gC l X rm nL cc own Ts E) (gr : gRl X (some .long) rm E w0 post) (hk : k ≤ rm.cells) (hn : n ≤ rm.slots) (hd : decode cc pc = .ok (.lreturn, 1)) (hp : post v ws) : gG X k n ws pc lv [.long v] := by
  obtain ⟨p, l', e, R, s, m, args, below, meth, c, E', A, nL', Q⟩ := X
  obtain ⟨rfl, rfl, rfl, rfl, hx, hb, hml, hown, hts, hEV, hA⟩ := cx
  obtain ⟨rfl, rfl, hr, hlocks⟩ := gr
  intro H locs ls hP hD hS hl
  refine W.widen hk hn ?_
  exact W.lret (v := v) hx hb hr (fun t ht hW => ⟨⟨v, ws, rfl, hp, by rw [ht]; exact hP, hD⟩, hS.F ht⟩) hS.2.2 hd hlocks
theorem g_vret {post : va_W → Prop} {w0 : va_W} (cx : gC l X rm nL cc own Ts E) (gr : gRv X none rm E w0 post) (hk : k ≤ rm.cells) (hn : n ≤ rm.slots) (hd : decode cc pc = .ok (.return_, 1)) (hp : post ws) : gG X k n ws pc lv [] := by
  obtain ⟨p, l', e, R, s, m, args, below, meth, c, E', A, nL', Q⟩ := X
  obtain ⟨rfl, rfl, rfl, rfl, hx, hb, hml, hown, hts, hEV, hA⟩ := cx
  obtain ⟨rfl, rfl, hr, hlocks⟩ := gr
  intro H locs ls hP hD hS hl
  refine W.widen hk hn ?_
  exact W.vret hx hb hr (fun t ht hW => ⟨⟨ws, rfl, hp, by rw [ht]; exact hP, hD⟩, hS.F ht⟩) hS.2.2 hd hlocks
/-- what a caller must know of a callee beside its contract: its words begin with its code, its class and its parameters -/
def gY (y : MethodName) (wsy : List Cond) (bytes : ByteArray) (maxL : Nat) (ret : Option FieldType) (np : Nat) : Prop := (∃ ws', wsy = Cond.code y bytes maxL ret :: ws') ∧ y.cls ≠ "java/lang/invoke/MethodHandle" ∧ y.cls ≠ "java/lang/invoke/VarHandle" ∧ (parseMethodDescriptor y.desc).map (fun d => d.parameters.length) = some np
theorem g_Vi {y : MethodName} {wsy : List Cond} {rmy : Room} {bytes : ByteArray} {maxL np index : Nat} {ret : Option FieldType} {As : List Value} {wc wr : va_W} {post : Int32 → va_W → Prop} {C : String} {T : u_T} {N b ci : Nat} {fs : List Value} (cx : gC l X rm nL cc own Ts E) (hY : gY y wsy bytes maxL ret np) (hg : GoodIn Ts (wsV own index C y wsy)) (hM : cti l y wsy rmy E (.ref b :: As) wc post) (hyc : y.cls = C) (hcl : vwCl[ci]? = some (C, T, N)) (hrec : wc[0]? = some (b, .inr (ci, fs))) (isC isR : List Nat) (hC : isC.map (fun i => ws[i]?) = wc.map some) (hRr : isR.map (fun i => ws[i]?) = wr.map some) (hnC : va_nd isC = true) (hnR : va_nd isR = true) (hdis : ∀ i ∈ isR, i ∉ isC) (hR : rmy.frames + 1 ≤ rm.frames ∧ 8 + (maxL + 11) + rmy.locals ≤ rm.locals) (hst : st = As.reverse ++ .ref b :: rest) (hlen : As.length = np) (hroom : (rest.map fun v => v.category).sum ≤ 8) (hf : k + rmy.cells ≤ rm.cells ∧ n + rmy.slots ≤ rm.slots) (hd : decode cc pc = .ok (.invokevirtual index, 3)) (kk : ∀ r w1, post r w1 → gG X (k + rmy.cells) (n + rmy.slots) (wr ++ w1) (pc + 3) lv (.int r :: rest)) : gG X k n ws pc lv st := by
  obtain ⟨p, l', e, R, s, m, args, below, meth, c, E', A, nL', Q⟩ := X
  obtain ⟨rfl, rfl, rfl, rfl, hx, hb, hml, hown, hts, hEV, hA⟩ := cx
  intro H locs ls hP hD hS hl
  obtain ⟨⟨ws', hw⟩, hd1, hd2, hd3⟩ := hY
  have hPc := hP.sub (ws' := wc) isC (g_fm hC)
  have hDc := hD.sub (ws' := wc) isC hnC hC
  have hFc := va_free (wc := wc) hD hS hA isC hC
  refine va_calli (va_runV (As := As) (rest := rest) ⟨hx, hb, hml, hown, hts⟩ (hM H.size) (cwV np hts hg hw rfl rfl ⟨hyc, hd1, hd2, hd3⟩ hR) ⟨gPc_blind, va_recv hEV.1 hPc hcl hrec, fun U hU hW => ⟨rfl, by rw [hU], by rw [hU]; exact hPc, by rw [hU]; exact gEV_call hEV hS hW hFc, hDc.weaken (fun _ _ _ _ => trivial)⟩⟩ rfl hlen hl.1 hst (lv_room hroom) hd hf) hS (fun q _ h => hFc q h) hFc (fun r u t H1 locs1 ht hvm hw1 hB hz1 hk1 hS1 => ?_)
  obtain ⟨hP1, hD1⟩ := hB
  rw [ht] at hP1
  obtain ⟨hP2, hD2⟩ := va_join (wr := wr) (w1 := u) hP hD isC isR hC hRr hnR hdis hk1 hFc hP1 hD1
  exact kk r u hw1 H1 locs1 ls hP2 hD2 hS1 hl
theorem g_Si {y : MethodName} {wsy : List Cond} {rmy : Room} {bytes : ByteArray} {maxL np index : Nat} {ret : Option FieldType} {As : List Value} {wc wr : va_W} {post : Int32 → va_W → Prop} (cx : gC l X rm nL cc own Ts E) (hY : gY y wsy bytes maxL ret np) (hg : GoodIn Ts (va_wsS own index y wsy)) (hM : cti l y wsy rmy E As wc post) (isC isR : List Nat) (hC : isC.map (fun i => ws[i]?) = wc.map some) (hRr : isR.map (fun i => ws[i]?) = wr.map some) (hnC : va_nd isC = true) (hnR : va_nd isR = true) (hdis : ∀ i ∈ isR, i ∉ isC) (hR : rmy.frames + 1 ≤ rm.frames ∧ 8 + (maxL + 11) + rmy.locals ≤ rm.locals) (hst : st = As.reverse ++ rest) (hlen : As.length = np) (hroom : (rest.map fun v => v.category).sum ≤ 8) (hf : k + rmy.cells ≤ rm.cells ∧ n + rmy.slots ≤ rm.slots) (hd : decode cc pc = .ok (.invokestatic index, 3)) (kk : ∀ r w1, post r w1 → gG X (k + rmy.cells) (n + rmy.slots) (wr ++ w1) (pc + 3) lv (.int r :: rest)) : gG X k n ws pc lv st := by
  obtain ⟨p, l', e, R, s, m, args, below, meth, c, E', A, nL', Q⟩ := X
  obtain ⟨rfl, rfl, rfl, rfl, hx, hb, hml, hown, hts, hEV, hA⟩ := cx
  intro H locs ls hP hD hS hl
  obtain ⟨⟨ws', hw⟩, hd1, hd2, hd3⟩ := hY
  have hPc := hP.sub (ws' := wc) isC (g_fm hC)
  have hDc := hD.sub (ws' := wc) isC hnC hC
  have hFc := va_free (wc := wc) hD hS hA isC hC
  refine va_calli (va_runS (As := As) (rest := rest) ⟨hx, hb, hml, hown, hts⟩ (hM H.size) (va_cwS np hts hg hw rfl rfl ⟨hd1, hd2, hd3⟩ hR) ⟨gPc_blind, fun U hU hW => ⟨rfl, by rw [hU], by rw [hU]; exact hPc, by rw [hU]; exact gEV_call hEV hS hW hFc, hDc.weaken (fun _ _ _ _ => trivial)⟩⟩ rfl hlen hl.1 hst (lv_room hroom) hd hf) hS (fun q _ h => hFc q h) hFc (fun r u t H1 locs1 ht hvm hw1 hB hz1 hk1 hS1 => ?_)
  obtain ⟨hP1, hD1⟩ := hB
  rw [ht] at hP1
  obtain ⟨hP2, hD2⟩ := va_join (wr := wr) (w1 := u) hP hD isC isR hC hRr hnR hdis hk1 hFc hP1 hD1
  exact kk r u hw1 H1 locs1 ls hP2 hD2 hS1 hl
theorem g_Ni {y : MethodName} {wsy : List Cond} {rmy : Room} {bytes : ByteArray} {maxL np index : Nat} {ret : Option FieldType} {As : List Value} {wc wr : va_W} {post : Int32 → va_W → Prop} {host : String} (cx : gC l X rm nL cc own Ts E) (hY : gY y wsy bytes maxL ret np) (hg : GoodIn Ts wsy) (hmem : ∀ w ∈ [Cond.static y, Cond.initialized y.cls], w ∈ Ts) (hnest : ∀ A s H, gEV E A s H → va_Nw (.methodLinkNest own index y host) s) (hM : cti l y wsy rmy E As wc post) (isC isR : List Nat) (hC : isC.map (fun i => ws[i]?) = wc.map some) (hRr : isR.map (fun i => ws[i]?) = wr.map some) (hnC : va_nd isC = true) (hnR : va_nd isR = true) (hdis : ∀ i ∈ isR, i ∉ isC) (hR : rmy.frames + 1 ≤ rm.frames ∧ 8 + (maxL + 11) + rmy.locals ≤ rm.locals) (hst : st = As.reverse ++ rest) (hlen : As.length = np) (hroom : (rest.map fun v => v.category).sum ≤ 8) (hf : k + rmy.cells ≤ rm.cells ∧ n + rmy.slots ≤ rm.slots) (hd : decode cc pc = .ok (.invokestatic index, 3)) (kk : ∀ r w1, post r w1 → gG X (k + rmy.cells) (n + rmy.slots) (wr ++ w1) (pc + 3) lv (.int r :: rest)) : gG X k n ws pc lv st := by
  obtain ⟨p, l', e, R, s, m, args, below, meth, c, E', A, nL', Q⟩ := X
  obtain ⟨rfl, rfl, rfl, rfl, hx, hb, hml, hown, hts, hEV, hA⟩ := cx
  intro H locs ls hP hD hS hl
  obtain ⟨⟨ws', hw⟩, hd1, hd2, hd3⟩ := hY
  have hPc := hP.sub (ws' := wc) isC (g_fm hC)
  have hDc := hD.sub (ws' := wc) isC hnC hC
  have hFc := va_free (wc := wc) hD hS hA isC hC
  refine va_calli (va_runSN (As := As) (rest := rest) ⟨hx, hb, hml, hown, hts⟩ (hM H.size) ⟨va_cnB np hts hg hw rfl rfl (hnest _ _ _ hEV) (hts _ (hmem _ (by simp))) ⟨hd1, hd2, hd3⟩ hR, hts _ (hmem _ (by simp)), trivial⟩ ⟨gPc_blind, fun U hU hW => ⟨rfl, by rw [hU], by rw [hU]; exact hPc, by rw [hU]; exact gEV_call hEV hS hW hFc, hDc.weaken (fun _ _ _ _ => trivial)⟩⟩ rfl hlen hl.1 hst (lv_room hroom) hd hf) hS (fun q _ h => hFc q h) hFc (fun r u t H1 locs1 ht hvm hw1 hB hz1 hk1 hS1 => ?_)
  obtain ⟨hP1, hD1⟩ := hB
  rw [ht] at hP1
  obtain ⟨hP2, hD2⟩ := va_join (wr := wr) (w1 := u) hP hD isC isR hC hRr hnR hdis hk1 hFc hP1 hD1
  exact kk r u hw1 H1 locs1 ls hP2 hD2 hS1 hl
theorem g_Vl {y : MethodName} {wsy : List Cond} {rmy : Room} {bytes : ByteArray} {maxL np index : Nat} {ret : Option FieldType} {As : List Value} {wc wr : va_W} {post : Int64 → va_W → Prop} {C : String} {T : u_T} {N b ci : Nat} {fs : List Value} (cx : gC l X rm nL cc own Ts E) (hY : gY y wsy bytes maxL ret np) (hg : GoodIn Ts (wsV own index C y wsy)) (hM : ctl l y wsy rmy E (.ref b :: As) wc post) (hyc : y.cls = C) (hcl : vwCl[ci]? = some (C, T, N)) (hrec : wc[0]? = some (b, .inr (ci, fs))) (isC isR : List Nat) (hC : isC.map (fun i => ws[i]?) = wc.map some) (hRr : isR.map (fun i => ws[i]?) = wr.map some) (hnC : va_nd isC = true) (hnR : va_nd isR = true) (hdis : ∀ i ∈ isR, i ∉ isC) (hR : rmy.frames + 1 ≤ rm.frames ∧ 8 + (maxL + 11) + rmy.locals ≤ rm.locals) (hst : st = As.reverse ++ .ref b :: rest) (hlen : As.length = np) (hroom : (rest.map fun v => v.category).sum ≤ 8) (hf : k + rmy.cells ≤ rm.cells ∧ n + rmy.slots ≤ rm.slots) (hd : decode cc pc = .ok (.invokevirtual index, 3)) (kk : ∀ r w1, post r w1 → gG X (k + rmy.cells) (n + rmy.slots) (wr ++ w1) (pc + 3) lv (.long r :: rest)) : gG X k n ws pc lv st := by
  obtain ⟨p, l', e, R, s, m, args, below, meth, c, E', A, nL', Q⟩ := X
  obtain ⟨rfl, rfl, rfl, rfl, hx, hb, hml, hown, hts, hEV, hA⟩ := cx
  intro H locs ls hP hD hS hl
  obtain ⟨⟨ws', hw⟩, hd1, hd2, hd3⟩ := hY
  have hPc := hP.sub (ws' := wc) isC (g_fm hC)
  have hDc := hD.sub (ws' := wc) isC hnC hC
  have hFc := va_free (wc := wc) hD hS hA isC hC
  refine va_calll (va_runV (As := As) (rest := rest) ⟨hx, hb, hml, hown, hts⟩ (hM H.size) (cwV np hts hg hw rfl rfl ⟨hyc, hd1, hd2, hd3⟩ hR) ⟨gPc_blind, va_recv hEV.1 hPc hcl hrec, fun U hU hW => ⟨rfl, by rw [hU], by rw [hU]; exact hPc, by rw [hU]; exact gEV_call hEV hS hW hFc, hDc.weaken (fun _ _ _ _ => trivial)⟩⟩ rfl hlen hl.1 hst (lv_room hroom) hd hf) hS (fun q _ h => hFc q h) hFc (fun r u t H1 locs1 ht hvm hw1 hB hz1 hk1 hS1 => ?_)
  obtain ⟨hP1, hD1⟩ := hB
  rw [ht] at hP1
  obtain ⟨hP2, hD2⟩ := va_join (wr := wr) (w1 := u) hP hD isC isR hC hRr hnR hdis hk1 hFc hP1 hD1
  exact kk r u hw1 H1 locs1 ls hP2 hD2 hS1 hl
theorem g_Sl {y : MethodName} {wsy : List Cond} {rmy : Room} {bytes : ByteArray} {maxL np index : Nat} {ret : Option FieldType} {As : List Value} {wc wr : va_W} {post : Int64 → va_W → Prop} (cx : gC l X rm nL cc own Ts E) (hY : gY y wsy bytes maxL ret np) (hg : GoodIn Ts (va_wsS own index y wsy)) (hM : ctl l y wsy rmy E As wc post) (isC isR : List Nat) (hC : isC.map (fun i => ws[i]?) = wc.map some) (hRr : isR.map (fun i => ws[i]?) = wr.map some) (hnC : va_nd isC = true) (hnR : va_nd isR = true) (hdis : ∀ i ∈ isR, i ∉ isC) (hR : rmy.frames + 1 ≤ rm.frames ∧ 8 + (maxL + 11) + rmy.locals ≤ rm.locals) (hst : st = As.reverse ++ rest) (hlen : As.length = np) (hroom : (rest.map fun v => v.category).sum ≤ 8) (hf : k + rmy.cells ≤ rm.cells ∧ n + rmy.slots ≤ rm.slots) (hd : decode cc pc = .ok (.invokestatic index, 3)) (kk : ∀ r w1, post r w1 → gG X (k + rmy.cells) (n + rmy.slots) (wr ++ w1) (pc + 3) lv (.long r :: rest)) : gG X k n ws pc lv st := by
  obtain ⟨p, l', e, R, s, m, args, below, meth, c, E', A, nL', Q⟩ := X
  obtain ⟨rfl, rfl, rfl, rfl, hx, hb, hml, hown, hts, hEV, hA⟩ := cx
  intro H locs ls hP hD hS hl
  obtain ⟨⟨ws', hw⟩, hd1, hd2, hd3⟩ := hY
  have hPc := hP.sub (ws' := wc) isC (g_fm hC)
  have hDc := hD.sub (ws' := wc) isC hnC hC
  have hFc := va_free (wc := wc) hD hS hA isC hC
  refine va_calll (va_runS (As := As) (rest := rest) ⟨hx, hb, hml, hown, hts⟩ (hM H.size) (va_cwS np hts hg hw rfl rfl ⟨hd1, hd2, hd3⟩ hR) ⟨gPc_blind, fun U hU hW => ⟨rfl, by rw [hU], by rw [hU]; exact hPc, by rw [hU]; exact gEV_call hEV hS hW hFc, hDc.weaken (fun _ _ _ _ => trivial)⟩⟩ rfl hlen hl.1 hst (lv_room hroom) hd hf) hS (fun q _ h => hFc q h) hFc (fun r u t H1 locs1 ht hvm hw1 hB hz1 hk1 hS1 => ?_)
  obtain ⟨hP1, hD1⟩ := hB
  rw [ht] at hP1
  obtain ⟨hP2, hD2⟩ := va_join (wr := wr) (w1 := u) hP hD isC isR hC hRr hnR hdis hk1 hFc hP1 hD1
  exact kk r u hw1 H1 locs1 ls hP2 hD2 hS1 hl
theorem g_Nl {y : MethodName} {wsy : List Cond} {rmy : Room} {bytes : ByteArray} {maxL np index : Nat} {ret : Option FieldType} {As : List Value} {wc wr : va_W} {post : Int64 → va_W → Prop} {host : String} (cx : gC l X rm nL cc own Ts E) (hY : gY y wsy bytes maxL ret np) (hg : GoodIn Ts wsy) (hmem : ∀ w ∈ [Cond.static y, Cond.initialized y.cls], w ∈ Ts) (hnest : ∀ A s H, gEV E A s H → va_Nw (.methodLinkNest own index y host) s) (hM : ctl l y wsy rmy E As wc post) (isC isR : List Nat) (hC : isC.map (fun i => ws[i]?) = wc.map some) (hRr : isR.map (fun i => ws[i]?) = wr.map some) (hnC : va_nd isC = true) (hnR : va_nd isR = true) (hdis : ∀ i ∈ isR, i ∉ isC) (hR : rmy.frames + 1 ≤ rm.frames ∧ 8 + (maxL + 11) + rmy.locals ≤ rm.locals) (hst : st = As.reverse ++ rest) (hlen : As.length = np) (hroom : (rest.map fun v => v.category).sum ≤ 8) (hf : k + rmy.cells ≤ rm.cells ∧ n + rmy.slots ≤ rm.slots) (hd : decode cc pc = .ok (.invokestatic index, 3)) (kk : ∀ r w1, post r w1 → gG X (k + rmy.cells) (n + rmy.slots) (wr ++ w1) (pc + 3) lv (.long r :: rest)) : gG X k n ws pc lv st := by
  obtain ⟨p, l', e, R, s, m, args, below, meth, c, E', A, nL', Q⟩ := X
  obtain ⟨rfl, rfl, rfl, rfl, hx, hb, hml, hown, hts, hEV, hA⟩ := cx
  intro H locs ls hP hD hS hl
  obtain ⟨⟨ws', hw⟩, hd1, hd2, hd3⟩ := hY
  have hPc := hP.sub (ws' := wc) isC (g_fm hC)
  have hDc := hD.sub (ws' := wc) isC hnC hC
  have hFc := va_free (wc := wc) hD hS hA isC hC
  refine va_calll (va_runSN (As := As) (rest := rest) ⟨hx, hb, hml, hown, hts⟩ (hM H.size) ⟨va_cnB np hts hg hw rfl rfl (hnest _ _ _ hEV) (hts _ (hmem _ (by simp))) ⟨hd1, hd2, hd3⟩ hR, hts _ (hmem _ (by simp)), trivial⟩ ⟨gPc_blind, fun U hU hW => ⟨rfl, by rw [hU], by rw [hU]; exact hPc, by rw [hU]; exact gEV_call hEV hS hW hFc, hDc.weaken (fun _ _ _ _ => trivial)⟩⟩ rfl hlen hl.1 hst (lv_room hroom) hd hf) hS (fun q _ h => hFc q h) hFc (fun r u t H1 locs1 ht hvm hw1 hB hz1 hk1 hS1 => ?_)
  obtain ⟨hP1, hD1⟩ := hB
  rw [ht] at hP1
  obtain ⟨hP2, hD2⟩ := va_join (wr := wr) (w1 := u) hP hD isC isR hC hRr hnR hdis hk1 hFc hP1 hD1
  exact kk r u hw1 H1 locs1 ls hP2 hD2 hS1 hl
theorem g_Vv {y : MethodName} {wsy : List Cond} {rmy : Room} {bytes : ByteArray} {maxL np index : Nat} {ret : Option FieldType} {As : List Value} {wc wr : va_W} {post : va_W → Prop} {C : String} {T : u_T} {N b ci : Nat} {fs : List Value} (cx : gC l X rm nL cc own Ts E) (hY : gY y wsy bytes maxL ret np) (hg : GoodIn Ts (wsV own index C y wsy)) (hM : ctv l y wsy rmy E (.ref b :: As) wc post) (hyc : y.cls = C) (hcl : vwCl[ci]? = some (C, T, N)) (hrec : wc[0]? = some (b, .inr (ci, fs))) (isC isR : List Nat) (hC : isC.map (fun i => ws[i]?) = wc.map some) (hRr : isR.map (fun i => ws[i]?) = wr.map some) (hnC : va_nd isC = true) (hnR : va_nd isR = true) (hdis : ∀ i ∈ isR, i ∉ isC) (hR : rmy.frames + 1 ≤ rm.frames ∧ 8 + (maxL + 11) + rmy.locals ≤ rm.locals) (hst : st = As.reverse ++ .ref b :: rest) (hlen : As.length = np) (hroom : (rest.map fun v => v.category).sum ≤ 8) (hf : k + rmy.cells ≤ rm.cells ∧ n + rmy.slots ≤ rm.slots) (hd : decode cc pc = .ok (.invokevirtual index, 3)) (kk : ∀ w1, post w1 → gG X (k + rmy.cells) (n + rmy.slots) (wr ++ w1) (pc + 3) lv rest) : gG X k n ws pc lv st := by
  obtain ⟨p, l', e, R, s, m, args, below, meth, c, E', A, nL', Q⟩ := X
  obtain ⟨rfl, rfl, rfl, rfl, hx, hb, hml, hown, hts, hEV, hA⟩ := cx
  intro H locs ls hP hD hS hl
  obtain ⟨⟨ws', hw⟩, hd1, hd2, hd3⟩ := hY
  have hPc := hP.sub (ws' := wc) isC (g_fm hC)
  have hDc := hD.sub (ws' := wc) isC hnC hC
  have hFc := va_free (wc := wc) hD hS hA isC hC
  refine va_callv (va_runV (As := As) (rest := rest) ⟨hx, hb, hml, hown, hts⟩ (hM H.size) (cwV np hts hg hw rfl rfl ⟨hyc, hd1, hd2, hd3⟩ hR) ⟨gPc_blind, va_recv hEV.1 hPc hcl hrec, fun U hU hW => ⟨rfl, by rw [hU], by rw [hU]; exact hPc, by rw [hU]; exact gEV_call hEV hS hW hFc, hDc.weaken (fun _ _ _ _ => trivial)⟩⟩ rfl hlen hl.1 hst (lv_room hroom) hd hf) hS (fun q _ h => hFc q h) hFc (fun u t H1 locs1 ht hvm hw1 hB hz1 hk1 hS1 => ?_)
  obtain ⟨hP1, hD1⟩ := hB
  rw [ht] at hP1
  obtain ⟨hP2, hD2⟩ := va_join (wr := wr) (w1 := u) hP hD isC isR hC hRr hnR hdis hk1 hFc hP1 hD1
  exact kk  u hw1 H1 locs1 ls hP2 hD2 hS1 hl
theorem g_Sv {y : MethodName} {wsy : List Cond} {rmy : Room} {bytes : ByteArray} {maxL np index : Nat} {ret : Option FieldType} {As : List Value} {wc wr : va_W} {post : va_W → Prop} (cx : gC l X rm nL cc own Ts E) (hY : gY y wsy bytes maxL ret np) (hg : GoodIn Ts (va_wsS own index y wsy)) (hM : ctv l y wsy rmy E As wc post) (isC isR : List Nat) (hC : isC.map (fun i => ws[i]?) = wc.map some) (hRr : isR.map (fun i => ws[i]?) = wr.map some) (hnC : va_nd isC = true) (hnR : va_nd isR = true) (hdis : ∀ i ∈ isR, i ∉ isC) (hR : rmy.frames + 1 ≤ rm.frames ∧ 8 + (maxL + 11) + rmy.locals ≤ rm.locals) (hst : st = As.reverse ++ rest) (hlen : As.length = np) (hroom : (rest.map fun v => v.category).sum ≤ 8) (hf : k + rmy.cells ≤ rm.cells ∧ n + rmy.slots ≤ rm.slots) (hd : decode cc pc = .ok (.invokestatic index, 3)) (kk : ∀ w1, post w1 → gG X (k + rmy.cells) (n + rmy.slots) (wr ++ w1) (pc + 3) lv rest) : gG X k n ws pc lv st := by
  obtain ⟨p, l', e, R, s, m, args, below, meth, c, E', A, nL', Q⟩ := X
  obtain ⟨rfl, rfl, rfl, rfl, hx, hb, hml, hown, hts, hEV, hA⟩ := cx
  intro H locs ls hP hD hS hl
  obtain ⟨⟨ws', hw⟩, hd1, hd2, hd3⟩ := hY
  have hPc := hP.sub (ws' := wc) isC (g_fm hC)
  have hDc := hD.sub (ws' := wc) isC hnC hC
  have hFc := va_free (wc := wc) hD hS hA isC hC
  refine va_callv (va_runS (As := As) (rest := rest) ⟨hx, hb, hml, hown, hts⟩ (hM H.size) (va_cwS np hts hg hw rfl rfl ⟨hd1, hd2, hd3⟩ hR) ⟨gPc_blind, fun U hU hW => ⟨rfl, by rw [hU], by rw [hU]; exact hPc, by rw [hU]; exact gEV_call hEV hS hW hFc, hDc.weaken (fun _ _ _ _ => trivial)⟩⟩ rfl hlen hl.1 hst (lv_room hroom) hd hf) hS (fun q _ h => hFc q h) hFc (fun u t H1 locs1 ht hvm hw1 hB hz1 hk1 hS1 => ?_)
  obtain ⟨hP1, hD1⟩ := hB
  rw [ht] at hP1
  obtain ⟨hP2, hD2⟩ := va_join (wr := wr) (w1 := u) hP hD isC isR hC hRr hnR hdis hk1 hFc hP1 hD1
  exact kk  u hw1 H1 locs1 ls hP2 hD2 hS1 hl
theorem g_Nv {y : MethodName} {wsy : List Cond} {rmy : Room} {bytes : ByteArray} {maxL np index : Nat} {ret : Option FieldType} {As : List Value} {wc wr : va_W} {post : va_W → Prop} {host : String} (cx : gC l X rm nL cc own Ts E) (hY : gY y wsy bytes maxL ret np) (hg : GoodIn Ts wsy) (hmem : ∀ w ∈ [Cond.static y, Cond.initialized y.cls], w ∈ Ts) (hnest : ∀ A s H, gEV E A s H → va_Nw (.methodLinkNest own index y host) s) (hM : ctv l y wsy rmy E As wc post) (isC isR : List Nat) (hC : isC.map (fun i => ws[i]?) = wc.map some) (hRr : isR.map (fun i => ws[i]?) = wr.map some) (hnC : va_nd isC = true) (hnR : va_nd isR = true) (hdis : ∀ i ∈ isR, i ∉ isC) (hR : rmy.frames + 1 ≤ rm.frames ∧ 8 + (maxL + 11) + rmy.locals ≤ rm.locals) (hst : st = As.reverse ++ rest) (hlen : As.length = np) (hroom : (rest.map fun v => v.category).sum ≤ 8) (hf : k + rmy.cells ≤ rm.cells ∧ n + rmy.slots ≤ rm.slots) (hd : decode cc pc = .ok (.invokestatic index, 3)) (kk : ∀ w1, post w1 → gG X (k + rmy.cells) (n + rmy.slots) (wr ++ w1) (pc + 3) lv rest) : gG X k n ws pc lv st := by
  obtain ⟨p, l', e, R, s, m, args, below, meth, c, E', A, nL', Q⟩ := X
  obtain ⟨rfl, rfl, rfl, rfl, hx, hb, hml, hown, hts, hEV, hA⟩ := cx
  intro H locs ls hP hD hS hl
  obtain ⟨⟨ws', hw⟩, hd1, hd2, hd3⟩ := hY
  have hPc := hP.sub (ws' := wc) isC (g_fm hC)
  have hDc := hD.sub (ws' := wc) isC hnC hC
  have hFc := va_free (wc := wc) hD hS hA isC hC
  refine va_callv (va_runSN (As := As) (rest := rest) ⟨hx, hb, hml, hown, hts⟩ (hM H.size) ⟨va_cnB np hts hg hw rfl rfl (hnest _ _ _ hEV) (hts _ (hmem _ (by simp))) ⟨hd1, hd2, hd3⟩ hR, hts _ (hmem _ (by simp)), trivial⟩ ⟨gPc_blind, fun U hU hW => ⟨rfl, by rw [hU], by rw [hU]; exact hPc, by rw [hU]; exact gEV_call hEV hS hW hFc, hDc.weaken (fun _ _ _ _ => trivial)⟩⟩ rfl hlen hl.1 hst (lv_room hroom) hd hf) hS (fun q _ h => hFc q h) hFc (fun u t H1 locs1 ht hvm hw1 hB hz1 hk1 hS1 => ?_)
  obtain ⟨hP1, hD1⟩ := hB
  rw [ht] at hP1
  obtain ⟨hP2, hD2⟩ := va_join (wr := wr) (w1 := u) hP hD isC isR hC hRr hnR hdis hk1 hFc hP1 hD1
  exact kk  u hw1 H1 locs1 ls hP2 hD2 hS1 hl
theorem g_I {y : MethodName} {wsy : List Cond} {rmy : Room} {bytes : ByteArray} {maxL np index : Nat} {ret : Option FieldType} {As : List Value} {wc wr : va_W} {post : va_W → Prop} {b : Nat} (cx : gC l X rm nL cc own Ts E) (hY : gY y wsy bytes maxL none np) (hg : GoodIn Ts wsy) (hyn : y.name = "<init>") (hmem : ∀ w ∈ [Cond.initialized y.cls, Cond.methodLink own index y, Cond.instanceMethod y], w ∈ Ts) (hM : ctv l y wsy rmy E (.ref b :: As) wc post) (isC isR : List Nat) (hC : isC.map (fun i => ws[i]?) = wc.map some) (hRr : isR.map (fun i => ws[i]?) = wr.map some) (hnC : va_nd isC = true) (hnR : va_nd isR = true) (hdis : ∀ i ∈ isR, i ∉ isC) (hR : rmy.frames + 1 ≤ rm.frames ∧ 8 + (maxL + 11) + rmy.locals ≤ rm.locals) (hst : st = As.reverse ++ .ref b :: rest) (hlen : As.length = np) (hroom : (rest.map fun v => v.category).sum ≤ 8) (hf : k + rmy.cells ≤ rm.cells ∧ n + rmy.slots ≤ rm.slots) (hd : decode cc pc = .ok (.invokespecial index, 3)) (kk : ∀ w1, post w1 → gG X (k + rmy.cells) (n + rmy.slots) (wr ++ w1) (pc + 3) lv rest) : gG X k n ws pc lv st := by
  obtain ⟨p, l', e, R, s, m, args, below, meth, c, E', A, nL', Q⟩ := X
  obtain ⟨rfl, rfl, rfl, rfl, hx, hb, hml, hown, hts, hEV, hA⟩ := cx
  intro H locs ls hP hD hS hl
  obtain ⟨⟨ws', hw⟩, hd1, hd2, hd3⟩ := hY
  have hPc := hP.sub (ws' := wc) isC (g_fm hC)
  have hDc := hD.sub (ws' := wc) isC hnC hC
  have hFc := va_free (wc := wc) hD hS hA isC hC
  refine va_callv (va_runI (As := As) (rest := rest) ⟨hx, hb, hml, hown, hts⟩ (hM H.size) (cwI np hts hg hw rfl rfl (hts _ (hmem _ (by simp))) (hts _ (hmem _ (by simp))) (hts _ (hmem _ (by simp))) hyn ⟨hd1, hd2, hd3⟩ hR) ⟨gPc_blind, fun U hU hW => ⟨rfl, by rw [hU], by rw [hU]; exact hPc, by rw [hU]; exact gEV_call hEV hS hW hFc, hDc.weaken (fun _ _ _ _ => trivial)⟩⟩ rfl hlen hl.1 hst (lv_room hroom) hd hf) hS (fun q _ h => hFc q h) hFc (fun u t H1 locs1 ht hvm hw1 hB hz1 hk1 hS1 => ?_)
  obtain ⟨hP1, hD1⟩ := hB
  rw [ht] at hP1
  obtain ⟨hP2, hD2⟩ := va_join (wr := wr) (w1 := u) hP hD isC isR hC hRr hnR hdis hk1 hFc hP1 hD1
  exact kk  u hw1 H1 locs1 ls hP2 hD2 hS1 hl
end GG
