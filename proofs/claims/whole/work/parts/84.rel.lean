/-! class and reference keep the same, but for what is kept aside while nothing is -/
def kSI (k : Ter) (i : Int32) (r : Int32 × Cor) : Int32 × Cor := (r.1, r.2.1, k, i, r.2.2.2.2)
def kSl (k : Ter) (i : Int32) (r : Int64 × Cor) : Int64 × Cor := (r.1, r.2.1, k, i, r.2.2.2.2)
abbrev cK (c : Cor) (k : Ter) (i : Int32) : Cor := (c.1, k, i, c.2.2.2)
theorem ki_if {p : Prop} {hd : Decidable p} {k : Ter} {i : Int32} {A B A' B' : Int32 × Cor} (hA : A' = kSI k i A) (hB : B' = kSI k i B) : @ite _ p hd A' B' = kSI k i (@ite _ p hd A B) := by
  cases hd with
  | isTrue q => exact hA
  | isFalse q => exact hB
theorem kl_if {p : Prop} {hd : Decidable p} {k : Ter} {i : Int32} {A B A' B' : Int64 × Cor} (hA : A' = kSl k i A) (hB : B' = kSl k i B) : @ite _ p hd A' B' = kSl k i (@ite _ p hd A B) := by
  cases hd with
  | isTrue q => exact hA
  | isFalse q => exact hB
theorem pk_B (c : Cor) (k : Ter) (i f : Int32) : cB f (cK c k i) = kSI k i (cB f c) := rfl
theorem pk_Bl (c : Cor) (k : Ter) (i f : Int32) : cBl f (cK c k i) = kSl k i (cBl f c) := rfl
theorem pk_c (c : Cor) (k : Ter) (i r : Int32) : (r, cK c k i) = kSI k i (r, c) := rfl
theorem pk_cF (c : Cor) (k : Ter) (i : Int32) (n : Nat) (v : Int32) : cF n v (cK c k i) = kSI k i (cF n v c) := by
  unfold cF
  exact ki_if rfl (pk_B _ _ _ _)
theorem pk_cN (c : Cor) (k : Ter) (i : Int32) (r : Int32) : cN r (cK c k i) = kSI k i (cN r c) := by
  unfold cN
  exact ki_if rfl (pk_B _ _ _ _)
/-- what class and reference keep -/
def Rel (c d : Cor) : Prop := cOk c ∧ cOk d ∧ ∃ k, d = cK c k c.2.2.1 ∧ (c.2.2.1 = 0 ∨ c.2.1 = k)
theorem re_gen {f : Cor → Int32 × Cor} (hok : ∀ c, cOk c → cOk (f c).2) (hpk : ∀ c k i, f (cK c k i) = kSI k i (f c)) {c d : Cor} (h : Rel c d) : (f c).1 = (f d).1 ∧ Rel (f c).2 (f d).2 := by
  obtain ⟨h1, h2, k, rfl, h3⟩ := h
  have e1 : f c = kSI c.2.1 c.2.2.1 (f c) := hpk c c.2.1 c.2.2.1
  have e2 := hpk c k c.2.2.1
  have a1 : (f c).2.2.1 = c.2.1 := congrArg (fun r : Int32 × Cor => r.2.2.1) e1
  have a2 : (f c).2.2.2.1 = c.2.2.1 := congrArg (fun r : Int32 × Cor => r.2.2.2.1) e1
  refine ⟨(congrArg (fun r : Int32 × Cor => r.1) e2).symm, hok c h1, hok _ h2, k, ?_, ?_⟩
  · rw [a2]
    exact congrArg (fun r : Int32 × Cor => r.2) e2
  · rw [a1, a2]
    exact h3
theorem re_genl {f : Cor → Int64 × Cor} (hok : ∀ c, cOk c → cOk (f c).2) (hpk : ∀ c k i, f (cK c k i) = kSl k i (f c)) {c d : Cor} (h : Rel c d) : (f c).1 = (f d).1 ∧ Rel (f c).2 (f d).2 := by
  obtain ⟨h1, h2, k, rfl, h3⟩ := h
  have e1 : f c = kSl c.2.1 c.2.2.1 (f c) := hpk c c.2.1 c.2.2.1
  have e2 := hpk c k c.2.2.1
  have a1 : (f c).2.2.1 = c.2.1 := congrArg (fun r : Int64 × Cor => r.2.2.1) e1
  have a2 : (f c).2.2.2.1 = c.2.2.1 := congrArg (fun r : Int64 × Cor => r.2.2.2.1) e1
  refine ⟨(congrArg (fun r : Int64 × Cor => r.1) e2).symm, hok c h1, hok _ h2, k, ?_, ?_⟩
  · rw [a2]
    exact congrArg (fun r : Int64 × Cor => r.2) e2
  · rw [a1, a2]
    exact h3

theorem pk_man (c : Cor) (k : Ter) (i : Int32) (v1 : Int32) (v2 : Int32) : sp_man (cK c k i) v1 v2 = kSI k i (sp_man c v1 v2) := by
  unfold sp_man
  exact (ki_if (pk_B _ _ _ _) rfl)
theorem re_man {c d : Cor} (h : Rel c d) (v1 : Int32) (v2 : Int32) : (sp_man c v1 v2).1 = (sp_man d v1 v2).1 ∧ Rel (sp_man c v1 v2).2 (sp_man d v1 v2).2 := re_gen (f := fun c => sp_man c v1 v2) (fun _ q => ok_man q v1 v2) (fun c k i => pk_man c k i v1 v2) h
theorem pk_now (c : Cor) (k : Ter) (i : Int32) (v1 : Int32) : sp_now (cK c k i) v1 = kSI k i (sp_now c v1) := by
  unfold sp_now
  exact (ki_if (pk_B _ _ _ _) (ki_if rfl rfl))
theorem re_now {c d : Cor} (h : Rel c d) (v1 : Int32) : (sp_now c v1).1 = (sp_now d v1).1 ∧ Rel (sp_now c v1).2 (sp_now d v1).2 := re_gen (f := fun c => sp_now c v1) (fun _ q => ok_now q v1) (fun c k i => pk_now c k i v1) h
theorem pk_of (c : Cor) (k : Ter) (i : Int32) (v1 : Int32) (v2 : Int32) : sp_of (cK c k i) v1 v2 = kSI k i (sp_of c v1 v2) := by
  unfold sp_of
  exact (ki_if (pk_B _ _ _ _) (ki_if (pk_B _ _ _ _) (ki_if rfl rfl)))
theorem re_of {c d : Cor} (h : Rel c d) (v1 : Int32) (v2 : Int32) : (sp_of c v1 v2).1 = (sp_of d v1 v2).1 ∧ Rel (sp_of c v1 v2).2 (sp_of d v1 v2).2 := re_gen (f := fun c => sp_of c v1 v2) (fun _ q => ok_of q v1 v2) (fun c k i => pk_of c k i v1 v2) h
theorem pk_minds (c : Cor) (k : Ter) (i : Int32) (v1 : Int32) (v2 : Int32) : sp_minds (cK c k i) v1 v2 = kSI k i (sp_minds c v1 v2) := by
  unfold sp_minds
  exact (ki_if (pk_B _ _ _ _) (ki_if (pk_B _ _ _ _) rfl))
theorem re_minds {c d : Cor} (h : Rel c d) (v1 : Int32) (v2 : Int32) : (sp_minds c v1 v2).1 = (sp_minds d v1 v2).1 ∧ Rel (sp_minds c v1 v2).2 (sp_minds d v1 v2).2 := re_gen (f := fun c => sp_minds c v1 v2) (fun _ q => ok_minds q v1 v2) (fun c k i => pk_minds c k i v1 v2) h
theorem pk_buys (c : Cor) (k : Ter) (i : Int32) (v1 : Int32) (v2 : Int32) : sp_buys (cK c k i) v1 v2 = kSI k i (sp_buys c v1 v2) := by
  unfold sp_buys
  exact (ki_if (pk_B _ _ _ _) (ki_if (pk_B _ _ _ _) rfl))
theorem re_buys {c d : Cor} (h : Rel c d) (v1 : Int32) (v2 : Int32) : (sp_buys c v1 v2).1 = (sp_buys d v1 v2).1 ∧ Rel (sp_buys c v1 v2).2 (sp_buys d v1 v2).2 := re_gen (f := fun c => sp_buys c v1 v2) (fun _ q => ok_buys q v1 v2) (fun c k i => pk_buys c k i v1 v2) h
theorem pk_set (c : Cor) (k : Ter) (i : Int32) (v1 : Int32) (v2 : Int32) (v3 : Int32) : sp_set (cK c k i) v1 v2 v3 = kSI k i (sp_set c v1 v2 v3) := by
  unfold sp_set
  exact (ki_if (pk_B _ _ _ _) (ki_if (pk_B _ _ _ _) (ki_if (pk_B _ _ _ _) rfl)))
theorem re_set {c d : Cor} (h : Rel c d) (v1 : Int32) (v2 : Int32) (v3 : Int32) : (sp_set c v1 v2 v3).1 = (sp_set d v1 v2 v3).1 ∧ Rel (sp_set c v1 v2 v3).2 (sp_set d v1 v2 v3).2 := re_gen (f := fun c => sp_set c v1 v2 v3) (fun _ q => ok_set q v1 v2 v3) (fun c k i => pk_set c k i v1 v2 v3) h
theorem pk_turn (c : Cor) (k : Ter) (i : Int32) (v1 : Int32) (v2 : Int32) : sp_turn (cK c k i) v1 v2 = kSI k i (sp_turn c v1 v2) := by
  unfold sp_turn
  exact (ki_if (pk_B _ _ _ _) (ki_if (pk_B _ _ _ _) rfl))
theorem re_turn {c d : Cor} (h : Rel c d) (v1 : Int32) (v2 : Int32) : (sp_turn c v1 v2).1 = (sp_turn d v1 v2).1 ∧ Rel (sp_turn c v1 v2).2 (sp_turn d v1 v2).2 := re_gen (f := fun c => sp_turn c v1 v2) (fun _ q => ok_turn q v1 v2) (fun c k i => pk_turn c k i v1 v2) h
theorem pk_as (c : Cor) (k : Ter) (i : Int32) (v1 : Int32) (v2 : Int32) : sp_as (cK c k i) v1 v2 = kSI k i (sp_as c v1 v2) := by
  unfold sp_as
  exact (ki_if (pk_B _ _ _ _) (ki_if (pk_B _ _ _ _) (ki_if (pk_B _ _ _ _) rfl)))
theorem re_as {c d : Cor} (h : Rel c d) (v1 : Int32) (v2 : Int32) : (sp_as c v1 v2).1 = (sp_as d v1 v2).1 ∧ Rel (sp_as c v1 v2).2 (sp_as d v1 v2).2 := re_gen (f := fun c => sp_as c v1 v2) (fun _ q => ok_as q v1 v2) (fun c k i => pk_as c k i v1 v2) h
theorem pk_move (c : Cor) (k : Ter) (i : Int32) (v1 : Int32) (v2 : Int32) : sp_move (cK c k i) v1 v2 = kSI k i (sp_move c v1 v2) := by
  unfold sp_move
  exact (ki_if (pk_B _ _ _ _) (ki_if (pk_B _ _ _ _) (ki_if (pk_B _ _ _ _) rfl)))
theorem re_move {c d : Cor} (h : Rel c d) (v1 : Int32) (v2 : Int32) : (sp_move c v1 v2).1 = (sp_move d v1 v2).1 ∧ Rel (sp_move c v1 v2).2 (sp_move d v1 v2).2 := re_gen (f := fun c => sp_move c v1 v2) (fun _ q => ok_move q v1 v2) (fun c k i => pk_move c k i v1 v2) h
theorem pk_hours (c : Cor) (k : Ter) (i : Int32) (v1 : Int32) : sp_hours (cK c k i) v1 = kSI k i (sp_hours c v1) := by
  unfold sp_hours
  exact (ki_if (pk_B _ _ _ _) (ki_if rfl (pk_B _ _ _ _)))
theorem re_hours {c d : Cor} (h : Rel c d) (v1 : Int32) : (sp_hours c v1).1 = (sp_hours d v1).1 ∧ Rel (sp_hours c v1).2 (sp_hours d v1).2 := re_gen (f := fun c => sp_hours c v1) (fun _ q => ok_hours q v1) (fun c k i => pk_hours c k i v1) h
theorem pk_on (c : Cor) (k : Ter) (i : Int32) (v1 : Int32) (v2 : Int32) (v3 : Int32) : sp_on (cK c k i) v1 v2 v3 = kSI k i (sp_on c v1 v2 v3) := by
  unfold sp_on
  exact (ki_if (pk_B _ _ _ _) (ki_if (pk_B _ _ _ _) (ki_if (pk_B _ _ _ _) (ki_if rfl rfl))))
theorem re_on {c d : Cor} (h : Rel c d) (v1 : Int32) (v2 : Int32) (v3 : Int32) : (sp_on c v1 v2 v3).1 = (sp_on d v1 v2 v3).1 ∧ Rel (sp_on c v1 v2 v3).2 (sp_on d v1 v2 v3).2 := re_gen (f := fun c => sp_on c v1 v2 v3) (fun _ q => ok_on q v1 v2 v3) (fun c k i => pk_on c k i v1 v2 v3) h
theorem pk_rang (c : Cor) (k : Ter) (i : Int32) (v1 : Int32) : sp_rang (cK c k i) v1 = kSI k i (sp_rang c v1) := by
  unfold sp_rang
  exact (ki_if (pk_B _ _ _ _) rfl)
theorem re_rang {c d : Cor} (h : Rel c d) (v1 : Int32) : (sp_rang c v1).1 = (sp_rang d v1).1 ∧ Rel (sp_rang c v1).2 (sp_rang d v1).2 := re_gen (f := fun c => sp_rang c v1) (fun _ q => ok_rang q v1) (fun c k i => pk_rang c k i v1) h
theorem pk_takings (c : Cor) (k : Ter) (i : Int32) (v1 : Int32) : sp_takings (cK c k i) v1 = kSI k i (sp_takings c v1) := by
  unfold sp_takings
  exact (ki_if (pk_B _ _ _ _) rfl)
theorem re_takings {c d : Cor} (h : Rel c d) (v1 : Int32) : (sp_takings c v1).1 = (sp_takings d v1).1 ∧ Rel (sp_takings c v1).2 (sp_takings d v1).2 := re_gen (f := fun c => sp_takings c v1) (fun _ q => ok_takings q v1) (fun c k i => pk_takings c k i v1) h
theorem pk_moods (c : Cor) (k : Ter) (i : Int32) (v1 : Int32) : sp_moods (cK c k i) v1 = kSI k i (sp_moods c v1) := by
  unfold sp_moods
  exact (ki_if (pk_B _ _ _ _) rfl)
theorem re_moods {c d : Cor} (h : Rel c d) (v1 : Int32) : (sp_moods c v1).1 = (sp_moods d v1).1 ∧ Rel (sp_moods c v1).2 (sp_moods d v1).2 := re_gen (f := fun c => sp_moods c v1) (fun _ q => ok_moods q v1) (fun c k i => pk_moods c k i v1) h
theorem pk_empty (c : Cor) (k : Ter) (i : Int32) : sp_empty (cK c k i) = kSI k i (sp_empty c) := by
  unfold sp_empty
  exact (pk_cF _ _ _ 3 _)
theorem re_empty {c d : Cor} (h : Rel c d) : (sp_empty c).1 = (sp_empty d).1 ∧ Rel (sp_empty c).2 (sp_empty d).2 := re_gen (f := fun c => sp_empty c) (fun _ q => ok_empty q) (fun c k i => pk_empty c k i) h
theorem pk_comes (c : Cor) (k : Ter) (i : Int32) (v1 : Int32) : sp_comes (cK c k i) v1 = kSI k i (sp_comes c v1) := by
  unfold sp_comes
  exact (ki_if (pk_B _ _ _ _) (pk_cF _ _ _ 1 _))
theorem re_comes {c d : Cor} (h : Rel c d) (v1 : Int32) : (sp_comes c v1).1 = (sp_comes d v1).1 ∧ Rel (sp_comes c v1).2 (sp_comes d v1).2 := re_gen (f := fun c => sp_comes c v1) (fun _ q => ok_comes q v1) (fun c k i => pk_comes c k i v1) h
theorem pk_when (c : Cor) (k : Ter) (i : Int32) (v1 : Int32) : sp_when (cK c k i) v1 = kSI k i (sp_when c v1) := by
  unfold sp_when
  exact (ki_if (pk_B _ _ _ _) (pk_cF _ _ _ 4 _))
theorem re_when {c d : Cor} (h : Rel c d) (v1 : Int32) : (sp_when c v1).1 = (sp_when d v1).1 ∧ Rel (sp_when c v1).2 (sp_when d v1).2 := re_gen (f := fun c => sp_when c v1) (fun _ q => ok_when q v1) (fun c k i => pk_when c k i v1) h
theorem pk_begin (c : Cor) (k : Ter) (i : Int32) (v1 : Int32) : sp_begin (cK c k i) v1 = kSI k i (sp_begin c v1) := by
  unfold sp_begin
  dsimp only [cK]
  exact ki_if (pk_B c k i _) (pk_c c k i _)
theorem re_begin {c d : Cor} (h : Rel c d) (v1 : Int32) : (sp_begin c v1).1 = (sp_begin d v1).1 ∧ Rel (sp_begin c v1).2 (sp_begin d v1).2 := re_gen (f := fun c => sp_begin c v1) (fun _ q => ok_begin q v1) (fun c k i => pk_begin c k i v1) h
theorem pk_way (c : Cor) (k : Ter) (i : Int32) (v1 : Int32) : sp_way (cK c k i) v1 = kSI k i (sp_way c v1) := by
  unfold sp_way
  dsimp only [cK]
  exact ki_if (pk_B c k i _) (pk_c c k i _)
theorem re_way {c d : Cor} (h : Rel c d) (v1 : Int32) : (sp_way c v1).1 = (sp_way d v1).1 ∧ Rel (sp_way c v1).2 (sp_way d v1).2 := re_gen (f := fun c => sp_way c v1) (fun _ q => ok_way q v1) (fun c k i => pk_way c k i v1) h
theorem pk_mood (c : Cor) (k : Ter) (i : Int32) (v1 : Int32) (v2 : Int32) : sp_mood (cK c k i) v1 v2 = kSI k i (sp_mood c v1 v2) := by
  unfold sp_mood
  dsimp only [cK]
  exact ki_if (pk_B c k i _) (ki_if (pk_B c k i _) (pk_c c k i _))
theorem re_mood {c d : Cor} (h : Rel c d) (v1 : Int32) (v2 : Int32) : (sp_mood c v1 v2).1 = (sp_mood d v1 v2).1 ∧ Rel (sp_mood c v1 v2).2 (sp_mood d v1 v2).2 := re_gen (f := fun c => sp_mood c v1 v2) (fun _ q => ok_mood q v1 v2) (fun c k i => pk_mood c k i v1 v2) h
theorem pk_kind (c : Cor) (k : Ter) (i : Int32) (v1 : Int32) (v2 : Int32) : sp_kind (cK c k i) v1 v2 = kSI k i (sp_kind c v1 v2) := by
  unfold sp_kind
  dsimp only [cK]
  exact ki_if (pk_B c k i _) (ki_if (pk_B c k i _) (pk_c c k i _))
theorem re_kind {c d : Cor} (h : Rel c d) (v1 : Int32) (v2 : Int32) : (sp_kind c v1 v2).1 = (sp_kind d v1 v2).1 ∧ Rel (sp_kind c v1 v2).2 (sp_kind d v1 v2).2 := re_gen (f := fun c => sp_kind c v1 v2) (fun _ q => ok_kind q v1 v2) (fun c k i => pk_kind c k i v1 v2) h
theorem pk_enough (c : Cor) (k : Ter) (i : Int32) (v1 : Int32) : sp_enough (cK c k i) v1 = kSI k i (sp_enough c v1) := by
  unfold sp_enough
  exact (ki_if (pk_B _ _ _ _) (pk_cN _ _ _ _))
theorem re_enough {c d : Cor} (h : Rel c d) (v1 : Int32) : (sp_enough c v1).1 = (sp_enough d v1).1 ∧ Rel (sp_enough c v1).2 (sp_enough d v1).2 := re_gen (f := fun c => sp_enough c v1) (fun _ q => ok_enough q v1) (fun c k i => pk_enough c k i v1) h
theorem pk_bears (c : Cor) (k : Ter) (i : Int32) (v1 : Int32) (v2 : Int32) : sp_bears (cK c k i) v1 v2 = kSI k i (sp_bears c v1 v2) := by
  unfold sp_bears
  exact (ki_if (pk_B _ _ _ _) (ki_if (pk_B _ _ _ _) (pk_cN _ _ _ _)))
theorem re_bears {c d : Cor} (h : Rel c d) (v1 : Int32) (v2 : Int32) : (sp_bears c v1 v2).1 = (sp_bears d v1 v2).1 ∧ Rel (sp_bears c v1 v2).2 (sp_bears d v1 v2).2 := re_gen (f := fun c => sp_bears c v1 v2) (fun _ q => ok_bears q v1 v2) (fun c k i => pk_bears c k i v1 v2) h
theorem pk_swap (c : Cor) (k : Ter) (i : Int32) (v1 : Int32) : sp_swap (cK c k i) v1 = kSI k i (sp_swap c v1) := by
  unfold sp_swap
  exact (ki_if (pk_B _ _ _ _) (pk_cN _ _ _ _))
theorem re_swap {c d : Cor} (h : Rel c d) (v1 : Int32) : (sp_swap c v1).1 = (sp_swap d v1).1 ∧ Rel (sp_swap c v1).2 (sp_swap d v1).2 := re_gen (f := fun c => sp_swap c v1) (fun _ q => ok_swap q v1) (fun c k i => pk_swap c k i v1) h
theorem pk_saddest (c : Cor) (k : Ter) (i : Int32) (v1 : Int32) : sp_saddest (cK c k i) v1 = kSI k i (sp_saddest c v1) := by
  unfold sp_saddest
  exact (ki_if (pk_B _ _ _ _) rfl)
theorem re_saddest {c d : Cor} (h : Rel c d) (v1 : Int32) : (sp_saddest c v1).1 = (sp_saddest d v1).1 ∧ Rel (sp_saddest c v1).2 (sp_saddest d v1).2 := re_gen (f := fun c => sp_saddest c v1) (fun _ q => ok_saddest q v1) (fun c k i => pk_saddest c k i v1) h
theorem pk_feed (c : Cor) (k : Ter) (i : Int32) (v1 : Int32) (v2 : Int32) : sp_feed (cK c k i) v1 v2 = kSI k i (sp_feed c v1 v2) := by
  unfold sp_feed
  exact (ki_if (pk_B _ _ _ _) (ki_if rfl (pk_B _ _ _ _)))
theorem re_feed {c d : Cor} (h : Rel c d) (v1 : Int32) (v2 : Int32) : (sp_feed c v1 v2).1 = (sp_feed d v1 v2).1 ∧ Rel (sp_feed c v1 v2).2 (sp_feed d v1 v2).2 := re_gen (f := fun c => sp_feed c v1 v2) (fun _ q => ok_feed q v1 v2) (fun c k i => pk_feed c k i v1 v2) h
theorem pk_wipe (c : Cor) (k : Ter) (i : Int32) : sp_wipe (cK c k i) = kSI k i (sp_wipe c) := by
  unfold sp_wipe
  exact rfl
theorem re_wipe {c d : Cor} (h : Rel c d) : (sp_wipe c).1 = (sp_wipe d).1 ∧ Rel (sp_wipe c).2 (sp_wipe d).2 := re_gen (f := fun c => sp_wipe c) (fun _ q => ok_wipe q) (fun c k i => pk_wipe c k i) h
def teF (X : Int32 × Nat × Int32 × Ter) (c : Cor) : Int32 × Cor := if X.1 < 0 then (X.1, c.1, c.2.1, c.2.2.1, c.2.2.2.1, 0, c.2.2.2.2.2) else (X.1, X.2.2.2, c.2.1, c.2.2.1, c.2.2.2.1, 0, c.2.2.2.2.2)
theorem sp_te (c : Cor) : sp_terrace c = teF (ttT c c.2.2.2.2.1.toNatClampNeg) c := rfl
theorem pk_teF (c : Cor) (k : Ter) (i : Int32) (X : Int32 × Nat × Int32 × Ter) : teF X (cK c k i) = kSI k i (teF X c) := by
  unfold teF
  exact ki_if rfl rfl
theorem tt_cong {b b' : Nat → Int32} {T T' : Nat} {t t' : Ter} (h1 : b = b') (h2 : T = T') (h3 : t = t') : tlL b T 120 1 (tkS b T 0) 0 t = tlL b' T' 120 1 (tkS b' T' 0) 0 t' := by
  subst h1 h2 h3
  rfl
theorem pk_terrace (c : Cor) (k : Ter) (i : Int32) : sp_terrace (cK c k i) = kSI k i (sp_terrace c) := by
  have e : ttT (cK c k i) (cK c k i).2.2.2.2.1.toNatClampNeg = ttT c c.2.2.2.2.1.toNatClampNeg := tt_cong rfl rfl rfl
  exact (sp_te (cK c k i)).trans ((congrArg (fun X => teF X (cK c k i)) e).trans ((pk_teF c k i _).trans (congrArg (kSI k i) (sp_te c).symm)))
theorem re_terrace {c d : Cor} (h : Rel c d) : (sp_terrace c).1 = (sp_terrace d).1 ∧ Rel (sp_terrace c).2 (sp_terrace d).2 := re_gen (f := fun c => sp_terrace c) (fun _ q => ok_terrace q) (fun c k i => pk_terrace c k i) h
theorem pk_sheet (c : Cor) (k : Ter) (i : Int32) (v1 : Int32) (v2 : Int32) (v3 : Int32) : sp_sheet (cK c k i) v1 v2 v3 = kSI k i (sp_sheet c v1 v2 v3) := by
  unfold sp_sheet
  exact (ki_if (pk_B _ _ _ _) (ki_if (pk_B _ _ _ _) (ki_if (ki_if rfl (pk_B _ _ _ _)) (pk_B _ _ _ _))))
theorem re_sheet {c d : Cor} (h : Rel c d) (v1 : Int32) (v2 : Int32) (v3 : Int32) : (sp_sheet c v1 v2 v3).1 = (sp_sheet d v1 v2 v3).1 ∧ Rel (sp_sheet c v1 v2 v3).2 (sp_sheet d v1 v2 v3).2 := re_gen (f := fun c => sp_sheet c v1 v2 v3) (fun _ q => ok_sheet q v1 v2 v3) (fun c k i => pk_sheet c k i v1 v2 v3) h
theorem pk_write (c : Cor) (k : Ter) (i : Int32) (v1 : Int32) (v2 : Int32) (v3 : Int64) : sp_write (cK c k i) v1 v2 v3 = kSl k i (sp_write c v1 v2 v3) := by
  unfold sp_write
  exact (kl_if (pk_Bl _ _ _ _) (kl_if (pk_Bl _ _ _ _) (kl_if (pk_Bl _ _ _ _) (kl_if rfl (pk_Bl _ _ _ _)))))
theorem re_write {c d : Cor} (h : Rel c d) (v1 : Int32) (v2 : Int32) (v3 : Int64) : (sp_write c v1 v2 v3).1 = (sp_write d v1 v2 v3).1 ∧ Rel (sp_write c v1 v2 v3).2 (sp_write d v1 v2 v3).2 := re_genl (f := fun c => sp_write c v1 v2 v3) (fun _ q => ok_write q v1 v2 v3) (fun c k i => pk_write c k i v1 v2 v3) h
theorem pk_copy (c : Cor) (k : Ter) (i : Int32) (v1 : Int32) (v2 : Int32) (v3 : Int32) (v4 : Int32) (v5 : Int32) : sp_copy (cK c k i) v1 v2 v3 v4 v5 = kSI k i (sp_copy c v1 v2 v3 v4 v5) := by
  unfold sp_copy
  exact (ki_if (pk_B _ _ _ _) (ki_if (pk_B _ _ _ _) (ki_if (pk_B _ _ _ _) (ki_if (pk_B _ _ _ _) (ki_if (ki_if (pk_B _ _ _ _) (ki_if (pk_B _ _ _ _) rfl)) (pk_B _ _ _ _))))))
theorem re_copy {c d : Cor} (h : Rel c d) (v1 : Int32) (v2 : Int32) (v3 : Int32) (v4 : Int32) (v5 : Int32) : (sp_copy c v1 v2 v3 v4 v5).1 = (sp_copy d v1 v2 v3 v4 v5).1 ∧ Rel (sp_copy c v1 v2 v3 v4 v5).2 (sp_copy d v1 v2 v3 v4 v5).2 := re_gen (f := fun c => sp_copy c v1 v2 v3 v4 v5) (fun _ q => ok_copy q v1 v2 v3 v4 v5) (fun c k i => pk_copy c k i v1 v2 v3 v4 v5) h
theorem pk_lays (c : Cor) (k : Ter) (i : Int32) (v1 : Int32) : sp_lays (cK c k i) v1 = kSI k i (sp_lays c v1) := by
  unfold sp_lays
  exact (ki_if (pk_B _ _ _ _) (ki_if (pk_B _ _ _ _) rfl))
theorem re_lays {c d : Cor} (h : Rel c d) (v1 : Int32) : (sp_lays c v1).1 = (sp_lays d v1).1 ∧ Rel (sp_lays c v1).2 (sp_lays d v1).2 := re_gen (f := fun c => sp_lays c v1) (fun _ q => ok_lays q v1) (fun c k i => pk_lays c k i v1) h
theorem pk_book (c : Cor) (k : Ter) (i : Int32) (v1 : Int32) : sp_book (cK c k i) v1 = kSI k i (sp_book c v1) := by
  unfold sp_book
  exact (ki_if (pk_B _ _ _ _) (ki_if (pk_B _ _ _ _) rfl))
theorem re_book {c d : Cor} (h : Rel c d) (v1 : Int32) : (sp_book c v1).1 = (sp_book d v1).1 ∧ Rel (sp_book c v1).2 (sp_book d v1).2 := re_gen (f := fun c => sp_book c v1) (fun _ q => ok_book q v1) (fun c k i => pk_book c k i v1) h
theorem pk_read (c : Cor) (k : Ter) (i : Int32) (v1 : Int32) (v2 : Int32) : sp_read (cK c k i) v1 v2 = kSI k i (sp_read c v1 v2) := by
  unfold sp_read
  exact (ki_if (pk_B _ _ _ _) (ki_if (pk_B _ _ _ _) (ki_if (pk_B _ _ _ _) rfl)))
theorem re_read {c d : Cor} (h : Rel c d) (v1 : Int32) (v2 : Int32) : (sp_read c v1 v2).1 = (sp_read d v1 v2).1 ∧ Rel (sp_read c v1 v2).2 (sp_read d v1 v2).2 := re_gen (f := fun c => sp_read c v1 v2) (fun _ q => ok_read q v1 v2) (fun c k i => pk_read c k i v1 v2) h
theorem pk_count (c : Cor) (k : Ter) (i : Int32) (v1 : Int32) : sp_count (cK c k i) v1 = kSI k i (sp_count c v1) := by
  unfold sp_count
  exact (ki_if rfl (ki_if rfl (ki_if rfl (ki_if rfl (pk_B _ _ _ _)))))
theorem re_count {c d : Cor} (h : Rel c d) (v1 : Int32) : (sp_count c v1).1 = (sp_count d v1).1 ∧ Rel (sp_count c v1).2 (sp_count d v1).2 := re_gen (f := fun c => sp_count c v1) (fun _ q => ok_count q v1) (fun c k i => pk_count c k i v1) h
theorem pk_status (c : Cor) (k : Ter) (i : Int32) (v1 : Int32) : sp_status (cK c k i) v1 = kSI k i (sp_status c v1) := by
  unfold sp_status
  exact (ki_if rfl (ki_if (pk_B _ _ _ _) rfl))
theorem re_status {c d : Cor} (h : Rel c d) (v1 : Int32) : (sp_status c v1).1 = (sp_status d v1).1 ∧ Rel (sp_status c v1).2 (sp_status d v1).2 := re_gen (f := fun c => sp_status c v1) (fun _ q => ok_status q v1) (fun c k i => pk_status c k i v1) h
theorem re_image {c d : Cor} (h : Rel c d) : (sp_image c).1 = (sp_image d).1 ∧ Rel (sp_image c).2 (sp_image d).2 := by
  obtain ⟨h1, h2, k, rfl, h3⟩ := h
  exact ⟨rfl, ok_image h1, ok_image h2, c.1, rfl, Or.inr rfl⟩
theorem re_undo {c d : Cor} (h : Rel c d) : (sp_undo c).1 = (sp_undo d).1 ∧ Rel (sp_undo c).2 (sp_undo d).2 := by
  obtain ⟨h1, h2, k, rfl, h3⟩ := h
  have o1 := ok_undo h1
  have o2 := ok_undo h2
  by_cases q : c.2.2.1 = 0
  · have e1 : sp_undo c = cB (-1000000004) c := if_pos q
    have e2 : sp_undo (cK c k c.2.2.1) = cB (-1000000004) (cK c k c.2.2.1) := if_pos q
    rw [e1] at o1
    rw [e2] at o2
    rw [e1, e2]
    exact ⟨rfl, o1, o2, k, rfl, Or.inl q⟩
  · have e1 : sp_undo c = (c.2.1.1, c.2.1, c.2) := if_neg q
    have e2 : sp_undo (cK c k c.2.2.1) = (k.1, k, k, c.2.2) := if_neg q
    rcases h3 with h3 | h3
    · exact absurd h3 q
    · rw [e1] at o1
      rw [e2] at o2
      rw [e1, e2]
      rw [← h3] at o2 ⊢
      exact ⟨rfl, o1, o2, c.2.1, rfl, Or.inr rfl⟩
theorem re_tear {c d : Cor} (h : Rel c d) : (sp_tear c).1 = (sp_tear d).1 ∧ Rel (sp_tear c).2 (sp_tear d).2 := by
  obtain ⟨h1, h2, k, rfl, h3⟩ := h
  exact ⟨rfl, ok_tear h1, ok_tear h2, k, rfl, Or.inl rfl⟩
theorem tOk_R0 : tOk tR0 := ⟨by unfold vp_in; decide +kernel, fun j hj => by show isW 0 0 5 = 1; decide, fun j hj => by show isW 10 0 20 = 1; decide, by show isW 0 0 99999 = 1; decide⟩
theorem tOk_Z0 : tOk tZ0 := ⟨by unfold vp_in; decide +kernel, fun j hj => by show isW 0 0 5 = 1; decide, fun j hj => by show isW 0 0 20 = 1; decide, by show isW 0 0 99999 = 1; decide⟩
theorem Rel_0 : Rel (cR0 tR0) (cR0 tZ0) := by
  have h0 : isW 0 0 120 = 1 := by decide
  have h1 : isW 0 0 40 = 1 := by decide
  exact ⟨⟨tOk_R0, tOk_R0, h0, fun s hs => h1⟩, ⟨tOk_R0, tOk_Z0, h0, fun s hs => h1⟩, tZ0, rfl, Or.inl rfl⟩
