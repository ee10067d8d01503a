/-- a tree of at most k nodes from the top down: where it lies, kind, number, other, and its parts -/
def TT : Nat → Type
  | 0 => Empty
  | k + 1 => (Nat × Nat × Nat × Nat) × Option (TT k) × Option (TT k)
def tA : ∀ k, TT k → Nat
  | 0, T => nomatch T
  | _ + 1, T => T.1.1
def tv (k : Nat) : Option (TT k) → Value
  | none => .null
  | some T => .ref (tA k T)
/-- the tree lies in the world -/
def TM (g : GG) (t : va_W) : ∀ k, TT k → Prop
  | 0, T => nomatch T
  | k + 1, T => (T.1.1, .inr (11, [.int (nI T.1.2.1), .int (nI T.1.2.2.1), .int (nI T.1.2.2.2), tv k T.2.1, tv k T.2.2])) ∈ t ∧ (∀ x, T.2.1 = some x → TM g t k x) ∧ (∀ x, T.2.2 = some x → TM g t k x)
theorem TM.mono {g : GG} {t t2 : va_W} (h : ∀ p ∈ t, p ∈ t2) : ∀ k T, TM g t k T → TM g t2 k T
  | 0, T => nomatch T
  | k + 1, _ => fun ⟨h1, h2, h3⟩ => ⟨h _ h1, fun x e => TM.mono h k x (h2 x e), fun x e => TM.mono h k x (h3 x e)⟩
/-- sums: a number, what is counted, a teller's claims, an event's window, a turned one, two -/
def TE (ne nt : Nat) : ∀ k, TT k → Prop
  | 0, T => nomatch T
  | k + 1, T => (T.1.2.1 = 0 ∧ T.1.2.2.1 < 1000000 ∧ T.2 = (none, none)) ∨ ((T.1.2.1 = 1 ∨ T.1.2.1 = 2 ∨ T.1.2.1 = 3) ∧ T.2 = (none, none)) ∨ (T.1.2.1 = 4 ∧ T.1.2.2.1 < nt ∧ T.2 = (none, none)) ∨ (T.1.2.1 = 5 ∧ T.1.2.2.1 < ne ∧ T.2 = (none, none)) ∨
      (T.1.2.1 = 6 ∧ ∃ x, T.2 = (some x, none) ∧ TE ne nt k x) ∨ ((T.1.2.1 = 7 ∨ T.1.2.1 = 8 ∨ T.1.2.1 = 9 ∨ T.1.2.1 = 10 ∨ T.1.2.1 = 11 ∨ T.1.2.1 = 12) ∧ ∃ x y, T.2 = (some x, some y) ∧ TE ne nt k x ∧ TE ne nt k y)
/-- tests -/
def TB (ne nt : Nat) : ∀ k, TT k → Prop
  | 0, T => nomatch T
  | k + 1, T => ((T.1.2.1 = 20 ∨ T.1.2.1 = 21 ∨ T.1.2.1 = 22 ∨ T.1.2.1 = 23 ∨ T.1.2.1 = 24) ∧ ∃ x y, T.2 = (some x, some y) ∧ TE ne nt k x ∧ TE ne nt k y) ∨ (T.1.2.1 = 25 ∧ T.1.2.2.1 < nt ∧ T.1.2.2.2 < nt ∧ T.2 = (none, none)) ∨ ((T.1.2.1 = 26 ∨ T.1.2.1 = 27) ∧ T.1.2.2.1 < nt ∧ T.2 = (none, none)) ∨
      (T.1.2.1 = 28 ∧ T.1.2.2.1 < ne ∧ T.2 = (none, none)) ∨ (T.1.2.1 = 29 ∧ ∃ x, T.2 = (some x, none) ∧ TB ne nt k x) ∨ ((T.1.2.1 = 30 ∨ T.1.2.1 = 31) ∧ ∃ x y, T.2 = (some x, some y) ∧ TB ne nt k x ∧ TB ne nt k y)
def o2 (kd : Nat) (x y : Int32) : Int32 := match kd with
  | 7 => x + y
  | 8 => x - y
  | 9 => x * y
  | 10 => if y = 0 then 0 else if y = -1 then -x else x / y
  | 11 => if x < y then x else y
  | 12 => if x < y then y else x
  | 20 => bI (decide (x < y))
  | 21 => bI (decide (y < x))
  | 22 => bI (decide (x = y))
  | 23 => bI (!decide (y < x))
  | 24 => bI (!decide (x < y))
  | 30 => bI (decide (x + y = 2))
  | _ => bI (decide (0 < x + y))
/-- what the tree gives -/
def vlE (cl : List (Nat → Int32)) (d nt : Nat) (ev : Int32) : ∀ k, TT k → Int32
  | 0, T => nomatch T
  | k + 1, T =>
    let va : Int32 := match T.2.1 with | none => 0 | some x => vlE cl d nt ev k x
    let vb : Int32 := match T.2.2 with | none => 0 | some x => vlE cl d nt ev k x
    match T.1.2.1 with
    | 0 => nI T.1.2.2.1
    | 1 => ev
    | 2 => suS (dbF (dcd cl d nt nt 0 (0, 0, 99)).1) nt
    | 3 => nI (pnS cl d nt nt)
    | 4 => nI (cntS cl (nI T.1.2.2.1) cl.length)
    | 5 => nI (winS cl d T.1.2.2.1 100).2.2
    | 6 => -va
    | 25 => bI (conS cl d T.1.2.2.1 T.1.2.2.2)
    | 26 => dbF (dcd cl d nt nt 0 (0, 0, 99)).1 T.1.2.2.1
    | 27 => dbF d T.1.2.2.1
    | 28 => bI (decide (0 < (winS cl d T.1.2.2.1 100).2.2))
    | 29 => 1 - va
    | kd => o2 kd va vb
theorem bI_inj {a b : Bool} (h : bI a = bI b) : a = b := by
  revert h
  cases a <;> cases b <;> decide
theorem TM.cell {g : GG} {t : va_W} : ∀ k T, TM g t k T → ∃ fs, (tA k T, .inr (11, fs)) ∈ t
  | 0, T => nomatch T
  | _ + 1, _ => fun h => ⟨_, h.1⟩
theorem tr_kids {ne nt k a kd n o : Nat} {ta tb : Option (TT k)} (hk : TE ne nt (k + 1) ((a, kd, n, o), ta, tb) ∨ TB ne nt (k + 1) ((a, kd, n, o), ta, tb)) : (kd = 0 ∧ n < 1000000) ∨ kd = 1 ∨ kd = 2 ∨ kd = 3 ∨ (kd = 4 ∧ n < nt) ∨ (kd = 5 ∧ n < ne) ∨ ((kd = 6 ∨ kd = 29) ∧ ∃ x, ta = some x ∧ (TE ne nt k x ∨ TB ne nt k x)) ∨ ((kd = 7 ∨ kd = 8 ∨ kd = 9 ∨ kd = 10 ∨ kd = 11 ∨ kd = 12 ∨ kd = 20 ∨ kd = 21 ∨ kd = 22 ∨ kd = 23 ∨ kd = 24 ∨ kd = 30 ∨ kd = 31) ∧ ∃ x y, ta = some x ∧ tb = some y ∧ (TE ne nt k x ∨ TB ne nt k x) ∧ (TE ne nt k y ∨ TB ne nt k y)) ∨ (kd = 25 ∧ n < nt ∧ o < nt) ∨ (kd = 26 ∧ n < nt) ∨ (kd = 27 ∧ n < nt) ∨ (kd = 28 ∧ n < ne) := by
  rcases hk with h | h
  · rcases h with ⟨h1, h2, -⟩ | ⟨h1 | h1 | h1, -⟩ | ⟨h1, h2, -⟩ | ⟨h1, h2, -⟩ | ⟨h1, x, h2, h3⟩ | ⟨h1, x, y, h2, h3, h4⟩
    · exact Or.inl (⟨h1, h2⟩)
    · exact Or.inr (Or.inl (h1))
    · exact Or.inr (Or.inr (Or.inl (h1)))
    · exact Or.inr (Or.inr (Or.inr (Or.inl (h1))))
    · exact Or.inr (Or.inr (Or.inr (Or.inr (Or.inl (⟨h1, h2⟩)))))
    · exact Or.inr (Or.inr (Or.inr (Or.inr (Or.inr (Or.inl (⟨h1, h2⟩))))))
    · exact Or.inr (Or.inr (Or.inr (Or.inr (Or.inr (Or.inr (Or.inl (⟨Or.inl h1, x, congrArg Prod.fst h2, Or.inl h3⟩)))))))
    · refine Or.inr (Or.inr (Or.inr (Or.inr (Or.inr (Or.inr (Or.inr (Or.inl (⟨?_, x, y, congrArg Prod.fst h2, congrArg Prod.snd h2, Or.inl h3, Or.inl h4⟩))))))))
      rcases h1 with h1 | h1 | h1 | h1 | h1 | h1
      · exact Or.inl (h1)
      · exact Or.inr (Or.inl (h1))
      · exact Or.inr (Or.inr (Or.inl (h1)))
      · exact Or.inr (Or.inr (Or.inr (Or.inl (h1))))
      · exact Or.inr (Or.inr (Or.inr (Or.inr (Or.inl (h1)))))
      · exact Or.inr (Or.inr (Or.inr (Or.inr (Or.inr (Or.inl (h1))))))
  · rcases h with ⟨h1, x, y, h2, h3, h4⟩ | ⟨h1, h2, h3, -⟩ | ⟨h1 | h1, h2, -⟩ | ⟨h1, h2, -⟩ | ⟨h1, x, h2, h3⟩ | ⟨h1, x, y, h2, h3, h4⟩
    · refine Or.inr (Or.inr (Or.inr (Or.inr (Or.inr (Or.inr (Or.inr (Or.inl (⟨?_, x, y, congrArg Prod.fst h2, congrArg Prod.snd h2, Or.inl h3, Or.inl h4⟩))))))))
      rcases h1 with h1 | h1 | h1 | h1 | h1
      · exact Or.inr (Or.inr (Or.inr (Or.inr (Or.inr (Or.inr (Or.inl (h1)))))))
      · exact Or.inr (Or.inr (Or.inr (Or.inr (Or.inr (Or.inr (Or.inr (Or.inl (h1))))))))
      · exact Or.inr (Or.inr (Or.inr (Or.inr (Or.inr (Or.inr (Or.inr (Or.inr (Or.inl (h1)))))))))
      · exact Or.inr (Or.inr (Or.inr (Or.inr (Or.inr (Or.inr (Or.inr (Or.inr (Or.inr (Or.inl (h1))))))))))
      · exact Or.inr (Or.inr (Or.inr (Or.inr (Or.inr (Or.inr (Or.inr (Or.inr (Or.inr (Or.inr (Or.inl (h1)))))))))))
    · exact Or.inr (Or.inr (Or.inr (Or.inr (Or.inr (Or.inr (Or.inr (Or.inr (Or.inl (⟨h1, h2, h3⟩)))))))))
    · exact Or.inr (Or.inr (Or.inr (Or.inr (Or.inr (Or.inr (Or.inr (Or.inr (Or.inr (Or.inl (⟨h1, h2⟩))))))))))
    · exact Or.inr (Or.inr (Or.inr (Or.inr (Or.inr (Or.inr (Or.inr (Or.inr (Or.inr (Or.inr (Or.inl (⟨h1, h2⟩)))))))))))
    · exact Or.inr (Or.inr (Or.inr (Or.inr (Or.inr (Or.inr (Or.inr (Or.inr (Or.inr (Or.inr (Or.inr (⟨h1, h2⟩)))))))))))
    · exact Or.inr (Or.inr (Or.inr (Or.inr (Or.inr (Or.inr (Or.inl (⟨Or.inr h1, x, congrArg Prod.fst h2, Or.inr h3⟩)))))))
    · refine Or.inr (Or.inr (Or.inr (Or.inr (Or.inr (Or.inr (Or.inr (Or.inl (⟨?_, x, y, congrArg Prod.fst h2, congrArg Prod.snd h2, Or.inr h3, Or.inr h4⟩))))))))
      rcases h1 with h1 | h1
      · exact Or.inr (Or.inr (Or.inr (Or.inr (Or.inr (Or.inr (Or.inr (Or.inr (Or.inr (Or.inr (Or.inr (Or.inl (h1))))))))))))
      · exact Or.inr (Or.inr (Or.inr (Or.inr (Or.inr (Or.inr (Or.inr (Or.inr (Or.inr (Or.inr (Or.inr (Or.inr (h1))))))))))))
theorem SimM.add {g : GG} {t : va_W} {s aC aD aO aT ne nt : Nat} {ev cr : Int32} {ca : List Nat} {cl : List (Nat → Int32)} {d : Nat} (h : SimM g t s aC aD aO aT ne nt ev cr ca cl d) {t2 : va_W} (hm : ∀ p ∈ t, p ∈ t2) : SimM g t2 s aC aD aO aT ne nt ev cr ca cl d :=
  ⟨hm _ h.1, hm _ h.2.1, fun k hk => hm _ (h.2.2.1 k hk), hm _ h.2.2.2⟩
theorem dbF_set {d w : Nat} (b : Bool) : upd (dbF d) w (bI b) = dbF (if d.testBit w = b then d else d ^^^ 2 ^ w) := by
  funext j
  unfold upd
  by_cases h : j = w
  · subst h
    rw [if_pos rfl]
    by_cases h2 : d.testBit j = b
    · rw [if_pos h2, ← h2]
      unfold dbF bI
      rfl
    · rw [if_neg h2]
      unfold dbF bI
      rw [Nat.testBit_xor, Nat.testBit_two_pow_self, Bool.xor_true]
      cases hb : b <;> cases hd : d.testBit j <;> simp_all
  · rw [if_neg h]
    by_cases h2 : d.testBit w = b
    · rw [if_pos h2]
    · rw [if_neg h2]
      unfold dbF
      rw [Nat.testBit_xor, Nat.testBit_two_pow_of_ne (fun e => h e.symm), Bool.xor_false]
/-- an order: to doubt or to believe, whom, with a test or none -/
abbrev OT : Type := Bool × Nat × Option (TT 4)
def goesO (cl : List (Nat → Int32)) (d nt : Nat) (ev : Int32) (o : OT) : Bool := match o.2.2 with
  | none => true
  | some T => decide (vlE cl d nt ev 4 T = 1)
/-- one order at an evening -/
def stO (cl : List (Nat → Int32)) (nt : Nat) (ev : Int32) (q : Nat × Int32) (o : OT) : Nat × Int32 :=
  if goesO cl q.1 nt ev o = true then (if q.1.testBit o.2.1 = o.1 then q else (q.1 ^^^ 2 ^ o.2.1, q.2 + 1)) else q
def oG (os : List OT) (k : Nat) : OT := os.getD k (false, 0, none)
def psO (cl : List (Nat → Int32)) (nt : Nat) (ev : Int32) (os : List OT) : Nat → Nat × Int32 → Nat × Int32
  | 0, q => q
  | k + 1, q => stO cl nt ev (psO cl nt ev os k q) (oG os k)
def oT (os : List OT) (k : Nat) : Option Nat := match (oG os k).2.2 with
  | none => none
  | some T => some (tA 4 T)
theorem oT_n {os : List OT} {k : Nat} (h : (oG os k).2.2 = none) : oT os k = none := by
  unfold oT
  rw [h]
theorem oT_s {os : List OT} {k : Nat} {T : TT 4} (h : (oG os k).2.2 = some T) : oT os k = some (tA 4 T) := by
  unfold oT
  rw [h]
def oR (os : List OT) (k : Nat) : Nat → Int32 := fun j => if j = 0 then bI (oG os k).1 else if j = 1 then nI (oG os k).2.1 else 0
/-- orders as they may be, in the world: their row, the tests' row -/
def OM (g : GG) (ne nt : Nat) (t : va_W) (aO aT : Nat) (oa : List Nat) (os : List OT) : Prop :=
  oa.length = os.length ∧ os.length ≤ 4 ∧ (aO, qA g 4 oa.length (fun k => oa[k]?)) ∈ t ∧ (aT, qA g 6 oa.length (oT os)) ∈ t ∧
  ∀ k, k < os.length → (oa.getD k 0, iA g 2 (oR os k)) ∈ t ∧ (oG os k).2.1 < nt ∧ ∀ T, (oG os k).2.2 = some T → TM g t 4 T ∧ TB ne nt 4 T
/-- the claims' rows in the world -/
def SimR (g : GG) (t : va_W) (aC : Nat) (ca : List Nat) (cl : List (Nat → Int32)) : Prop := (aC, qA g 4 ca.length (fun k => ca[k]?)) ∈ t ∧ ∀ k, k < ca.length → (ca.getD k 0, iA g 5 (rw5 cl k)) ∈ t
abbrev simO (s aC aD aO aT ne nt : Nat) (ev cr : Int32) : Nat × va_E := (s, .inr (10, [.int (nI ne), .int (nI nt), .ref aC, .ref aD, .ref aO, .ref aT, .int ev, .int cr]))
theorem SimR.m {g : GG} {t : va_W} {s aC aD aO aT ne nt : Nat} {ev cr : Int32} {ca : List Nat} {cl : List (Nat → Int32)} {d : Nat} (h : SimR g t aC ca cl) : SimM g (simO s aC aD aO aT ne nt ev cr :: (aD, zA g 10 (dbF d)) :: t) s aC aD aO aT ne nt ev cr ca cl d :=
  ⟨List.mem_cons_self, List.mem_cons_of_mem _ (List.mem_cons_of_mem _ h.1), fun k hk => List.mem_cons_of_mem _ (List.mem_cons_of_mem _ (h.2 k hk)), List.mem_cons_of_mem _ List.mem_cons_self⟩
theorem psO_lt {cl : List (Nat → Int32)} {nt : Nat} {ev : Int32} {os : List OT} : ∀ k q, (∀ j, j < k → (oG os j).2.1 < 10) → q.1 < 1024 → (psO cl nt ev os k q).1 < 1024
  | 0, q, _, h => h
  | k + 1, q, hw, h => by
    have h1 := psO_lt (cl := cl) (nt := nt) (ev := ev) (os := os) k q (fun j hj => hw j (by omega)) h
    show (stO cl nt ev (psO cl nt ev os k q) (oG os k)).1 < 1024
    unfold stO
    split
    · split
      · exact h1
      · exact Nat.xor_lt_two_pow (n := 10) h1 (Nat.pow_lt_pow_right (by decide) (hw k (by omega)))
    · exact h1
