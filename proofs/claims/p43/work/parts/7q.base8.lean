/-- how many tokens a tree's text has at most -/
def tkn : ∀ k, TT k → Nat
  | 0, T => nomatch T
  | k + 1, T =>
    let a : Nat := match T.2.1 with | none => 0 | some x => tkn k x
    let b : Nat := match T.2.2 with | none => 0 | some x => tkn k x
    match T.2.1 with
    | none => 3
    | some _ => if 20 ≤ T.1.2.1 ∧ T.1.2.1 < 25 then a + b + 1 else a + b + 5
theorem tkn_1 {k a kd n o : Nat} {x : TT k} (h : ¬ (20 ≤ kd ∧ kd < 25)) : tkn (k + 1) ((a, kd, n, o), some x, none) = tkn k x + 0 + 5 := if_neg h
theorem tkn_2 {k a kd n o : Nat} {x y : TT k} (h : ¬ (20 ≤ kd ∧ kd < 25)) : tkn (k + 1) ((a, kd, n, o), some x, some y) = tkn k x + tkn k y + 5 := if_neg h
theorem tkn_c {k a kd n o : Nat} {x y : TT k} (h : 20 ≤ kd ∧ kd < 25) : tkn (k + 1) ((a, kd, n, o), some x, some y) = tkn k x + tkn k y + 1 := if_pos h
def sB (deep : Nat) : Nat := if deep = 0 then 27 else if deep = 1 then 11 else 3
def tB (deep : Nat) : Nat := if deep = 0 then 43 else if deep = 1 then 19 else 7
theorem sB_lo (deep : Nat) : 3 ≤ sB deep := by unfold sB; split; decide; split <;> decide
theorem tB_lo (deep : Nat) : 3 ≤ tB deep := by unfold tB; split; decide; split <;> decide
theorem d01 {d : Nat} (h : d ≤ 1) : d = 0 ∨ d = 1 := by omega
theorem sB_s {deep a b : Nat} (h : deep ≤ 1) (ha : a ≤ sB (deep + 1)) (hb : b ≤ sB (deep + 1)) : a + b + 5 ≤ sB deep := by
  rcases d01 h with rfl | rfl
  · have h1 : sB (0 + 1) = 11 := rfl
    have h2 : sB 0 = 27 := rfl
    omega
  · have h1 : sB (1 + 1) = 3 := rfl
    have h2 : sB 1 = 11 := rfl
    omega
theorem tB_s {deep a b : Nat} (h : deep ≤ 1) (ha : a ≤ tB (deep + 1)) (hb : b ≤ tB (deep + 1)) : a + b + 5 ≤ tB deep := by
  rcases d01 h with rfl | rfl
  · have h1 : tB (0 + 1) = 19 := rfl
    have h2 : tB 0 = 43 := rfl
    omega
  · have h1 : tB (1 + 1) = 7 := rfl
    have h2 : tB 1 = 19 := rfl
    omega
theorem sT_s {deep a b : Nat} (ha : a ≤ sB (deep + 1)) (hb : b ≤ sB (deep + 1)) : a + b + 1 ≤ tB deep := by
  by_cases h : deep ≤ 1
  · rcases d01 h with rfl | rfl
    · have h1 : sB (0 + 1) = 11 := rfl
      have h2 : tB 0 = 43 := rfl
      omega
    · have h1 : sB (1 + 1) = 3 := rfl
      have h2 : tB 1 = 19 := rfl
      omega
  · have h1 : sB (deep + 1) = 3 := by unfold sB; rw [if_neg (by omega), if_neg (by omega)]
    have h2 : tB deep = 7 := by unfold tB; rw [if_neg (by omega), if_neg (by omega)]
    omega
theorem TM.leaf {g : GG} {w : va_W} {k a kd n o : Nat} (h : (a, .inr (11, [.int (nI kd), .int (nI n), .int (nI o), .null, .null])) ∈ w) : TM g w (k + 1) ((a, kd, n, o), none, none) := ⟨h, fun _ e => (nomatch e), fun _ e => (nomatch e)⟩
theorem TM.one {g : GG} {w : va_W} {k a kd n o : Nat} {x : TT k} (h : (a, .inr (11, [.int (nI kd), .int (nI n), .int (nI o), .ref (tA k x), .null])) ∈ w) (hx : TM g w k x) : TM g w (k + 1) ((a, kd, n, o), some x, none) := ⟨h, fun _ e => by cases e; exact hx, fun _ e => (nomatch e)⟩
theorem TM.two {g : GG} {w : va_W} {k a kd n o : Nat} {x y : TT k} (h : (a, .inr (11, [.int (nI kd), .int (nI n), .int (nI o), .ref (tA k x), .ref (tA k y)])) ∈ w) (hx : TM g w k x) (hy : TM g w k y) : TM g w (k + 1) ((a, kd, n, o), some x, some y) := ⟨h, fun _ e => by cases e; exact hx, fun _ e => by cases e; exact hy⟩
theorem TE.one {ne nt k a n o : Nat} {x : TT k} (hx : TE ne nt k x) : TE ne nt (k + 1) ((a, 6, n, o), some x, none) := Or.inr (Or.inr (Or.inr (Or.inr (Or.inl ⟨rfl, x, rfl, hx⟩))))
theorem TE.two {ne nt k a kd n o : Nat} {x y : TT k} (hk : kd = 7 ∨ kd = 8 ∨ kd = 9 ∨ kd = 10 ∨ kd = 11 ∨ kd = 12) (hx : TE ne nt k x) (hy : TE ne nt k y) : TE ne nt (k + 1) ((a, kd, n, o), some x, some y) := Or.inr (Or.inr (Or.inr (Or.inr (Or.inr ⟨hk, x, y, rfl, hx, hy⟩))))
theorem TE.leaf {ne nt k a kd n o : Nat} (hk : kd < 6) (hm : (kd = 0 ∧ n < 1000000) ∨ (kd = 5 ∧ n < ne) ∨ (¬ kd = 0 ∧ ¬ kd = 5 ∧ n < nt)) : TE ne nt (k + 1) ((a, kd, n, o), none, none) := by
  have hc : kd = 0 ∨ kd = 1 ∨ kd = 2 ∨ kd = 3 ∨ kd = 4 ∨ kd = 5 := by omega
  rcases hc with rfl | rfl | rfl | rfl | rfl | rfl
  · exact Or.inl ⟨rfl, by show n < 1000000; omega, rfl⟩
  · exact Or.inr (Or.inl ⟨Or.inl rfl, rfl⟩)
  · exact Or.inr (Or.inl ⟨Or.inr (Or.inl rfl), rfl⟩)
  · exact Or.inr (Or.inl ⟨Or.inr (Or.inr rfl), rfl⟩)
  · exact Or.inr (Or.inr (Or.inl ⟨rfl, by show n < nt; omega, rfl⟩))
  · exact Or.inr (Or.inr (Or.inr (Or.inl ⟨rfl, by show n < ne; omega, rfl⟩)))
theorem TB.cmp {ne nt k a kd n o : Nat} {x y : TT k} (hk : 20 ≤ kd) (hk2 : kd < 25) (hx : TE ne nt k x) (hy : TE ne nt k y) : TB ne nt (k + 1) ((a, kd, n, o), some x, some y) := Or.inl ⟨by show kd = 20 ∨ kd = 21 ∨ kd = 22 ∨ kd = 23 ∨ kd = 24; omega, x, y, rfl, hx, hy⟩
theorem TB.leaf {ne nt k a kd n o : Nat} (hk : 25 ≤ kd) (hk2 : kd < 29) (hm : (kd = 28 ∧ n < ne) ∨ (¬ kd = 28 ∧ n < nt)) (ho : o < nt) : TB ne nt (k + 1) ((a, kd, n, o), none, none) := by
  have hc : kd = 25 ∨ kd = 26 ∨ kd = 27 ∨ kd = 28 := by omega
  rcases hc with rfl | rfl | rfl | rfl
  · exact Or.inr (Or.inl ⟨rfl, by show n < nt; omega, ho, rfl⟩)
  · exact Or.inr (Or.inr (Or.inl ⟨Or.inl rfl, by show n < nt; omega, rfl⟩))
  · exact Or.inr (Or.inr (Or.inl ⟨Or.inr rfl, by show n < nt; omega, rfl⟩))
  · exact Or.inr (Or.inr (Or.inr (Or.inl ⟨rfl, by show n < ne; omega, rfl⟩)))
theorem TB.one {ne nt k a n o : Nat} {x : TT k} (hx : TB ne nt k x) : TB ne nt (k + 1) ((a, 29, n, o), some x, none) := Or.inr (Or.inr (Or.inr (Or.inr (Or.inl ⟨rfl, x, rfl, hx⟩))))
theorem TB.two {ne nt k a kd n o : Nat} {x y : TT k} (hk : kd = 30 ∨ kd = 31) (hx : TB ne nt k x) (hy : TB ne nt k y) : TB ne nt (k + 1) ((a, kd, n, o), some x, some y) := Or.inr (Or.inr (Or.inr (Or.inr (Or.inr ⟨hk, x, y, rfl, hx, hy⟩))))
