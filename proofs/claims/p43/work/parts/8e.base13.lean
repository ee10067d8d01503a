/-- the law itself, by whatever name it is called -/
abbrev mL_law (nm : String) : MT := (⟨RL, nm, "([I)Z"⟩, cL_law, 24, some .boolean, [(0, 0, 0, 0)])
def agS (cl : List (Nat → Int32)) (d a : Nat) : Nat → Bool
  | 0 => false
  | b + 1 => agS cl d a b || conS cl d a b
def ndS (cl : List (Nat → Int32)) (d nt a : Nat) : Nat → Bool
  | 0 => conS cl d a a
  | b + 1 => ndS cl d nt a b || (conS cl d a b && !decide (b = a) && !(LIs cl d nt).1.testBit b)
theorem ag_in {cl : List (Nat → Int32)} {d a b : Nat} : ∀ n, b < n → conS cl d a b = true → agS cl d a n = true
  | 0, h, _ => absurd h (Nat.not_lt_zero b)
  | n + 1, h, hc => by
    show (agS cl d a n || conS cl d a n) = true
    by_cases e : b = n
    · rw [← e, hc, Bool.or_true]
    · rw [ag_in n (by omega) hc, Bool.true_or]
theorem nd_0 {cl : List (Nat → Int32)} {d nt a : Nat} (h : conS cl d a a = true) : ∀ n, ndS cl d nt a n = true
  | 0 => h
  | n + 1 => by
    show (ndS cl d nt a n || _) = true
    rw [nd_0 h n, Bool.true_or]
theorem nd_in {cl : List (Nat → Int32)} {d nt a b : Nat} (hb : ¬ b = a) (hc : conS cl d a b = true) (hl : (LIs cl d nt).1.testBit b = false) : ∀ n, b < n → ndS cl d nt a n = true
  | 0, h => absurd h (Nat.not_lt_zero b)
  | n + 1, h => by
    show (ndS cl d nt a n || (conS cl d a n && !decide (n = a) && !(LIs cl d nt).1.testBit n)) = true
    by_cases e : b = n
    · rw [← e, hc, hl, decide_eq_false hb]
      simp
    · rw [nd_in hb hc hl n (by omega), Bool.true_or]
theorem bI_or (a b : Bool) : bI a ||| bI b = bI (a || b) := by cases a <;> cases b <;> decide
theorem bI_b1 (b : Bool) : bI b = nI (b1 b) := by cases b <;> rfl
theorem b_t {b : Bool} (h : ¬ bI b = 0) : b = true := by cases b with | false => exact absurd rfl h | true => rfl
theorem b_f {b : Bool} (h : bI b = 0) : b = false := bI_0.mp h
theorem lcmp_0 (a : Int64) : lg_cmp a a = 0 := (lg_cmp_0 a a).mpr rfl
theorem f_win {cl : List (Nat → Int32)} {ne nt d e c : Nat} (hV : ∀ k, k < cl.length → CV1 ne nt (rw5 cl k)) (hn : nt ≤ 10) (hd : d < 1024) (hc : c < cl.length) (k0 : rw5 cl c 0 = 0) (k2 : rw5 cl c 2 = nI e) (kd : d.testBit (tN (rwK cl 1) c) = false) (hp : 0 < (winS cl d e 100).2.2) : ∃ x y u v : Nat, (winS cl d e 100).1 = nI x ∧ (winS cl d e 100).2.1 = nI y ∧ rw5 cl c 3 = nI u ∧ rw5 cl c 4 = nI v ∧ u ≤ x ∧ x ≤ y ∧ y ≤ v ∧ v < 100 := by
  obtain ⟨x, y, hx, hy, e1, e2, e3, e4⟩ := heard (e := e) hV hn hd cl.length (Nat.le_refl _)
  obtain ⟨u, v, a1, a2, a3, a4, a5, a6⟩ := e4 c hc k0 k2 kd
  rw [win_100 hy e3] at hp ⊢
  by_cases h : x ≤ y
  · rw [if_pos h]
    exact ⟨x, y, u, v, rfl, rfl, a3, a4, a5, h, a6, a2⟩
  · rw [if_neg h] at hp
    exact absurd hp (Nat.lt_irrefl 0)
theorem tn_of {cl : List (Nat → Int32)} {c w : Nat} (h : rw5 cl c 1 = nI w) (hw : w < 1000) : tN (rwK cl 1) c = w := by
  unfold tN
  rw [show rwK cl 1 c = nI w from h, nI_clamp (by omega)]
theorem on_of {cl : List (Nat → Int32)} {c w : Nat} (h : rw5 cl c 2 = nI w) (hw : w < 1000) : tN (rwK cl 2) c = w := by
  unfold tN
  rw [show rwK cl 2 c = nI w from h, nI_clamp (by omega)]
theorem xor_xor (d a : Nat) : (d ^^^ 2 ^ a) ^^^ 2 ^ a = d := by rw [Nat.xor_assoc, Nat.xor_self, Nat.xor_zero]
theorem xor_bit (d a : Nat) : (d ^^^ 2 ^ a).testBit a = !d.testBit a := by rw [Nat.testBit_xor, Nat.testBit_two_pow_self, Bool.xor_true]
theorem xor_on {d a : Nat} (h : d.testBit a = true) : (d ^^^ 2 ^ a) ||| 2 ^ a = d := by
  have e : (d ^^^ 2 ^ a).testBit a = false := by rw [xor_bit, h]; rfl
  rw [(or_off e).1, xor_xor]
