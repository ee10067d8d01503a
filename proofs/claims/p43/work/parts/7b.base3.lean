/-- the hours of an event, one after the other: the first and the last so far, how many -/
def okH (cl : List (Nat → Int32)) (d e h : Nat) : Nat → Bool
  | 0 => true
  | c + 1 => okH cl d e h c && (decide (0 < rw5 cl c 0) || !decide (rw5 cl c 2 = nI e) || d.testBit (tN (rwK cl 1) c) || (!decide (nI h < rw5 cl c 3) && !decide (rw5 cl c 4 < nI h)))
def winS (cl : List (Nat → Int32)) (d e : Nat) : Nat → Int32 × Int32 × Nat
  | 0 => (-1, -1, 0)
  | h + 1 => if okH cl d e h cl.length = true then ((if (winS cl d e h).2.2 = 0 then nI h else (winS cl d e h).1), nI h, (winS cl d e h).2.2 + 1) else winS cl d e h
theorem win_le (cl : List (Nat → Int32)) (d e : Nat) : ∀ h, (winS cl d e h).2.2 ≤ h
  | 0 => Nat.le_refl _
  | h + 1 => by
    have := win_le cl d e h
    rw [winS]
    split
    · show (winS cl d e h).2.2 + 1 ≤ h + 1
      omega
    · omega
def r3 (a b c : Int32) : Nat → Int32 := upd (upd (upd (fun _ => 0) 0 a) 1 b) 2 c
theorem r3_0 (a b c v : Int32) : upd (r3 a b c) 0 v = r3 v b c := by
  funext j
  unfold r3 upd
  by_cases h0 : j = 0
  · subst h0; rfl
  · rw [if_neg h0]
    by_cases h2 : j = 2
    · rw [if_pos h2, if_pos h2]
    · rw [if_neg h2, if_neg h2]
      by_cases h1 : j = 1
      · rw [if_pos h1, if_pos h1]
      · rw [if_neg h1, if_neg h1, if_neg h0, if_neg h0]
theorem r3_1 (a b c v : Int32) : upd (r3 a b c) 1 v = r3 a v c := by
  funext j
  unfold r3 upd
  by_cases h1 : j = 1
  · subst h1; rfl
  · rw [if_neg h1]
    by_cases h2 : j = 2
    · rw [if_pos h2, if_pos h2]
    · rw [if_neg h2, if_neg h2, if_neg h1, if_neg h1]
theorem r3_2 (a b c v : Int32) : upd (r3 a b c) 2 v = r3 a b v := by
  funext j
  unfold r3 upd
  by_cases h2 : j = 2
  · rw [if_pos h2, if_pos h2]
  · rw [if_neg h2, if_neg h2, if_neg h2]
theorem cv_t {ne nt : Nat} {ca : List Nat} {cl : List (Nat → Int32)} (h : CV ne nt ca cl) (hn : nt < 2147483648) {c : Nat} (hc : c < cl.length) : rw5 cl c 1 = nI (tN (rwK cl 1) c) ∧ tN (rwK cl 1) c < nt := by
  obtain ⟨-, ⟨t, h1, h2⟩, -⟩ := h.2.2 c hc
  have e : tN (rwK cl 1) c = t := by unfold tN rwK; rw [h2, nI_clamp (by omega)]
  rw [e]
  exact ⟨h2, h1⟩
