/-! claims: both sides say the same of them -/
def bI (b : Bool) : Int32 := if b = true then 1 else 0
theorem bI_t {b : Bool} (h : b = true) : bI b = 1 := if_pos h
theorem bI_f {b : Bool} (h : b = false) : bI b = 0 := by rw [h]; rfl
theorem bI_0 {b : Bool} : bI b = 0 ↔ b = false := by cases b <;> decide
theorem bI_zB (b : Bool) : zB (bI b) = true := by cases b <;> decide
theorem oB_s {α T : Type} (fail : T) (e : α) (k : α → T) : oB fail (some e) k = k e := rfl
theorem lp_inv {S T : Type} {step : S → S ⊕ T} {fail : T} (I : Nat → S → Prop) (k : Nat) (R : T → Prop) (h1 : ∀ j s, j < k → I j s → ∃ s2, step s = .inl s2 ∧ I (j + 1) s2) (h2 : ∀ s, I k s → ∃ t, step s = .inr t ∧ R t) {n : Nat} {s : S} (hn : k < n) (h0 : I 0 s) : ∃ t, lpS step fail n s = t ∧ R t := by
  have key : ∀ m j n s, j + m = k → m < n → I j s → ∃ t, lpS step fail n s = t ∧ R t := by
    intro m
    induction m with
    | zero =>
      intro j n s hj hn hI
      cases n with
      | zero => omega
      | succ n =>
        have e : j = k := by omega
        subst e
        obtain ⟨t, h3, h4⟩ := h2 s hI
        exact ⟨t, lp_out h3, h4⟩
    | succ m ih =>
      intro j n s hj hn hI
      cases n with
      | zero => omega
      | succ n =>
        obtain ⟨s2, h3, h4⟩ := h1 j s (by omega) hI
        rw [lp_in h3]
        exact ih (j + 1) n s2 (by omega) (by omega) h4
  exact key k 0 n s (by omega) hn h0
theorem rs {n j : Nat} {f : Nat → Int32} {v : Int32} (h : j < n) (hn : n < 2147483648) : rset n f (nI j) v = upd f j v := by
  unfold rset
  rw [if_pos (ib_nI h hn), nI_clamp (by omega)]
/-- what is contrary -/
def ctB (k1 e1 f1 l1 k2 e2 f2 l2 : Int32) : Bool :=
  if k1 = 0 then (if k2 = 0 then decide (e1 = e2) && (decide (l1 < f2) || decide (l2 < f1)) else false)
  else if k2 = 0 then false
  else if k1 = k2 then (if k1 = 1 then decide (e1 = f2) && decide (f1 = e2) else false)
  else (decide (e1 = f2) && decide (f1 = e2)) || (decide (e1 = e2) && decide (f1 = f2))
theorem ctB_sym (k1 e1 f1 l1 k2 e2 f2 l2 : Int32) : ctB k1 e1 f1 l1 k2 e2 f2 l2 = ctB k2 e2 f2 l2 k1 e1 f1 l1 := by
  unfold ctB
  have t1 : decide (e1 = e2) = decide (e2 = e1) := decide_eq_decide.mpr eq_comm
  have t2 : decide (e1 = f2) = decide (f2 = e1) := decide_eq_decide.mpr eq_comm
  have t3 : decide (f1 = e2) = decide (e2 = f1) := decide_eq_decide.mpr eq_comm
  have t4 : decide (f1 = f2) = decide (f2 = f1) := decide_eq_decide.mpr eq_comm
  rw [t1, t2, t3, t4]
  by_cases h1 : k1 = 0
  · by_cases h2 : k2 = 0
    · simp only [if_pos h1, if_pos h2]
      rw [Bool.or_comm]
    · simp only [if_pos h1, if_neg h2]
  · by_cases h2 : k2 = 0
    · simp only [if_neg h1, if_pos h2]
    · by_cases h3 : k1 = k2
      · subst h3
        simp only [if_neg h1, if_true]
        by_cases h4 : k1 = 1
        · simp only [if_pos h4]
          rw [Bool.and_comm]
        · simp only [if_neg h4]
      · have h4 : ¬ k2 = k1 := fun h => h3 h.symm
        simp only [if_neg h1, if_neg h2, if_neg h3, if_neg h4]
        rw [Bool.and_comm]
theorem x_ctr {xK xE xF xL : Nat → Int32} {a b : Nat} (ha : a < 40) (hb : b < 40) : f_Cl_contradict xK xE xF xL (nI a) (nI b) = bI (ctB (xK a) (xE a) (xF a) (xL a) (xK b) (xE b) (xF b) (xL b)) := by
  unfold f_Cl_contradict
  have g1 : ∀ f, rget 40 f (nI a) = f a := fun f => rg ha (by decide)
  have g2 : ∀ f, rget 40 f (nI b) = f b := fun f => rg hb (by decide)
  simp only [g1, g2]
  generalize xK a = k1
  generalize xE a = e1
  generalize xF a = f1
  generalize xL a = l1
  generalize xK b = k2
  generalize xE b = e2
  generalize xF b = f2
  generalize xL b = l2
  unfold ctB
  by_cases h1 : k1 = 0
  · simp only [if_pos h1]
    by_cases h2 : k2 = 0
    · simp only [if_pos h2]
      by_cases h3 : e1 = e2
      · simp only [if_pos h3]
        by_cases h4 : l1 < f2
        · simp only [if_pos h4, decide_eq_true h3, decide_eq_true h4]; rfl
        · simp only [if_neg h4]
          by_cases h5 : f1 ≤ l2
          · have h6 : ¬ l2 < f1 := Int32.not_lt.mpr h5
            simp only [if_pos h5, decide_eq_true h3, decide_eq_false h4, decide_eq_false h6]; rfl
          · have h6 : l2 < f1 := Int32.not_le.mp h5
            simp only [if_neg h5, decide_eq_true h3, decide_eq_false h4, decide_eq_true h6]; rfl
      · simp only [if_neg h3, decide_eq_false h3]; rfl
    · simp only [if_neg h2]; rfl
  · simp only [if_neg h1]
    by_cases h2 : k2 = 0
    · simp only [if_pos h2]; rfl
    · simp only [if_neg h2]
      by_cases h3 : k1 = k2
      · subst h3
        simp only [if_true]
        by_cases h4 : k1 = 1
        · simp only [if_pos h4]
          by_cases h5 : e1 = f2
          · simp only [if_pos h5, decide_eq_true h5]
            by_cases h6 : f1 = e2
            · simp only [if_pos h6, decide_eq_true h6]
              split <;> (try split) <;> rfl
            · simp only [if_neg h6, decide_eq_false h6]
              split <;> (try split) <;> rfl
          · simp only [if_neg h5, decide_eq_false h5]
            split <;> (try split) <;> rfl
        · simp only [if_neg h4]
          split <;> (try split) <;> (try split) <;> (try split) <;> rfl
      · simp only [if_neg h3]
        have hk : ∀ (α : Type) (x y : α), (if k1 = 1 then (if k2 = 1 then x else y) else y) = y := by
          intro α x y
          by_cases h4 : k1 = 1
          · rw [if_pos h4, if_neg (fun h5 => h3 (h4.trans h5.symm))]
          · rw [if_neg h4]
        simp only [hk]
        by_cases h5 : e1 = f2
        · simp only [if_pos h5, decide_eq_true h5]
          by_cases h6 : f1 = e2
          · simp only [if_pos h6, decide_eq_true h6]
            split <;> (try split) <;> rfl
          · simp only [if_neg h6, decide_eq_false h6]
            by_cases h7 : e1 = e2
            · simp only [if_pos h7, decide_eq_true h7]
              by_cases h8 : f1 = f2
              · simp only [if_pos h8, decide_eq_true h8]; rfl
              · simp only [if_neg h8, decide_eq_false h8]; rfl
            · simp only [if_neg h7, decide_eq_false h7]; rfl
        · simp only [if_neg h5, decide_eq_false h5]
          by_cases h7 : e1 = e2
          · simp only [if_pos h7, decide_eq_true h7]
            by_cases h8 : f1 = f2
            · simp only [if_pos h8, decide_eq_true h8]; rfl
            · simp only [if_neg h8, decide_eq_false h8]; rfl
          · simp only [if_neg h7, decide_eq_false h7]; rfl
def k3 (k : Int32) : Prop := k = 0 ∨ k = 1 ∨ k = 2
