/-- whether an event may stand next, by the claims before c -/
def okA (cl : List (Nat → Int32)) (tr s e : Nat) : Nat → Bool
  | 0 => !s.testBit e
  | c + 1 => okA cl tr s e c && (!decide (rw5 cl c 0 = 1) || !decide (rw5 cl c 3 = nI e) || s.testBit (tN (rwK cl 2) c) || !tr.testBit (tN (rwK cl 1) c))
theorem okA_iff (cl : List (Nat → Int32)) (tr s e : Nat) : ∀ n, okA cl tr s e n = okB (rwK cl 0) (rwK cl 1) (rwK cl 2) (rwK cl 3) n tr s e
  | 0 => by
    unfold okA okB
    rw [decide_eq_true (fun c h => absurd h (Nat.not_lt_zero c)), Bool.and_true]
  | n + 1 => by
    rw [okA, okA_iff cl tr s e n]
    unfold okB
    rw [Bool.and_assoc]
    congr 1
    rw [Bool.eq_iff_iff]
    simp only [Bool.and_eq_true, decide_eq_true_eq, Bool.or_eq_true, Bool.not_eq_true', decide_eq_false_iff_not]
    show (_ ∧ (((¬ rwK cl 0 n = 1 ∨ ¬ rwK cl 3 n = nI e) ∨ s.testBit (tN (rwK cl 2) n) = true) ∨ tr.testBit (tN (rwK cl 1) n) = false)) ↔ _
    constructor
    · rintro ⟨h1, h2⟩ c hc ⟨g1, g2, g3⟩
      by_cases hcn : c < n
      · exact h1 c hcn ⟨g1, g2, g3⟩
      · have e1 : c = n := by omega
        subst e1
        rcases h2 with ((h2 | h2) | h2) | h2
        · exact absurd g1 h2
        · exact absurd g2 h2
        · exact h2
        · rw [h2] at g3
          exact absurd g3 (by decide)
    · intro h
      refine ⟨fun c hc hg => h c (by omega) hg, ?_⟩
      by_cases g1 : rwK cl 0 n = 1
      · by_cases g2 : rwK cl 3 n = nI e
        · cases g3 : tr.testBit (tN (rwK cl 1) n) with
          | false => exact Or.inr rfl
          | true => exact Or.inl (Or.inr (h n (by omega) ⟨g1, g2, g3⟩))
        · exact Or.inl (Or.inl (Or.inr g2))
      · exact Or.inl (Or.inl (Or.inl g1))
abbrev ogS (cl : List (Nat → Int32)) (ne tr k : Nat) : Option (Nat × (Nat → Nat)) := og (rwK cl 0) (rwK cl 1) (rwK cl 2) (rwK cl 3) cl.length ne tr k
/-- the first event that may stand next, of those from p on -/
def nxV : Option Nat → Int32
  | none => -1
  | some e => nI e
def mkF (q : Nat → Nat) (k : Nat) : Nat → Int32 := fun j => if j < k then nI (q j) else 0
theorem mkF_0 (q : Nat → Nat) : (fun _ => (0 : Int32)) = mkF q 0 := by
  funext j
  unfold mkF
  rw [if_neg (by omega)]
theorem mkF_s (q : Nat → Nat) (k e : Nat) : upd (mkF q k) k (nI e) = mkF (fun j => if j = k then e else q j) (k + 1) := by
  funext j
  unfold upd mkF
  by_cases h : j = k
  · subst h
    rw [if_pos rfl, if_pos (by omega)]
    show nI e = nI (if j = j then e else q j)
    rw [if_pos rfl]
  · rw [if_neg h]
    show (if j < k then nI (q j) else 0) = if j < k + 1 then nI (if j = k then e else q j) else 0
    rw [if_neg h]
    by_cases h2 : j < k
    · rw [if_pos h2, if_pos (by omega)]
    · rw [if_neg h2, if_neg (by omega)]
theorem ff_in {P : Nat → Bool} : ∀ k p e, ff P k p = some e → p ≤ e ∧ e < p + k ∧ P e = true
  | 0, _, _, h => nomatch h
  | k + 1, p, e, h => by
    unfold ff at h
    split at h
    · rename_i hp
      cases h
      exact ⟨Nat.le_refl _, by omega, hp⟩
    · obtain ⟨h1, h2, h3⟩ := ff_in k (p + 1) e h
      exact ⟨by omega, by omega, h3⟩
theorem og_lt {cl : List (Nat → Int32)} {ne tr : Nat} : ∀ k q, ogS cl ne tr k = some q → q.1 < 2 ^ ne
  | 0, q, h => by
    cases h
    exact Nat.two_pow_pos _
  | k + 1, q, h => by
    unfold ogS og at h
    split at h
    · cases h
    · rename_i q0 h0
      split at h
      · cases h
      · rename_i e he
        cases h
        exact Nat.or_lt_two_pow (og_lt k q0 h0) (Nat.pow_lt_pow_right (by decide) (by have := ff_in _ _ _ he; omega))
theorem nI_p (k : Nat) : nI (k + 1) + (-1 : Int32) = nI k := by
  rw [← nI_1, Int32.add_assoc]
  exact Int32.add_zero _
theorem nI_m (k : Nat) : nI k - (1 : Int32) = nI k + (-1 : Int32) := by rw [Int32.sub_eq_add_neg]
theorem cv_e {ne nt : Nat} {ca : List Nat} {cl : List (Nat → Int32)} (h : CV ne nt ca cl) (hn : ne < 2147483648) {c : Nat} (hc : c < cl.length) : rw5 cl c 2 = nI (tN (rwK cl 2) c) ∧ tN (rwK cl 2) c < ne := by
  obtain ⟨-, -, ⟨t, h1, h2⟩, -⟩ := h.2.2 c hc
  have e : tN (rwK cl 2) c = t := by unfold tN rwK; rw [h2, nI_clamp (by omega)]
  rw [e]
  exact ⟨h2, h1⟩
theorem nI_leI0 (e : Nat) (h : e < 2147483648) : (0 : Int32) ≤ nI e := (nI_leI (a := 0) (by decide) (by omega)).mpr (Nat.zero_le _)
theorem nI_nlt0 (e : Nat) (h : e < 2147483648) : ¬ nI e < 0 := fun q => by
  have := (nI_ltI (b := 0) (by omega) (by decide)).mp q
  omega
/-- the set of those who are believed and no liars -/
def TrS (nt d l tr : Nat) : Prop := ∀ j, j < nt → tr.testBit j = (!d.testBit j && !l.testBit j)
/-- a row of rows: its places' addresses -/
def raF (ca : List Nat) : Nat → Option Nat := fun k => ca[k]?
theorem raF_up {ca : List Nat} {k : Nat} (h : k < ca.length) : va_up (fun j => if j < k then ca[j]? else none) k (some (ca.getD k 0)) = fun j => if j < k + 1 then ca[j]? else none := by
  funext j
  unfold va_up
  by_cases hj : j = k
  · subst hj
    rw [if_pos rfl, if_pos (by omega), List.getD_eq_getElem?_getD, List.getElem?_eq_getElem h]
    rfl
  · rw [if_neg hj]
    show (if j < k then ca[j]? else none) = _
    by_cases h2 : j < k
    · rw [if_pos h2, if_pos (by omega)]
    · rw [if_neg h2, if_neg (by omega)]
theorem raF_0 (ca : List Nat) : (fun _ => (none : Option Nat)) = fun j => if j < 0 then ca[j]? else none := by
  funext j
  rw [if_neg (by omega)]
theorem raF_app (ca : List Nat) (v : Nat) : va_up (fun j => if j < ca.length then ca[j]? else none) ca.length (some v) = fun k => (ca ++ [v])[k]? := by
  funext j
  unfold va_up
  by_cases hj : j = ca.length
  · subst hj
    rw [if_pos rfl, List.getElem?_append_right (Nat.le_refl _), Nat.sub_self]
    rfl
  · rw [if_neg hj]
    show (if j < ca.length then ca[j]? else none) = _
    by_cases h2 : j < ca.length
    · rw [if_pos h2, List.getElem?_append_left h2]
    · rw [if_neg h2, List.getElem?_eq_none (by rw [List.length_append]; simp; omega)]
