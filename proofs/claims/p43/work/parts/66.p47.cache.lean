/-! what is kept of judging and looking -/
theorem lp_inv2 {S T : Type} {step : S → S ⊕ T} {fail : T} (I : Nat → S → Prop) (k : Nat) (R : T → Prop) (h1 : ∀ j s, j < k → I j s → (∃ s2, step s = .inl s2 ∧ I (j + 1) s2) ∨ (∃ t, step s = .inr t ∧ R t)) (h2 : ∀ s, I k s → ∃ t, step s = .inr t ∧ R t) {n : Nat} {s : S} (hn : k < n) (h0 : I 0 s) : ∃ t, lpS step fail n s = t ∧ R t := by
  have key : ∀ m j n s, j + m = k → m < n → I j s → ∃ t, lpS step fail n s = t ∧ R t := by
    intro m
    induction m with
    | zero =>
      intro j n s hj hn hI
      cases n with
      | zero => omega
      | succ n =>
        have e : j = k := by omega
        subst e
        obtain ⟨t, h3, h4⟩ := h2 s hI
        exact ⟨t, lp_out h3, h4⟩
    | succ m ih =>
      intro j n s hj hn hI
      cases n with
      | zero => omega
      | succ n =>
        rcases h1 j s (by omega) hI with ⟨s2, h3, h4⟩ | ⟨t, h3, h4⟩
        · rw [lp_in h3]
          exact ih (j + 1) n s2 (by omega) (by omega) h4
        · exact ⟨t, lp_out h3, h4⟩
  exact key k 0 n s (by omega) hn h0
def resN (A : Nat → Nat) (nt d : Nat) : Option (Nat × Nat × Nat) := (listM (belN nt d)).foldl (psi A nt (belN nt d)) none
def lsN (A : Nat → Nat) (nt d : Nat) : Nat := match resN A nt d with
  | some q => q.2.1
  | none => 0
def csN (A : Nat → Nat) (nt d : Nat) : Nat := match resN A nt d with
  | some q => q.2.2
  | none => 0
section JL
variable {A : Nat → Nat} {f1 f2 : Nat → Int32} {nt d : Nat}
theorem jl (h1 : Ag A f1) (h2 : Ag A f2) (hn : nt ≤ 10) (hsym : symA A) :
    lsN A nt d < 1024 ∧ dif (lsN A nt d) (belN nt d) = 0 ∧
      (∀ (N : Nat) (xj xl xc : Int32), 2000 < N → ¬ nI d = xj → f_Ve_judge N (nI nt) xj xl xc f1 (nI d) = some (nI d, nI (lsN A nt d), nI (csN A nt d))) ∧
      True := by
  obtain ⟨m, l, c, e1, e2, e3, e4, e5, e6⟩ := same_sets (A := A) (bel := belN nt d) hn bel_lt hsym
  have hL : lsN A nt d = l := by unfold lsN resN; rw [e1]
  have hC : csN A nt d = c := by unfold csN resN; rw [e1]
  have hb := bel_10 (d := d) hn
  have hi : invN A nt (belN nt d) < 1024 := inv_lt (n := 10) hb
  rw [hL, hC]
  refine ⟨e4, e5, ?_, ?_⟩
  · intro N xj xl xc hN hne
    unfold f_Ve_judge
    rw [if_neg hne, x_bel (by omega), x_involved h1 hn hb (by omega)]
    have hK : 2 ^ pcN (invN A nt (belN nt d)) ≤ 1024 := (Nat.pow_le_pow_right (by decide) (pcN_le _ hi) : 2 ^ pcN (invN A nt (belN nt d)) ≤ 2 ^ 10)
    show lpS (f_Ve_judge_L39 N (nI nt) f1 (nI d) (nI (invN A nt (belN nt d))) (nI (belN nt d)) ((1 : Int32) <<< (f_J6_bitCount_0f7a4 (nI (invN A nt (belN nt d))) &&& 31))) none N (11, 0, 0, xl, xc) = _
    rw [q_pc _ hi, pow_pc _ hi]
    have := judge_go (A := A) (f := f1) (nt := nt) (bel := belN nt d) (inv := invN A nt (belN nt d)) (K := 2 ^ pcN (invN A nt (belN nt d))) (N0 := N) (p1 := nI d) (l0 := xl) (c0 := xc) h1 hn hb hi hK (by omega) (2 ^ pcN (invN A nt (belN nt d))) 0 0 N none (by omega) (by omega) (by decide) (fun q h => nomatch h)
    rw [← listX_sub hi, e2] at this
    exact this
  · trivial
def XC (A : Nat → Nat) (nt : Nat) (j l c : Int32) : Prop := j = -1 ∨ ∃ d, d < 1024 ∧ j = nI d ∧ l = nI (lsN A nt d) ∧ c = nI (csN A nt d)
def MC (A : Nat → Nat) (nt : Nat) (j l f c : Int32) : Prop := j = -1 ∨ ∃ d, d < 1024 ∧ j = nI d ∧ l = nI (lsN A nt d) ∧ f = nI (pcN (lsN A nt d)) ∧ c = nI (csN A nt d)
theorem xc_at (hd : d < 1024) : XC A nt (nI d) (nI (lsN A nt d)) (nI (csN A nt d)) := Or.inr ⟨d, hd, rfl, rfl, rfl⟩
theorem mc_at (hd : d < 1024) : MC A nt (nI d) (nI (lsN A nt d)) (nI (pcN (lsN A nt d))) (nI (csN A nt d)) := Or.inr ⟨d, hd, rfl, rfl, rfl, rfl⟩
theorem nI_m1 {d : Nat} (hd : d < 1024) : ¬ nI d = -1 := by
  intro h
  have h2 : (0 : Int32) ≤ nI d := nI_pos' (by omega)
  rw [h] at h2
  exact absurd h2 (by decide)
theorem x_judge (h1 : Ag A f1) (hn : nt ≤ 10) (hsym : symA A) (hd : d < 1024) {N : Nat} {j l c : Int32} (hc : XC A nt j l c) (hN : 2000 < N) : f_Ve_judge N (nI nt) j l c f1 (nI d) = some (nI d, nI (lsN A nt d), nI (csN A nt d)) := by
  by_cases e : nI d = j
  · rcases hc with rfl | ⟨d2, h3, rfl, rfl, rfl⟩
    · exact absurd e (nI_m1 hd)
    · have := (nI_eq (by omega) (by omega)).mp e
      subst this
      unfold f_Ve_judge
      rw [if_pos rfl]
  · exact (jl h1 h1 hn hsym).2.2.1 N j l c hN e
theorem LS_lt (h : Ag A f1) (hn : nt ≤ 10) (hsym : symA A) : lsN A nt d < 1024 := (jl h h hn hsym).1
theorem x_liar (h1 : Ag A f1) (hn : nt ≤ 10) (hsym : symA A) (hd : d < 1024) {N : Nat} {j l c : Int32} (hc : XC A nt j l c) (hN : 2000 < N) : f_Ve_liarSet N (nI nt) j l c f1 (nI d) = some (nI (lsN A nt d), nI d, nI (lsN A nt d), nI (csN A nt d)) := by
  unfold f_Ve_liarSet
  rw [x_judge h1 hn hsym hd hc hN, oB_s]
/-- who is believed and no liar -/
def trN (A : Nat → Nat) (nt d : Nat) : Nat := dif (belN nt d) (lsN A nt d)
theorem tr_bit {k : Nat} : (trN A nt d).testBit k = (decide (k < nt) && !d.testBit k && !(lsN A nt d).testBit k) := by
  unfold trN
  rw [dif_bit, bel_bit]
end JL
