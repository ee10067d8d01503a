/-! the smallest sets: two ways through the candidates -/
def enB (A : Nat → Nat) (nt rest : Nat) : Bool := decide (∀ t, t < nt → rest.testBit t = true → A t &&& rest = 0)
/-- one candidate more: the fewest, the set that goes ahead, how many sets -/
def psi (A : Nat → Nat) (nt bel : Nat) (acc : Option (Nat × Nat × Nat)) (s : Nat) : Option (Nat × Nat × Nat) :=
  if enB A nt (dif bel s) = true then
    match acc with
    | none => some (pcN s, s, 1)
    | some q => if pcN s ≤ q.1 then (if pcN s < q.1 then some (pcN s, s, 1) else some (q.1, (if pref s q.2.1 = true then s else q.2.1), q.2.2 + 1)) else some q
  else acc
def cand (A : Nat → Nat) (nt bel m s : Nat) : Bool := enB A nt (dif bel s) && pcN s == m
def pk (l s : Nat) : Nat := if pref s l = true then s else l
theorem psi_rest (A : Nat → Nat) (nt bel m : Nat) : ∀ (L : List Nat) (l c : Nat), (∀ s, s ∈ L → enB A nt (dif bel s) = true → m ≤ pcN s) →
    L.foldl (psi A nt bel) (some (m, l, c)) = some (m, (L.filter (cand A nt bel m)).foldl pk l, c + (L.filter (cand A nt bel m)).length) := by
  intro L
  induction L with
  | nil => intro l c _; rfl
  | cons s L ih =>
    intro l c h
    rw [List.foldl_cons]
    have h2 := fun s hs => h s (List.mem_cons_of_mem _ hs)
    by_cases he : enB A nt (dif bel s) = true
    · have hm := h s List.mem_cons_self he
      by_cases hp : pcN s = m
      · have hc : cand A nt bel m s = true := by unfold cand; rw [he, hp]; simp
        rw [List.filter_cons_of_pos hc]
        have e : psi A nt bel (some (m, l, c)) s = some (m, pk l s, c + 1) := by
          unfold psi
          rw [if_pos he]
          show (if pcN s ≤ m then (if pcN s < m then some (pcN s, s, 1) else some (m, (if pref s l = true then s else l), c + 1)) else some (m, l, c)) = _
          rw [if_pos (by omega), if_neg (by omega)]
          rfl
        rw [e, ih _ _ h2, List.foldl_cons, List.length_cons]
        congr 3
        omega
      · have hc : ¬ cand A nt bel m s = true := by unfold cand; rw [he]; simp; exact hp
        rw [List.filter_cons_of_neg hc]
        have e : psi A nt bel (some (m, l, c)) s = some (m, l, c) := by
          unfold psi
          rw [if_pos he]
          show (if pcN s ≤ m then _ else some (m, l, c)) = _
          rw [if_neg (by omega)]
        rw [e, ih _ _ h2]
    · have hc : ¬ cand A nt bel m s = true := by unfold cand; simp [he]
      rw [List.filter_cons_of_neg hc]
      have e : psi A nt bel (some (m, l, c)) s = some (m, l, c) := by unfold psi; rw [if_neg he]
      rw [e, ih _ _ h2]
def fin (m : Nat) : List Nat → Option (Nat × Nat × Nat)
  | [] => none
  | s :: E => some (m, E.foldl pk s, E.length + 1)
theorem psi_all (A : Nat → Nat) (nt bel m : Nat) : ∀ (L : List Nat) (acc : Option (Nat × Nat × Nat)), (∀ q, acc = some q → m < q.1) → (∀ s, s ∈ L → enB A nt (dif bel s) = true → m ≤ pcN s) →
    L.filter (cand A nt bel m) ≠ [] → L.foldl (psi A nt bel) acc = fin m (L.filter (cand A nt bel m)) := by
  intro L
  induction L with
  | nil => intro acc _ _ h; exact absurd rfl h
  | cons s L ih =>
    intro acc ha h hne
    rw [List.foldl_cons]
    have h2 := fun s hs => h s (List.mem_cons_of_mem _ hs)
    by_cases hc : cand A nt bel m s = true
    · rw [List.filter_cons_of_pos hc]
      have he : enB A nt (dif bel s) = true := by unfold cand at hc; simp at hc; exact hc.1
      have hp : pcN s = m := by unfold cand at hc; simp at hc; exact hc.2
      have e : psi A nt bel acc s = some (m, s, 1) := by
        unfold psi
        rw [if_pos he]
        cases acc with
        | none => show some (pcN s, s, 1) = _; rw [hp]
        | some q =>
          have := ha q rfl
          show (if pcN s ≤ q.1 then (if pcN s < q.1 then some (pcN s, s, 1) else _) else some q) = _
          rw [if_pos (by omega), if_pos (by omega), hp]
      rw [e, psi_rest A nt bel m L s 1 h2]
      show some (m, _, 1 + _) = some (m, _, _ + 1)
      rw [Nat.add_comm]
    · rw [List.filter_cons_of_neg hc] at hne ⊢
      refine ih _ ?_ h2 hne
      intro q hq
      unfold psi at hq
      by_cases he : enB A nt (dif bel s) = true
      · rw [if_pos he] at hq
        have hm := h s List.mem_cons_self he
        have hp : pcN s ≠ m := fun h9 => hc (by unfold cand; rw [he, h9]; simp)
        cases acc with
        | none => cases hq; show m < pcN s; omega
        | some r =>
          have hr := ha r rfl
          have hq2 : (if pcN s ≤ r.1 then (if pcN s < r.1 then some (pcN s, s, 1) else some (r.1, (if pref s r.2.1 = true then s else r.2.1), r.2.2 + 1)) else some r) = some q := hq
          split at hq2
          · split at hq2
            · cases hq2; show m < pcN s; omega
            · cases hq2; exact hr
          · cases hq2; exact hr
      · rw [if_neg he] at hq
        exact ha q hq
/-- the tellers of some contradiction -/
def invN (A : Nat → Nat) (nt bel : Nat) : Nat := (List.range nt).foldl (fun v t => if bel.testBit t = true then v ||| (A t &&& bel) else v) 0
theorem inv_bit (A : Nat → Nat) (nt bel k : Nat) : (invN A nt bel).testBit k = true ↔ ∃ t, t < nt ∧ bel.testBit t = true ∧ (A t).testBit k = true ∧ bel.testBit k = true := by
  unfold invN
  induction nt with
  | zero => simp
  | succ n ih =>
    rw [List.range_succ, List.foldl_append, List.foldl_cons, List.foldl_nil]
    by_cases hb : bel.testBit n = true
    · rw [if_pos hb, Nat.testBit_or, Nat.testBit_and, Bool.or_eq_true, Bool.and_eq_true, ih]
      constructor
      · rintro (⟨t, h1, h2⟩ | ⟨h1, h2⟩)
        · exact ⟨t, by omega, h2⟩
        · exact ⟨n, by omega, hb, h1, h2⟩
      · rintro ⟨t, h1, h2, h3, h4⟩
        by_cases h5 : t = n
        · subst h5; exact Or.inr ⟨h3, h4⟩
        · exact Or.inl ⟨t, by omega, h2, h3, h4⟩
    · rw [if_neg hb, ih]
      constructor
      · rintro ⟨t, h1, h2⟩
        exact ⟨t, by omega, h2⟩
      · rintro ⟨t, h1, h2, h3, h4⟩
        by_cases h5 : t = n
        · subst h5; exact absurd h2 hb
        · exact ⟨t, by omega, h2, h3, h4⟩
theorem pc_less : ∀ s, s < 1024 → ∀ k, k < 10 → s.testBit k = true → pcN (dif s (2 ^ k)) < pcN s := by decide +kernel
theorem ext_iff_dif {a b : Nat} : dif a b = 0 ↔ ∀ k, a.testBit k = true → b.testBit k = true := by
  constructor
  · intro h k hk
    have := congrArg (fun z => z.testBit k) h
    rw [dif_bit, hk, Nat.zero_testBit] at this
    simpa using this
  · intro h
    apply Nat.eq_of_testBit_eq
    intro k
    rw [dif_bit, Nat.zero_testBit]
    cases hk : a.testBit k with
    | false => rfl
    | true => rw [h k hk]; rfl
theorem en_iff {A : Nat → Nat} {nt rest : Nat} : enB A nt rest = true ↔ ∀ t, t < nt → rest.testBit t = true → ∀ j, rest.testBit j = true → (A t).testBit j = false := by
  unfold enB
  rw [decide_eq_true_eq]
  constructor
  · intro h t h1 h2 j h3
    have := congrArg (fun z => z.testBit j) (h t h1 h2)
    rw [Nat.testBit_and, h3, Nat.zero_testBit, Bool.and_true] at this
    exact this
  · intro h t h1 h2
    apply Nat.eq_of_testBit_eq
    intro j
    rw [Nat.testBit_and, Nat.zero_testBit]
    cases h3 : rest.testBit j with
    | false => rw [Bool.and_false]
    | true => rw [h t h1 h2 j h3]; rfl
theorem shrink {A : Nat → Nat} {nt bel s k : Nat} (hn : nt ≤ 10) (hb : bel < 2 ^ nt) (hsym : ∀ i j, i < 10 → j < 10 → (A i).testBit j = (A j).testBit i) (hs : dif s bel = 0) (he : enB A nt (dif bel s) = true) (hk : s.testBit k = true) (hi : ¬ (invN A nt bel).testBit k = true) :
    dif (dif s (2 ^ k)) bel = 0 ∧ enB A nt (dif bel (dif s (2 ^ k))) = true := by
  rw [ext_iff_dif] at hs
  rw [en_iff] at he
  have hkb := hs k hk
  have lt : ∀ j, bel.testBit j = true → j < nt := by
    intro j hj
    apply Nat.lt_of_not_le
    intro h9
    rw [bits_of_lt hb h9] at hj
    cases hj
  have hno : ∀ t, bel.testBit t = true → (A t).testBit k = false := by
    intro t ht
    cases hq : (A t).testBit k with
    | false => rfl
    | true => exact absurd ((inv_bit A nt bel k).mpr ⟨t, lt t ht, ht, hq, hkb⟩) hi
  have hno2 : ∀ t, bel.testBit t = true → (A k).testBit t = false := by
    intro t ht
    have h1 := lt t ht
    have h2 := lt k hkb
    rw [hsym k t (by omega) (by omega)]
    exact hno t ht
  constructor
  · rw [ext_iff_dif]
    intro j hj
    rw [dif_bit] at hj
    simp only [Bool.and_eq_true] at hj
    exact hs j hj.1
  · rw [en_iff]
    have hr : ∀ j, (dif bel (dif s (2 ^ k))).testBit j = true → bel.testBit j = true ∧ (j ≠ k → (dif bel s).testBit j = true) := by
      intro j hj
      rw [dif_bit, dif_bit, Nat.testBit_two_pow] at hj
      simp only [Bool.and_eq_true, Bool.not_eq_true', Bool.and_eq_false_iff] at hj
      refine ⟨hj.1, fun hjk => ?_⟩
      rw [dif_bit, hj.1]
      rcases hj.2 with h | h
      · rw [h]; rfl
      · simp at h; exact absurd h.symm hjk
    intro t ht h1 j h2
    obtain ⟨a1, a2⟩ := hr t h1
    obtain ⟨b1, b2⟩ := hr j h2
    by_cases c1 : t = k
    · subst c1; exact hno2 j b1
    · by_cases c2 : j = k
      · subst c2; exact hno t a1
      · exact he t ht (a2 c1) j (b2 c2)
theorem ex_min {Q : Nat → Prop} {f : Nat → Nat} : ∀ n s, Q s → f s = n → ∃ s m, Q s ∧ f s = m ∧ ∀ s2, Q s2 → m ≤ f s2 := by
  intro n
  induction n using Nat.strongRecOn with
  | _ n ih =>
    intro s hs hn
    by_cases h : ∃ s2, Q s2 ∧ f s2 < n
    · obtain ⟨s2, h1, h2⟩ := h
      exact ih (f s2) h2 s2 h1 rfl
    · exact ⟨s, n, hs, hn, fun s2 h2 => Nat.le_of_not_lt (fun h3 => h ⟨s2, h2, h3⟩)⟩
theorem filter_range {P : Nat → Bool} {a b : Nat} (h : a ≤ b) (hP : ∀ s, a ≤ s → s < b → P s = false) : (List.range b).filter P = (List.range a).filter P := by
  induction b with
  | zero => rw [show a = 0 by omega]
  | succ b ih =>
    by_cases h2 : a = b + 1
    · rw [h2]
    · rw [List.range_succ, List.filter_append, ih (by omega) (fun s h3 h4 => hP s h3 (by omega))]
      rw [List.filter_cons_of_neg (by rw [hP b (by omega) (by omega)]; decide), List.filter_nil, List.append_nil]
theorem le_of_dif {s b : Nat} (h : dif s b = 0) : s ≤ b := by
  have h1 : s &&& b = s := by
    unfold dif at h
    exact (xor0 h).symm
  rw [← h1]
  exact Nat.and_le_right
def listM (bel : Nat) : List Nat := (List.range (bel + 1)).filter (fun s => dif s bel == 0)
def listX (inv : Nat) : List Nat := (List.range 1024).filter (fun s => dif s inv == 0)
theorem same_sets {A : Nat → Nat} {nt bel : Nat} (hn : nt ≤ 10) (hb : bel < 2 ^ nt) (hsym : ∀ i j, i < 10 → j < 10 → (A i).testBit j = (A j).testBit i) :
    ∃ m l c, (listM bel).foldl (psi A nt bel) none = some (m, l, c) ∧ (listX (invN A nt bel)).foldl (psi A nt bel) none = some (m, l, c) ∧ m = pcN l ∧ l < 1024 ∧ dif l bel = 0 ∧ m ≤ 10 := by
  have hb10 : bel < 1024 := Nat.lt_of_lt_of_le hb (Nat.pow_le_pow_right (by decide) hn : 2 ^ nt ≤ 2 ^ 10)
  have hself : dif bel bel = 0 := by unfold dif; rw [Nat.and_self, Nat.xor_self]
  obtain ⟨s0, m, ⟨hq1, hq2⟩, hq3, hmin⟩ := ex_min (Q := fun s => dif s bel = 0 ∧ enB A nt (dif bel s) = true) (f := pcN) (pcN bel) bel ⟨hself, by rw [hself, en_iff]; intro t _ h; rw [Nat.zero_testBit] at h; cases h⟩ rfl
  have hinv : ∀ k, (invN A nt bel).testBit k = true → bel.testBit k = true := fun k hk => by obtain ⟨t, -, -, -, h⟩ := (inv_bit A nt bel k).mp hk; exact h
  have hmem : ∀ s, dif s bel = 0 → enB A nt (dif bel s) = true → pcN s = m → dif s (invN A nt bel) = 0 := by
    intro s h1 h2 h3
    rw [ext_iff_dif]
    intro k hk
    apply Decidable.byContradiction
    intro hi
    obtain ⟨g1, g2⟩ := shrink hn hb hsym h1 h2 hk hi
    have h5 := hmin _ ⟨g1, g2⟩
    have hs : s < 1024 := Nat.lt_of_le_of_lt (le_of_dif h1) hb10
    have hk10 : k < 10 := by
      apply Nat.lt_of_not_le
      intro h9
      rw [bits_of_lt (n := 10) hs h9] at hk
      cases hk
    have h6 := pc_less s hs k hk10 hk
    omega
  have hE : (listM bel).filter (cand A nt bel m) = (listX (invN A nt bel)).filter (cand A nt bel m) := by
    unfold listM listX
    rw [List.filter_filter, List.filter_filter]
    have e1 : (List.range 1024).filter (fun a => cand A nt bel m a && dif a (invN A nt bel) == 0) = (List.range 1024).filter (fun a => cand A nt bel m a && dif a bel == 0) := by
      apply List.filter_congr
      intro s _
      cases hc : cand A nt bel m s with
      | false => rfl
      | true =>
        rw [Bool.true_and, Bool.true_and]
        unfold cand at hc
        simp only [Bool.and_eq_true, beq_iff_eq] at hc
        by_cases h1 : dif s bel = 0
        · rw [h1, hmem s h1 hc.1 hc.2]
        · have h2 : dif s (invN A nt bel) ≠ 0 := by
            intro h3
            apply h1
            rw [ext_iff_dif] at h3 ⊢
            intro k hk
            exact hinv k (h3 k hk)
          rw [show (dif s bel == 0) = false by simpa using h1, show (dif s (invN A nt bel) == 0) = false by simpa using h2]
    rw [e1]
    refine (filter_range (by omega) ?_).symm
    intro s h1 _
    have : ¬ dif s bel = 0 := fun h => by have := le_of_dif h; omega
    simp [this]
  have hs0 : s0 ∈ (listM bel).filter (cand A nt bel m) := by
    rw [List.mem_filter]
    refine ⟨?_, ?_⟩
    · unfold listM
      rw [List.mem_filter, List.mem_range]
      have := le_of_dif hq1
      exact ⟨by omega, by simpa using hq1⟩
    · unfold cand; rw [hq2, hq3]; simp
  have hne : (listM bel).filter (cand A nt bel m) ≠ [] := List.ne_nil_of_mem hs0
  have hM := psi_all A nt bel m (listM bel) none (fun q h => nomatch h) (fun s hs he => hmin s ⟨by unfold listM at hs; rw [List.mem_filter] at hs; simpa using hs.2, he⟩) hne
  have hX := psi_all A nt bel m (listX (invN A nt bel)) none (fun q h => nomatch h) (fun s hs he => hmin s ⟨by
      unfold listX at hs; rw [List.mem_filter] at hs
      have h3 : dif s (invN A nt bel) = 0 := by simpa using hs.2
      rw [ext_iff_dif] at h3 ⊢
      exact fun k hk => hinv k (h3 k hk), he⟩) (by rw [← hE]; exact hne)
  rw [← hE] at hX
  have hall : ∀ s, s ∈ (listM bel).filter (cand A nt bel m) → pcN s = m ∧ dif s bel = 0 := by
    intro s hs
    rw [List.mem_filter] at hs
    obtain ⟨h1, h2⟩ := hs
    unfold listM at h1
    rw [List.mem_filter] at h1
    unfold cand at h2
    simp only [Bool.and_eq_true, beq_iff_eq] at h2
    exact ⟨h2.2, by simpa using h1.2⟩
  cases hEq : (listM bel).filter (cand A nt bel m) with
  | nil => exact absurd hEq hne
  | cons s E =>
    rw [hEq] at hM hX hall
    have hin : ∀ (E2 : List Nat) (s2 : Nat), s2 ∈ s :: E → (∀ x, x ∈ E2 → x ∈ s :: E) → E2.foldl pk s2 ∈ s :: E := by
      intro E2
      induction E2 with
      | nil => intro s2 h _; exact h
      | cons x E2 ih =>
        intro s2 h h3
        rw [List.foldl_cons]
        refine ih _ ?_ (fun y hy => h3 y (List.mem_cons_of_mem _ hy))
        unfold pk
        split
        · exact h3 x List.mem_cons_self
        · exact h
    have h8 := hall _ (hin E s List.mem_cons_self (fun x hx => List.mem_cons_of_mem _ hx))
    have h9 : E.foldl pk s < 1024 := Nat.lt_of_le_of_lt (le_of_dif h8.2) hb10
    exact ⟨m, E.foldl pk s, E.length + 1, hM, hX, h8.1.symm, h9, h8.2, by rw [← h8.1]; exact pcN_le _ h9⟩
