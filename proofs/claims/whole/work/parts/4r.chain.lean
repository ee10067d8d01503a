/-! the model's second pass, token by token -/
abbrev S2 := (Nat → Int32) × Int32 × Int32 × Int32 × Int32 × (Nat → Int64) × (Nat → Int64) × (Nat → Int32) × (Nat → Int32) × (Nat → Int32) × (Nat → Int32) × (Nat → Int32) × (Nat → Int32)
def E2 (N : Nat) (mk mm : Nat → Int32) (mv : Nat → Int64) (s : S2) (k : Nat) : Option (Int32 × S2) :=
  f_M_errorOf N mk mm mv s.1 s.2.1 s.2.2.1 s.2.2.2.1 s.2.2.2.2.1 s.2.2.2.2.2.1 s.2.2.2.2.2.2.1 s.2.2.2.2.2.2.2.1 s.2.2.2.2.2.2.2.2.1 s.2.2.2.2.2.2.2.2.2.1 s.2.2.2.2.2.2.2.2.2.2.1 s.2.2.2.2.2.2.2.2.2.2.2.1 s.2.2.2.2.2.2.2.2.2.2.2.2 (nI k)
def Ch (N : Nat) (mk : Nat → Int32) (mv : Nat → Int64) (s0 : S2) (mm : Nat → Int32) : Nat → S2 → Prop
  | 0, s => s = s0
  | t + 1, s => ∃ r, Ch N mk mv s0 mm t r ∧ E2 N mk mm mv r t = some (0, s)
def ChE (N : Nat) (mk mf : Nat → Int32) (mv : Nat → Int64) (s0 : S2) (t : Nat) (mm : Nat → Int32) (c p : Int32) : Prop := ∃ k, k < t ∧ ∃ r r2, Ch N mk mv s0 mm k r ∧ E2 N mk mm mv r k = some (c, r2) ∧ ¬ c = 0 ∧ p = mf k
theorem find_8 {N ne : Nat} (hN : 100 < N) (hn : ne ≤ 8) {w w2 : Nat → Int64} (hw : ∀ k, k < ne → w k = w2 k) (x : Int64) : f_M_find N w (nI ne) x = some (nfind 8 w2 (nI ne) x) := by
  have key : ∀ m i n, i + m = 8 → m < n → (i ≤ ne) → lpS (f_M_find_L3 w (nI ne) x) none n (nI i) = some (nfindF w2 (nI ne) x m i) := by
    intro m
    induction m with
    | zero =>
      intro i n hi hn2 hle
      cases n with
      | zero => omega
      | succ n =>
        apply lp_out
        unfold f_M_find_L3
        rw [if_pos (nI_le (by omega) (by omega))]
        rfl
    | succ m ih =>
      intro i n hi hn2 hle
      cases n with
      | zero => omega
      | succ n =>
        show _ = some (if nI i < nI ne then (if w2 i = x then nI i else nfindF w2 (nI ne) x m (i + 1)) else -1)
        by_cases h1 : i < ne
        · rw [if_pos (nI_lt h1 (by omega))]
          have e : f_M_find_L3 w (nI ne) x (nI i) = if w2 i = x then .inr (some (nI i)) else .inl (nI (i + 1)) := by
            unfold f_M_find_L3
            rw [if_neg (nI_ge h1 (by omega)), if_pos (ib_nI (by omega) (by decide)), nI_clamp (by omega), ← nI_succ, hw i h1]
            by_cases h2 : w2 i = x
            · rw [if_pos h2, if_pos ((lg_cmp_0 _ _).mpr h2)]
            · rw [if_neg h2, if_neg (fun h3 => h2 ((lg_cmp_0 _ _).mp h3))]
          by_cases h2 : w2 i = x
          · rw [if_pos h2] at e
            rw [lp_out e, if_pos h2]
          · rw [if_neg h2] at e
            rw [lp_in e, if_neg h2]
            exact ih (i + 1) n (by omega) (by omega) (by omega)
        · rw [if_neg (nI_nlt (by omega) (by omega))]
          apply lp_out
          unfold f_M_find_L3
          rw [if_pos (nI_le (by omega) (by omega))]
  unfold f_M_find
  exact key 8 0 N rfl (by omega) (Nat.zero_le _)
theorem find_10 {N ne : Nat} (hN : 100 < N) (hn : ne ≤ 10) {w w2 : Nat → Int64} (hw : ∀ k, k < ne → w k = w2 k) (x : Int64) : f_M_find_v1 N w (nI ne) x = some (nfind 10 w2 (nI ne) x) := by
  have key : ∀ m i n, i + m = 10 → m < n → (i ≤ ne) → lpS (f_M_find_v1_L3 w (nI ne) x) none n (nI i) = some (nfindF w2 (nI ne) x m i) := by
    intro m
    induction m with
    | zero =>
      intro i n hi hn2 hle
      cases n with
      | zero => omega
      | succ n =>
        apply lp_out
        unfold f_M_find_v1_L3
        rw [if_pos (nI_le (by omega) (by omega))]
        rfl
    | succ m ih =>
      intro i n hi hn2 hle
      cases n with
      | zero => omega
      | succ n =>
        show _ = some (if nI i < nI ne then (if w2 i = x then nI i else nfindF w2 (nI ne) x m (i + 1)) else -1)
        by_cases h1 : i < ne
        · rw [if_pos (nI_lt h1 (by omega))]
          have e : f_M_find_v1_L3 w (nI ne) x (nI i) = if w2 i = x then .inr (some (nI i)) else .inl (nI (i + 1)) := by
            unfold f_M_find_v1_L3
            rw [if_neg (nI_ge h1 (by omega)), if_pos (ib_nI (by omega) (by decide)), nI_clamp (by omega), ← nI_succ, hw i h1]
            by_cases h2 : w2 i = x
            · rw [if_pos h2, if_pos ((lg_cmp_0 _ _).mpr h2)]
            · rw [if_neg h2, if_neg (fun h3 => h2 ((lg_cmp_0 _ _).mp h3))]
          by_cases h2 : w2 i = x
          · rw [if_pos h2] at e
            rw [lp_out e, if_pos h2]
          · rw [if_neg h2] at e
            rw [lp_in e, if_neg h2]
            exact ih (i + 1) n (by omega) (by omega) (by omega)
        · rw [if_neg (nI_nlt (by omega) (by omega))]
          apply lp_out
          unfold f_M_find_v1_L3
          rw [if_pos (nI_le (by omega) (by omega))]
  unfold f_M_find_v1
  exact key 10 0 N rfl (by omega) (Nat.zero_le _)
theorem nfindF_b {w : Nat → Int64} {c x : Int64} : True := trivial
theorem nfF_in {w : Nat → Int64} {n : Nat} {x : Int64} : ∀ m i, i + m < 1000 → nfindF w (nI n) x m i = -1 ∨ ∃ k, k < n ∧ k < i + m ∧ nfindF w (nI n) x m i = nI k := by
  intro m
  induction m with
  | zero => intro i _; exact Or.inl rfl
  | succ m ih =>
    intro i hi
    show (if nI i < nI n then (if w i = x then nI i else nfindF w (nI n) x m (i + 1)) else -1) = -1 ∨ ∃ k, k < n ∧ k < i + (m + 1) ∧ (if nI i < nI n then (if w i = x then nI i else nfindF w (nI n) x m (i + 1)) else -1) = nI k
    by_cases h1 : i < n
    · by_cases h3 : nI i < nI n
      · rw [if_pos h3]
        by_cases h2 : w i = x
        · rw [if_pos h2]
          exact Or.inr ⟨i, h1, by omega, rfl⟩
        · rw [if_neg h2]
          rcases ih (i + 1) (by omega) with h | ⟨k, k1, k2, k3⟩
          · exact Or.inl h
          · exact Or.inr ⟨k, k1, by omega, k3⟩
      · rw [if_neg h3]
        exact Or.inl rfl
    · by_cases h3 : nI i < nI n
      · rw [if_pos h3]
        by_cases h2 : w i = x
        · sorry
        · rw [if_neg h2]
          rcases ih (i + 1) (by omega) with h | ⟨k, k1, k2, k3⟩
          · exact Or.inl h
          · exact Or.inr ⟨k, k1, by omega, k3⟩
      · rw [if_neg h3]
        exact Or.inl rfl
section CH
variable {N : Nat} {mk mf : Nat → Int32} {mv : Nat → Int64} {s0 : S2}
theorem e2_congr {mm mm2 : Nat → Int32} {r : S2} {k : Nat} (h : mm2 k = mm k) (hk : k < 401) : E2 N mk mm2 mv r k = E2 N mk mm mv r k := by
  have e : (nI k).toNatClampNeg = k := nI_clamp (by omega)
  unfold E2 f_M_errorOf f_M_ofClaim
  simp only [e, h]
theorem ch_congr {mm mm2 : Nat → Int32} : ∀ t s, t ≤ 401 → (∀ j, j < t → mm2 j = mm j) → Ch N mk mv s0 mm t s → Ch N mk mv s0 mm2 t s := by
  intro t
  induction t with
  | zero => intro s _ _ h; exact h
  | succ t ih =>
    rintro s ht hj ⟨r, h1, h2⟩
    exact ⟨r, ih r (by omega) (fun j hh => hj j (by omega)) h1, by rw [e2_congr (hj t (by omega)) (by omega)]; exact h2⟩
theorem che_mono {t t2 : Nat} {mm mm2 : Nat → Int32} {c p : Int32} (h : ChE N mk mf mv s0 t mm c p) (ht : t ≤ t2) (ht4 : t ≤ 401) (hj : ∀ j, j < t → mm2 j = mm j) : ChE N mk mf mv s0 t2 mm2 c p := by
  obtain ⟨k, h1, r, r2, h2, h3, h4, h5⟩ := h
  exact ⟨k, by omega, r, r2, ch_congr k r (by omega) (fun j hh => hj j (by omega)) h2, by rw [e2_congr (hj k h1) (by omega)]; exact h3, h4, h5⟩
end CH
