/-! the tape cut into tokens, on both sides -/
theorem lp_mono {S T : Type} {step : S → S ⊕ Option T} {v : T} : ∀ {n : Nat} {s : S}, lpS step none n s = some v → ∀ m, n ≤ m → lpS step none m s = some v := by
  intro n
  induction n with
  | zero => intro s h; cases h
  | succ n ih =>
    intro s h m hm
    cases m with
    | zero => omega
    | succ m =>
      cases hs : step s with
      | inl s2 =>
        rw [lp_in hs] at h ⊢
        exact ih h m (by omega)
      | inr t =>
        rw [lp_out hs] at h ⊢
        exact h
def symB (b : Nat) : Bool := [40, 41, 91, 93, 59, 44, 43, 45, 42, 47, 60, 62, 61].contains b
theorem sym30 : ∀ b, b < 256 → (match f_J0_indexOf_0f7a4 30 1 ((nI b).toUInt32 % 65536).toInt32 with | some v => decide (v < 0) == !symB b | none => false) = true := by decide +kernel
theorem symN {b N : Nat} (hb : b < 256) (hN : 30 ≤ N) : ∃ v, f_J0_indexOf_0f7a4 N 1 ((nI b).toUInt32 % 65536).toInt32 = some v ∧ (v < 0 ↔ symB b = false) := by
  have h := sym30 b hb
  cases h1 : f_J0_indexOf_0f7a4 30 1 ((nI b).toUInt32 % 65536).toInt32 with
  | none => rw [h1] at h; cases h
  | some v =>
    rw [h1] at h
    refine ⟨v, ?_, ?_⟩
    · unfold f_J0_indexOf_0f7a4 f_J0_indexOf_7cf53 f_J1_indexOf_4cfef f_J1_indexOfChar_4cfef at h1 ⊢
      generalize ((nI b).toUInt32 % 65536).toInt32 = c at h1 ⊢
      by_cases c1 : f_J1_canEncode_9a6ad c = 0
      · simp only [if_pos c1] at h1 ⊢
        exact h1
      · simp only [if_neg c1] at h1 ⊢
        split at h1
        · rename_i c2
          simp only [if_pos c2]
          cases hl : lpS (f_J1_indexOfChar_4cfef_L7 1 (f_J9_min_7cf53 (f_J0_length_8abf5 1) (Int32.ofNat (lenS.getD 1 0))) c.toInt8.toInt32) none 30 (f_J9_max_7cf53 0 0) with
          | none => rw [hl] at h1; cases h1
          | some w =>
            rw [hl] at h1
            rw [lp_mono hl N hN]
            exact h1
        · rename_i c2
          simp only [if_neg c2]
          exact h1
    · have h2 : (decide (v < 0) == !symB b) = true := h
      cases hs : symB b with
      | true =>
        rw [hs] at h2
        simp at h2
        exact ⟨fun h3 => absurd h3 (Int32.not_lt.mpr h2), fun h3 => by cases h3⟩
      | false =>
        rw [hs] at h2
        simp at h2
        exact ⟨fun _ => rfl, fun _ => h2⟩

theorem lp_from {S T : Type} {step : S → S ⊕ T} {fail t : T} (σ : Nat → S) {p q n : Nat} {s : S} (hs : s = σ p) (hpq : p ≤ q) (h1 : ∀ j, p ≤ j → j < q → step (σ j) = .inl (σ (j + 1))) (h2 : step (σ q) = .inr t) (hn : q - p < n) : lpS step fail n s = t := by
  rw [hs]
  exact lp_tr σ (q - p) n p (fun j a b => h1 j a (by omega)) (by rw [show p + (q - p) = q by omega]; exact h2) hn
theorem scn (P : Nat → Bool) : ∀ m p, ∃ q, p ≤ q ∧ q ≤ p + m ∧ (∀ j, p ≤ j → j < q → P j = true) ∧ (q < p + m → P q = false) := by
  intro m
  induction m with
  | zero => intro p; exact ⟨p, Nat.le_refl _, Nat.le_refl _, fun j a b => by omega, fun h => by omega⟩
  | succ m ih =>
    intro p
    cases hp : P p with
    | false => exact ⟨p, Nat.le_refl _, by omega, fun j a b => by omega, fun _ => hp⟩
    | true =>
      obtain ⟨q, h1, h2, h3, h4⟩ := ih (p + 1)
      refine ⟨q, by omega, by omega, fun j a b => ?_, fun h => h4 (by omega)⟩
      by_cases e : j = p
      · rw [e]; exact hp
      · exact h3 j (by omega) b
/-- the codes of the model's kinds, and what the class calls them -/
def kvs : List Int32 := [33, 32, 31, 30, 316, 318, 40, 41, 91, 93, 59, 44, 43, 45, 42, 47, 60, 62, 61, 0, 1, 2, 3, 4, 5, 6, 7, 8, 9, 10, 11, 12, 13, 14, 15, 16, 17, 18, 19, 20, 21, 22, 23, 24]
def kmap (k : Int32) : Int32 := if k = 33 then 132 else if k = 32 then 133 else if k = 31 then 131 else if k = 30 then 130 else if k = 316 then 128 else if k = 318 then 129 else if k < 25 then 200 + k else k
theorem sym_km : ∀ b, b < 256 → symB b = true → nI b ∈ kvs ∧ kmap (nI b) = nI b := by decide +kernel
theorem kw_km : ∀ k, k < 25 → nI k ∈ kvs ∧ kmap (nI k) = 200 + nI k ∧ ¬ nI k = 30 ∧ ¬ nI k = 31 ∧ ¬ nI k = 32 ∧ ¬ nI k = 33 := by decide +kernel
theorem sml_b : ∀ b, b < 256 → f_M_isSmall (nI b) = 1 → f_M_isDigit (nI b) = 0 ∧ ¬ nI b = 60 ∧ ¬ nI b = 62 ∧ ¬ nI b = -1 := by decide +kernel
theorem dig_b : ∀ b, b < 256 → f_M_isDigit (nI b) = 1 → f_M_isSmall (nI b) = 0 ∧ ¬ nI b = 60 ∧ ¬ nI b = 62 ∧ ¬ nI b = -1 := by decide +kernel
theorem sd_b : ∀ b, b < 256 → (f_M_isSmall (nI b) = 0 ∨ f_M_isSmall (nI b) = 1) ∧ (f_M_isDigit (nI b) = 0 ∨ f_M_isDigit (nI b) = 1) ∧ ¬ nI b = -1 ∧ ¬ (256 + nI b : Int32) = 33 ∧ ¬ (256 + nI b : Int32) = 32 := by decide +kernel
theorem oth_b : ∀ b, b < 256 → symB b = true → ¬ nI b = 30 ∧ ¬ nI b = 31 ∧ ¬ nI b = 32 ∧ ¬ nI b = 33 := by decide +kernel
theorem kind_b : ∀ b, b < 256 → (if nI b = (40 : Int32) then nI b else if nI b = (41 : Int32) then nI b else if nI b = (91 : Int32) then nI b else if nI b = (93 : Int32) then nI b else if nI b = (59 : Int32) then nI b else if nI b = (44 : Int32) then nI b else if nI b = (43 : Int32) then nI b else if nI b = (45 : Int32) then nI b else if nI b = (42 : Int32) then nI b else if nI b = (47 : Int32) then nI b else if nI b = (60 : Int32) then nI b else if nI b = (62 : Int32) then nI b else if nI b = (61 : Int32) then nI b else 32) = if symB b = true then nI b else 32 := by decide +kernel
section TK
variable {xt mt : Nat → Int32} {sz : Nat}
def BY (xt mt : Nat → Int32) (sz : Nat) : Prop := sz ≤ 2000 ∧ ∀ j, j < sz → xt j = mt j ∧ ∃ b, b < 256 ∧ mt j = nI b
theorem byt_in (h : BY xt mt sz) {p : Nat} (hp : p < sz) : f_M_byteOf (nI sz) mt (nI p) = some (mt p) ∧ rget 2000 xt (nI p) = mt p := by
  have h0 := h.1
  unfold f_M_byteOf
  rw [if_neg (nI_ge hp (by omega)), if_pos (ib_nI (by omega) (by decide)), nI_clamp (by omega), rg (by omega) (by decide)]
  exact ⟨rfl, (h.2 p hp).1⟩
theorem byt_out {p : Nat} (hp : sz ≤ p) (hp2 : p < 2 ^ 31) : f_M_byteOf (nI sz) mt (nI p) = some (-1) := by
  unfold f_M_byteOf
  rw [if_pos (nI_le hp hp2)]
/-- words -/
def hM (mt : Nat → Int32) (s : Nat) : Nat → Int64
  | 0 => 0
  | j + 1 => 37 * hM mt s j + (f_M_letter (mt (s + j))).toInt64
theorem pack_letter {b : Nat} (hb : b < 256) (h : f_M_isSmall (nI b) = 1 ∨ f_M_isDigit (nI b) = 1) (x : Int64) : f_To_pack x (nI b) = 37 * x + (f_M_letter (nI b)).toInt64 := by
  unfold f_To_pack f_M_letter
  have e : f_To_isDigit (nI b) = f_M_isDigit (nI b) := rfl
  rw [e]
  rcases h with h | h
  · obtain ⟨h2, -⟩ := sml_b b hb h
    rw [if_pos h2, h, if_neg n10, Int64.mul_comm]
  · obtain ⟨h2, -⟩ := dig_b b hb h
    rw [h, if_neg n10, if_pos h2, Int64.mul_comm]
theorem nfind_eq {w : Nat → Int64} {x : Int64} : ∀ m p, p + m ≤ 25 → nfindF w 25 x m p = match ff (fun k => decide (w k = x)) m p with | some k => nI k | none => -1 := by
  intro m
  induction m with
  | zero => intro p _; rfl
  | succ m ih =>
    intro p hp
    show (if nI p < 25 then (if w p = x then nI p else nfindF w 25 x m (p + 1)) else -1) = match (if decide (w p = x) = true then some p else ff (fun k => decide (w k = x)) m (p + 1)) with | some k => nI k | none => -1
    rw [if_pos (show nI p < 25 from nI_lt (b := 25) (by omega) (by decide))]
    by_cases h : w p = x
    · rw [if_pos h, if_pos (decide_eq_true h)]
    · rw [if_neg h, if_neg (by rw [decide_eq_false h]; decide)]
      exact ih (p + 1) (by omega)
theorem m_words {x38 : Nat → Int64} (hK : ∀ k, k < 25 → f_M_nameOf 100 (wS k) = some (x38 k)) {N : Nat} (hN : 100 ≤ N) (x : Int64) (v : Nat → Int64) : lpS (f_M_wordAt_L49 N x v) (.inr none) N 0 = .inr (some ((match ff (fun k => decide (x38 k = x)) 25 0 with | some k => nI k | none => 30), v)) := by
  have key : ∀ m i n, i + m = 25 → m < n → lpS (f_M_wordAt_L49 N x v) (.inr none) n (nI i) = .inr (some ((match ff (fun k => decide (x38 k = x)) m i with | some k => nI k | none => 30), v)) := by
    intro m
    induction m with
    | zero =>
      intro i n hi hn
      cases n with
      | zero => omega
      | succ n =>
        apply lp_out
        unfold f_M_wordAt_L49
        rw [if_pos (show (25 : Int32) ≤ nI i from nI_le (a := 25) (by omega) (by omega))]
        rfl
    | succ m ih =>
      intro i n hi hn
      cases n with
      | zero => omega
      | succ n =>
        have e1 : f_M_nameOf N (wS i) = some (x38 i) := lp_mono (hK i (by omega)) N hN
        have e2 : f_M_wordAt_L49 N x v (nI i) = if x38 i = x then .inr (.inr (some (nI i, v))) else .inl (nI (i + 1)) := by
          unfold f_M_wordAt_L49
          rw [if_neg (show ¬ (25 : Int32) ≤ nI i from nI_ge (b := 25) (by omega) (by decide)), if_pos (ib_nI (by omega) (by decide)), nI_clamp (by omega), e1, oB_s, ← nI_succ]
          by_cases h : x38 i = x
          · rw [if_pos h, if_pos ((lg_cmp_0 _ _).mpr h)]
          · rw [if_neg h, if_neg (fun h2 => h ((lg_cmp_0 _ _).mp h2))]
        show _ = Sum.inr (some ((match (if decide (x38 i = x) = true then some i else ff (fun k => decide (x38 k = x)) m (i + 1)) with | some k => nI k | none => 30), v))
        by_cases h : x38 i = x
        · rw [if_pos h] at e2
          rw [lp_out e2, if_pos (decide_eq_true h)]
        · rw [if_neg h] at e2
          rw [lp_in e2, if_neg (by rw [decide_eq_false h]; decide)]
          exact ih (i + 1) n (by omega) (by omega)
  exact key 25 0 N rfl (by omega)
end TK
