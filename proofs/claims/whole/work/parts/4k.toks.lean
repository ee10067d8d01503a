/-! one token, on both sides -/
theorem nI_sub {s q : Nat} (h : s ≤ q) : nI q - nI s = nI (q - s) := by
  have e : nI (q - s) + nI s = nI q := by rw [nI_add, show q - s + s = q by omega]
  rw [← e, Int32.add_sub_cancel]
section TK
variable {xt mt : Nat → Int32} {sz : Nat}
def ldB (mt : Nat → Int32) (j : Nat) : Bool := decide (f_M_isSmall (mt j) = 1) || decide (f_M_isDigit (mt j) = 1)
def digB (mt : Nat → Int32) (j : Nat) : Bool := decide (f_M_isDigit (mt j) = 1)
/-- what is seen at the end of a run -/
theorem stop (h : BY xt mt sz) {q : Nat} (hq : q ≤ sz) : ∃ c, f_M_byteOf (nI sz) mt (nI q) = some c ∧ ((q < sz ∧ c = mt q) ∨ (q = sz ∧ c = -1)) := by
  have h0 := h.1
  by_cases h1 : q < sz
  · exact ⟨mt q, (byt_in h h1).1, Or.inl ⟨h1, rfl⟩⟩
  · exact ⟨-1, byt_out (by omega) (by omega), Or.inr ⟨by omega, rfl⟩⟩
theorem ld_f (h : BY xt mt sz) {q : Nat} (hq : q < sz) (h2 : ldB mt q = false) : f_M_isSmall (mt q) = 0 ∧ f_M_isDigit (mt q) = 0 := by
  obtain ⟨b, hb, e⟩ := (h.2 q hq).2
  obtain ⟨a1, a2, -⟩ := sd_b b hb
  unfold ldB at h2
  rw [e] at h2 ⊢
  simp only [Bool.or_eq_false_iff, decide_eq_false_iff_not] at h2
  exact ⟨a1.resolve_right h2.1, a2.resolve_right h2.2⟩
theorem ld_t {q : Nat} (h2 : ldB mt q = true) : f_M_isSmall (mt q) = 1 ∨ f_M_isDigit (mt q) = 1 := by
  unfold ldB at h2
  simpa using h2
theorem x_word (h : BY xt mt sz) {s q N : Nat} (hs : s < q) (hq : q ≤ sz) (hall : ∀ j, s ≤ j → j < q → ldB mt j = true) (hstop : q < sz → ldB mt q = false) (hN : 2000 < N) (w0 : Int64) (x38 : Nat → Int64) :
    f_To_wordKind N xt (nI sz) (nI s) w0 25 x38 = some ((if q - s ≤ 10 then (match ff (fun k => decide (x38 k = hM mt s (q - s))) 25 0 with | some k => 200 + nI k | none => 130) else 133), nI q, hM mt s (q - s)) := by
  have h0 := h.1
  have fin : (if (nI q - nI s) ≤ (10 : Int32) then (if (nfind 25 x38 25 (hM mt s (q - s))) < 0 then (Sum.inr (some ((130 : Int32), nI q, hM mt s (q - s))) : (Int32 × Int64) ⊕ (Option (Int32 × Int32 × Int64))) else (.inr (some (((200 : Int32) + (nfind 25 x38 25 (hM mt s (q - s)))), nI q, hM mt s (q - s))))) else (.inr (some ((133 : Int32), nI q, hM mt s (q - s))))) = .inr (some ((if q - s ≤ 10 then (match ff (fun k => decide (x38 k = hM mt s (q - s))) 25 0 with | some k => 200 + nI k | none => 130) else 133), nI q, hM mt s (q - s))) := by
    rw [nI_sub (by omega)]
    by_cases h1 : q - s ≤ 10
    · rw [if_pos (show nI (q - s) ≤ 10 from nI_le (b := 10) h1 (by decide)), if_pos h1]
      unfold nfind
      rw [nfind_eq 25 0 (by omega)]
      cases hf : ff (fun k => decide (x38 k = hM mt s (q - s))) 25 0 with
      | none => rw [if_pos (show (-1 : Int32) < 0 by decide)]
      | some k =>
        have := ff_lt _ _ hf
        rw [if_neg (nI_pos (by omega))]
    · rw [if_neg (show ¬ nI (q - s) ≤ 10 from nI_ge (a := 10) (by omega) (by omega)), if_neg h1]
  unfold f_To_wordKind
  refine lp_0 (fun j => (nI (s + j), hM mt s j)) (q - s) rfl ?_ ?_ (by omega)
  · intro j hj
    have hd := hall (s + j) (by omega) (by omega)
    obtain ⟨b, hb, e⟩ := (h.2 (s + j) (by omega)).2
    obtain ⟨a1, a2⟩ := byt_in h (show s + j < sz by omega)
    have e2 : f_To_pack (hM mt s j) (mt (s + j)) = hM mt s (j + 1) := by
      have := ld_t hd
      rw [e] at this
      show _ = 37 * hM mt s j + (f_M_letter (mt (s + j))).toInt64
      rw [e]
      exact pack_letter hb this _
    unfold f_To_wordKind_L10
    have e3 : f_To_isLetter (mt (s + j)) = f_M_isSmall (mt (s + j)) := rfl
    have e4 : f_To_isDigit (mt (s + j)) = f_M_isDigit (mt (s + j)) := rfl
    simp only [if_neg (nI_ge (show s + j < sz by omega) (show sz < 2 ^ 31 by omega)), a2, e2, e3, e4, ← nI_succ]
    by_cases h5 : f_M_isSmall (mt (s + j)) = 0
    · rw [if_pos h5]
      rcases ld_t hd with h6 | h6
      · rw [h5] at h6; exact absurd h6 (by decide)
      · rw [h6, if_neg n10]; rfl
    · rw [if_neg h5]; rfl
  · have e9 : s + (q - s) = q := by omega
    unfold f_To_wordKind_L10
    simp only [e9]
    by_cases h5 : q < sz
    · obtain ⟨a1, a2⟩ := byt_in h h5
      obtain ⟨b1, b2⟩ := ld_f h h5 (hstop h5)
      have e3 : f_To_isLetter (mt q) = f_M_isSmall (mt q) := rfl
      have e4 : f_To_isDigit (mt q) = f_M_isDigit (mt q) := rfl
      rw [if_neg (nI_ge h5 (by omega)), a2, e3, b1, if_pos rfl, e4, b2, if_pos rfl]
      exact fin
    · rw [if_pos (nI_le (by omega) (by omega))]
      exact fin
theorem m_wend (h : BY xt mt sz) {s q N : Nat} (hs : s < q) (hq : q ≤ sz) (hl : f_M_isSmall (mt s) = 1) (hall : ∀ j, s ≤ j → j < q → ldB mt j = true) (hstop : q < sz → ldB mt q = false) (hN : 2000 < N) : f_M_endOf N (nI sz) mt (nI s) = some (nI q) := by
  have h0 := h.1
  obtain ⟨b, hb, eb⟩ := (h.2 s (by omega)).2
  obtain ⟨c1, c2, c3, -⟩ := sml_b b hb (by rw [← eb]; exact hl)
  rw [← eb] at c1 c2 c3
  unfold f_M_endOf
  rw [(byt_in h (show s < sz by omega)).1, oB_s, hl, if_neg n10, ← nI_succ]
  refine lp_from (fun j => nI j) (p := s + 1) (q := q) rfl (by omega) (fun j a1 a2 => ?_) ?_ (by omega)
  · have hd := hall j (by omega) a2
    obtain ⟨d1, -⟩ := byt_in h (show j < sz by omega)
    unfold f_M_endOf_L17
    simp only [d1, oB_s, ← nI_succ]
    by_cases h5 : f_M_isSmall (mt j) = 0
    · rw [if_pos h5]
      rcases ld_t hd with h6 | h6
      · rw [h5] at h6; exact absurd h6 (by decide)
      · rw [h6, if_neg n10]
    · rw [if_neg h5]
  · obtain ⟨c, d1, d2⟩ := stop h hq
    have d3 : f_M_isSmall c = 0 ∧ f_M_isDigit c = 0 := by
      rcases d2 with ⟨h5, rfl⟩ | ⟨-, rfl⟩
      · exact ld_f h h5 (hstop h5)
      · exact ⟨by decide, by decide⟩
    unfold f_M_endOf_L17
    simp only [d1, oB_s, d3.1, d3.2, if_true, c1, if_neg c2, if_neg c3]
theorem m_word (h : BY xt mt sz) {s q N i : Nat} (hs : s < q) (hq : q ≤ sz) (hN : 2000 < N) (hi : i < 401) {x38 : Nat → Int64} (hK : ∀ k, k < 25 → f_M_nameOf 100 (wS k) = some (x38 k)) (v : Nat → Int64) :
    f_M_wordAt N mt v (nI i) (nI s) (nI q) = some ((match ff (fun k => decide (x38 k = hM mt s (q - s))) 25 0 with | some k => nI k | none => 30), vp_updL v i (hM mt s (q - s))) := by
  have h0 := h.1
  unfold f_M_wordAt
  refine lp_0 (fun j => (hM mt s j, nI (s + j))) (q - s) rfl ?_ ?_ (by omega)
  · intro j hj
    unfold f_M_wordAt_L6
    simp only [if_neg (nI_ge (show s + j < q by omega) (show q < 2 ^ 31 by omega)), ib_nI (show s + j < 2000 by omega) (show 2000 < 2147483648 by decide), if_true, nI_clamp (show s + j < 2 ^ 31 by omega), ← nI_succ]
    rfl
  · have e9 : s + (q - s) = q := by omega
    unfold f_M_wordAt_L6
    simp only [e9, if_pos (nI_le (Nat.le_refl q) (show q < 2 ^ 31 by omega)), ib_nI hi (show 401 < 2147483648 by decide), if_true, nI_clamp (show i < 2 ^ 31 by omega)]
    exact m_words hK (by omega) _ _
/-- numbers -/
def hN (mt : Nat → Int32) (s : Nat) : Nat → Int32
  | 0 => 0
  | j + 1 => 10 * hN mt s j + mt (s + j) - 48
theorem dig_r : ∀ b, b < 256 → f_M_isDigit (nI b) = 1 → 48 ≤ b ∧ b ≤ 57 := by decide +kernel
theorem hN_small (h : BY xt mt sz) {s : Nat} : ∀ k, s + k ≤ sz → (∀ j, s ≤ j → j < s + k → digB mt j = true) → ∃ m, m < 10 ^ k ∧ hN mt s k = nI m := by
  intro k
  induction k with
  | zero => intro _ _; exact ⟨0, by decide, rfl⟩
  | succ k ih =>
    intro h1 h2
    obtain ⟨m, h3, h4⟩ := ih (by omega) (fun j a b => h2 j a (by omega))
    have hd : f_M_isDigit (mt (s + k)) = 1 := of_decide_eq_true (h2 (s + k) (by omega) (by omega))
    obtain ⟨b, hb, eb⟩ := (h.2 (s + k) (by omega)).2
    rw [eb] at hd
    obtain ⟨b1, b2⟩ := dig_r b hb hd
    have h10 : 10 ^ (k + 1) = 10 ^ k * 10 := by rw [Nat.pow_succ]
    refine ⟨10 * m + b - 48, by omega, ?_⟩
    show 10 * hN mt s k + mt (s + k) - 48 = _
    rw [h4, eb, show (10 : Int32) * nI m = nI (10 * m) from (Int32.ofNat_mul 10 m).symm, nI_add, show (48 : Int32) = nI 48 from rfl, nI_sub (by omega)]
theorem x_num (h : BY xt mt sz) {s q N : Nat} (hs : s < q) (hq : q ≤ sz) (hall : ∀ j, s ≤ j → j < q → digB mt j = true) (hstop : q < sz → f_M_isDigit (mt q) = 0) (hN0 : 2000 < N) (n0 : Int32) :
    f_To_numberKind N xt (nI sz) (nI s) n0 = some ((if q - s ≤ 6 then 131 else 133), nI q, hN mt s (q - s)) := by
  have h0 := h.1
  have fin : (if (nI q - nI s) ≤ (6 : Int32) then (Sum.inr (some ((131 : Int32), nI q, hN mt s (q - s))) : (Int32 × Int32) ⊕ (Option (Int32 × Int32 × Int32))) else (.inr (some ((133 : Int32), nI q, hN mt s (q - s))))) = .inr (some ((if q - s ≤ 6 then 131 else 133), nI q, hN mt s (q - s))) := by
    rw [nI_sub (by omega)]
    by_cases h1 : q - s ≤ 6
    · rw [if_pos (show nI (q - s) ≤ 6 from nI_le (b := 6) h1 (by decide)), if_pos h1]
    · rw [if_neg (show ¬ nI (q - s) ≤ 6 from nI_ge (a := 6) (by omega) (by omega)), if_neg h1]
  unfold f_To_numberKind
  refine lp_0 (fun j => (nI (s + j), hN mt s j)) (q - s) rfl ?_ ?_ (by omega)
  · intro j hj
    have hd : f_M_isDigit (mt (s + j)) = 1 := of_decide_eq_true (hall (s + j) (by omega) (by omega))
    obtain ⟨a1, a2⟩ := byt_in h (show s + j < sz by omega)
    have e4 : f_To_isDigit (mt (s + j)) = f_M_isDigit (mt (s + j)) := rfl
    have e5 : hN mt s j * 10 + (mt (s + j) - 48) = hN mt s (j + 1) := by
      show _ = 10 * hN mt s j + mt (s + j) - 48
      rw [Int32.mul_comm, Int32.sub_eq_add_neg, Int32.sub_eq_add_neg, Int32.add_assoc]
    unfold f_To_numberKind_L10
    simp only [if_neg (nI_ge (show s + j < sz by omega) (show sz < 2 ^ 31 by omega)), a2, e4, hd, if_neg n10, e5, ← nI_succ]
    rfl
  · have e9 : s + (q - s) = q := by omega
    unfold f_To_numberKind_L10
    simp only [e9]
    by_cases h5 : q < sz
    · obtain ⟨a1, a2⟩ := byt_in h h5
      have e4 : f_To_isDigit (mt q) = f_M_isDigit (mt q) := rfl
      rw [if_neg (nI_ge h5 (by omega)), a2, e4, hstop h5, if_pos rfl]
      exact fin
    · rw [if_pos (nI_le (by omega) (by omega))]
      exact fin
theorem m_nend (h : BY xt mt sz) {s q N : Nat} (hs : s < q) (hq : q ≤ sz) (hl : f_M_isDigit (mt s) = 1) (hall : ∀ j, s ≤ j → j < q → digB mt j = true) (hstop : q < sz → f_M_isDigit (mt q) = 0) (hN0 : 2000 < N) : f_M_endOf N (nI sz) mt (nI s) = some (nI q) := by
  have h0 := h.1
  obtain ⟨b, hb, eb⟩ := (h.2 s (by omega)).2
  obtain ⟨c1, c2, c3, -⟩ := dig_b b hb (by rw [← eb]; exact hl)
  rw [← eb] at c1 c2 c3
  unfold f_M_endOf
  rw [(byt_in h (show s < sz by omega)).1, oB_s, c1, if_pos rfl, hl, if_neg n10, ← nI_succ]
  refine lp_from (fun j => nI j) (p := s + 1) (q := q) rfl (by omega) (fun j a1 a2 => ?_) ?_ (by omega)
  · have hd : f_M_isDigit (mt j) = 1 := of_decide_eq_true (hall j (by omega) a2)
    obtain ⟨d1, -⟩ := byt_in h (show j < sz by omega)
    unfold f_M_endOf_L52
    simp only [d1, oB_s, hd, if_neg n10, ← nI_succ]
  · obtain ⟨c, d1, d2⟩ := stop h hq
    have d3 : f_M_isDigit c = 0 := by
      rcases d2 with ⟨h5, rfl⟩ | ⟨-, rfl⟩
      · exact hstop h5
      · decide
    unfold f_M_endOf_L52
    simp only [d1, oB_s, d3, if_true, if_neg c2, if_neg c3]
theorem m_num (h : BY xt mt sz) {s q N i : Nat} (hs : s < q) (hq : q ≤ sz) (hN0 : 2000 < N) (hi : i < 401) (v : Nat → Int64) :
    f_M_numberAt N mt v (nI i) (nI s) (nI q) = some (31, vp_updL v i (hN mt s (q - s)).toInt64) := by
  have h0 := h.1
  unfold f_M_numberAt
  refine lp_0 (fun j => (hN mt s j, nI (s + j))) (q - s) rfl ?_ ?_ (by omega)
  · intro j hj
    unfold f_M_numberAt_L6
    simp only [if_neg (nI_ge (show s + j < q by omega) (show q < 2 ^ 31 by omega)), ib_nI (show s + j < 2000 by omega) (show 2000 < 2147483648 by decide), if_true, nI_clamp (show s + j < 2 ^ 31 by omega), ← nI_succ]
    rfl
  · have e9 : s + (q - s) = q := by omega
    unfold f_M_numberAt_L6
    simp only [e9, if_pos (nI_le (Nat.le_refl q) (show q < 2 ^ 31 by omega)), ib_nI hi (show 401 < 2147483648 by decide), if_true, nI_clamp (show i < 2 ^ 31 by omega)]
def TokS (xt mt : Nat → Int32) (sz s i N1 N2 : Nat) (num : Int32) (word : Int64) (v x38 : Nat → Int64) : Prop :=
  ∃ km e e2 num2 word2 v2, f_To_nextKind N1 xt (nI sz) (nI s) num word 25 x38 = some (kmap km, nI e2, num2, word2) ∧ f_M_endOf N2 (nI sz) mt (nI s) = some (nI e) ∧ f_M_kindOf3 N2 (nI sz) mt v (nI i) (nI s) (nI e) = some (km, v2) ∧ km ∈ kvs ∧
    (¬ km = 33 → ¬ km = 32 → e2 = e ∧ s < e ∧ e ≤ sz) ∧ (km = 30 → v2 i = word2) ∧ (km = 31 → v2 i = num2.toInt64 ∧ ∃ m, m < 1000000 ∧ num2 = nI m) ∧ ∀ j, ¬ j = i → v2 j = v j
theorem updL_at {v : Nat → Int64} {i : Nat} {x : Int64} : vp_updL v i x i = x := by unfold vp_updL; rw [if_pos rfl]
theorem updL_ne {v : Nat → Int64} {i j : Nat} {x : Int64} (h : ¬ j = i) : vp_updL v i x j = v j := by unfold vp_updL; rw [if_neg h]
theorem kv : (30 : Int32) ∈ kvs ∧ (31 : Int32) ∈ kvs ∧ (32 : Int32) ∈ kvs ∧ (33 : Int32) ∈ kvs ∧ (316 : Int32) ∈ kvs ∧ (318 : Int32) ∈ kvs := by decide
theorem tok_step (h : BY xt mt sz) {s i N1 N2 : Nat} (hs : s ≤ sz) (hi : i < 401) (hN1 : 2000 < N1) (hN2 : 2000 < N2) {x38 : Nat → Int64} (hK : ∀ k, k < 25 → f_M_nameOf 100 (wS k) = some (x38 k)) (num : Int32) (word : Int64) (v : Nat → Int64) : TokS xt mt sz s i N1 N2 num word v x38 := by
  have h0 := h.1
  obtain ⟨k30, k31, k32, k33, k316, k318⟩ := kv
  by_cases he : s = sz
  · subst he
    refine ⟨33, s + 1, s, num, word, v, ?_, ?_, ?_, k33, fun h => absurd rfl h, fun h => absurd h (by decide), fun h => absurd h (by decide), fun j _ => rfl⟩
    · unfold f_To_nextKind
      rw [if_neg (nI_nlt (Nat.le_refl _) (by omega))]
      rfl
    · unfold f_M_endOf
      rw [byt_out (Nat.le_refl _) (by omega), oB_s, if_pos (by decide), if_pos (by decide), if_neg (by decide), if_neg (by decide), ← nI_succ]
    · unfold f_M_kindOf3
      rw [byt_out (Nat.le_refl _) (by omega), oB_s, if_pos rfl]
  · have hlt : s < sz := by omega
    obtain ⟨b, hb, eb⟩ := (h.2 s hlt).2
    obtain ⟨b1, b2⟩ := byt_in h hlt
    obtain ⟨a1, a2, a3, a4, a5⟩ := sd_b b hb
    have e3 : f_To_isLetter (mt s) = f_M_isSmall (mt s) := rfl
    have e4 : f_To_isDigit (mt s) = f_M_isDigit (mt s) := rfl
    have nm : ¬ mt s = -1 := by rw [eb]; exact a3
    by_cases hl : f_M_isSmall (mt s) = 1
    · obtain ⟨q, q1, q2, q3, q4⟩ := scn (ldB mt) (sz - s) s
      have hq : s < q := by
        rcases Nat.lt_or_eq_of_le q1 with h5 | h5
        · exact h5
        · have h6 := q4 (by omega)
          rw [← h5] at h6
          unfold ldB at h6
          rw [hl] at h6
          cases h6
      have w1 := x_word h hq (by omega) q3 (fun h5 => q4 (by omega)) hN1 word x38
      have w2 := m_wend h hq (by omega) hl q3 (fun h5 => q4 (by omega)) hN2
      have w3 := m_word (q := q) h hq (by omega) hN2 hi hK v
      have d0 : f_M_isDigit (mt s) = 0 := by
        rw [eb]
        exact (sml_b b hb (by rw [← eb]; exact hl)).1
      have x1 : f_To_nextKind N1 xt (nI sz) (nI s) num word 25 x38 = some ((if q - s ≤ 10 then (match ff (fun k => decide (x38 k = hM mt s (q - s))) 25 0 with | some k => 200 + nI k | none => 130) else 133), nI q, num, hM mt s (q - s)) := by
        unfold f_To_nextKind
        rw [if_pos (nI_lt hlt (by omega)), b2, e3, hl, if_neg n10, w1, oB_s]
      by_cases h10 : q - s ≤ 10
      · have y1 : f_M_kindOf3 N2 (nI sz) mt v (nI i) (nI s) (nI q) = some ((match ff (fun k => decide (x38 k = hM mt s (q - s))) 25 0 with | some k => nI k | none => 30), vp_updL v i (hM mt s (q - s))) := by
          unfold f_M_kindOf3
          rw [b1, oB_s, if_neg nm, d0, if_pos rfl, hl, if_neg n10, nI_sub (by omega), if_pos (show nI (q - s) ≤ 10 from nI_le (b := 10) h10 (by decide)), w3, oB_s]
        rw [if_pos h10] at x1
        cases hf : ff (fun k => decide (x38 k = hM mt s (q - s))) 25 0 with
        | none =>
          rw [hf] at x1 y1
          exact ⟨30, q, q, num, hM mt s (q - s), vp_updL v i (hM mt s (q - s)), x1, w2, y1, k30, fun _ _ => ⟨rfl, hq, by omega⟩, fun _ => updL_at, fun h => absurd h (by decide), fun j hj => updL_ne hj⟩
        | some k =>
          rw [hf] at x1 y1
          have hk := ff_lt _ _ hf
          obtain ⟨m1, m2, m3, m4, m5, m6⟩ := kw_km k (by omega)
          refine ⟨nI k, q, q, num, hM mt s (q - s), vp_updL v i (hM mt s (q - s)), ?_, w2, y1, m1, fun _ _ => ⟨rfl, hq, by omega⟩, fun h => absurd h m3, fun h => absurd h m4, fun j hj => updL_ne hj⟩
          rw [m2]
          exact x1
      · rw [if_neg h10] at x1
        refine ⟨32, q, q, num, hM mt s (q - s), v, x1, w2, ?_, k32, fun _ h => absurd rfl h, fun h => absurd h (by decide), fun h => absurd h (by decide), fun j hj => rfl⟩
        unfold f_M_kindOf3
        rw [b1, oB_s, if_neg nm, d0, if_pos rfl, hl, if_neg n10, nI_sub (by omega), if_neg (show ¬ nI (q - s) ≤ 10 from nI_ge (a := 10) (by omega) (by omega))]
    · have hl0 : f_M_isSmall (mt s) = 0 := by
        rw [eb] at hl ⊢
        exact a1.resolve_right hl
      by_cases hd : f_M_isDigit (mt s) = 1
      · obtain ⟨q, q1, q2, q3, q4⟩ := scn (digB mt) (sz - s) s
        have hq : s < q := by
          rcases Nat.lt_or_eq_of_le q1 with h5 | h5
          · exact h5
          · have h6 := q4 (by omega)
            rw [← h5] at h6
            unfold digB at h6
            rw [hd] at h6
            cases h6
        have q5 : q < sz → f_M_isDigit (mt q) = 0 := fun h5 => by
          have h6 := q4 (by omega)
          obtain ⟨b', hb', eb'⟩ := (h.2 q h5).2
          obtain ⟨-, c2, -⟩ := sd_b b' hb'
          unfold digB at h6
          rw [eb'] at h6 ⊢
          exact c2.resolve_right (of_decide_eq_false h6)
        have w1 := x_num h hq (by omega) q3 q5 hN1 num
        have w2 := m_nend h hq (by omega) hd q3 q5 hN2
        have w3 := m_num (q := q) h hq (by omega) hN2 hi v
        have x1 : f_To_nextKind N1 xt (nI sz) (nI s) num word 25 x38 = some ((if q - s ≤ 6 then 131 else 133), nI q, hN mt s (q - s), word) := by
          unfold f_To_nextKind
          rw [if_pos (nI_lt hlt (by omega)), b2, e3, hl0, if_pos rfl, e4, hd, if_neg n10, w1, oB_s]
        have num6 : q - s ≤ 6 → ∃ m, m < 1000000 ∧ hN mt s (q - s) = nI m := fun h6 => by
          obtain ⟨m, m1, m2⟩ := hN_small h (s := s) (q - s) (by omega) (fun j a c => q3 j a (by omega))
          have : 10 ^ (q - s) ≤ 10 ^ 6 := Nat.pow_le_pow_right (by decide) h6
          exact ⟨m, by omega, m2⟩
        by_cases h6 : q - s ≤ 6
        · rw [if_pos h6] at x1
          refine ⟨31, q, q, hN mt s (q - s), word, vp_updL v i (hN mt s (q - s)).toInt64, x1, w2, ?_, k31, fun _ _ => ⟨rfl, hq, by omega⟩, fun h => absurd h (by decide), fun _ => ⟨updL_at, num6 h6⟩, fun j hj => updL_ne hj⟩
          unfold f_M_kindOf3
          rw [b1, oB_s, if_neg nm, hd, if_neg n10, nI_sub (by omega), if_pos (show nI (q - s) ≤ 6 from nI_le (b := 6) h6 (by decide)), w3, oB_s]
        · rw [if_neg h6] at x1
          refine ⟨32, q, q, hN mt s (q - s), word, v, x1, w2, ?_, k32, fun _ h => absurd rfl h, fun h => absurd h (by decide), fun h => absurd h (by decide), fun j hj => rfl⟩
          unfold f_M_kindOf3
          rw [b1, oB_s, if_neg nm, hd, if_neg n10, nI_sub (by omega), if_neg (show ¬ nI (q - s) ≤ 6 from nI_ge (a := 6) (by omega) (by omega))]
      · have hd0 : f_M_isDigit (mt s) = 0 := by
          rw [eb] at hd ⊢
          exact a2.resolve_right hd
        obtain ⟨vs, s1, s2⟩ := symN (N := N1) hb (by omega)
        rw [← eb] at s1
        obtain ⟨c, t1, t2⟩ := stop h (show s + 1 ≤ sz by omega)
        have one1 : ¬ (nI (s + 1) - nI s : Int32) = 2 := by rw [nI_sub (by omega), show s + 1 - s = 1 by omega]; decide
        -- one byte alone
        have single : ¬ ((mt s = 60 ∨ mt s = 62) ∧ c = 61) → TokS xt mt sz s i N1 N2 num word v x38 := by
          intro hno
          have x1 : f_To_nextKind N1 xt (nI sz) (nI s) num word 25 x38 = if vs < 0 then some (133, nI (s + 1), num, word) else some (mt s, nI (s + 1), num, word) := by
            unfold f_To_nextKind
            rw [if_pos (nI_lt hlt (by omega)), b2, e3, hl0, if_pos rfl, e4, hd0, if_pos rfl, s1]
            simp only [oB_s, ← nI_succ]
            by_cases g1 : mt s = 60
            · rw [if_pos g1]
              by_cases g2 : nI sz ≤ nI (s + 1)
              · rw [if_pos g2]
              · rw [if_neg g2]
                have g3 : s + 1 < sz := Nat.lt_of_not_le (fun h5 => g2 (nI_le h5 (by omega)))
                rw [(byt_in h g3).2, if_neg (fun g4 => hno ⟨Or.inl g1, by
                  rcases t2 with ⟨-, rfl⟩ | ⟨h5, -⟩
                  · exact g4
                  · omega⟩)]
            · rw [if_neg g1]
              by_cases g5 : mt s = 62
              · rw [if_pos g5]
                by_cases g2 : nI sz ≤ nI (s + 1)
                · rw [if_pos g2]
                · rw [if_neg g2]
                  have g3 : s + 1 < sz := Nat.lt_of_not_le (fun h5 => g2 (nI_le h5 (by omega)))
                  rw [(byt_in h g3).2, if_neg (fun g4 => hno ⟨Or.inr g5, by
                    rcases t2 with ⟨-, rfl⟩ | ⟨h5, -⟩
                    · exact g4
                    · omega⟩)]
              · rw [if_neg g5]
          have y1 : f_M_endOf N2 (nI sz) mt (nI s) = some (nI (s + 1)) := by
            unfold f_M_endOf
            rw [b1, oB_s, hl0, if_pos rfl, hd0, if_pos rfl, ← nI_succ, t1, oB_s]
            by_cases g1 : mt s = 60
            · rw [if_pos g1, if_neg (fun g4 => hno ⟨Or.inl g1, g4⟩)]
            · rw [if_neg g1]
              by_cases g5 : mt s = 62
              · rw [if_pos g5, if_neg (fun g4 => hno ⟨Or.inr g5, g4⟩)]
              · rw [if_neg g5]
          have z1 : f_M_kindOf3 N2 (nI sz) mt v (nI i) (nI s) (nI (s + 1)) = some ((if symB b = true then mt s else 32), v) := by
            unfold f_M_kindOf3
            rw [b1, oB_s, if_neg nm, hd0, if_pos rfl, hl0, if_pos rfl, if_neg one1]
            have := kind_b b hb
            rw [← eb] at this
            rw [← this]
            have pull : ∀ (c : Prop) [Decidable c] (a b : Int32), some ((if c then a else b), v) = if c then some (a, v) else some (b, v) := by
              intro c _ a b
              split <;> rfl
            simp only [pull]
          cases hsy : symB b with
          | true =>
            rw [hsy] at z1
            have g6 : ¬ vs < 0 := fun h5 => by have := s2.mp h5; rw [hsy] at this; cases this
            rw [if_neg g6] at x1
            obtain ⟨m1, m2⟩ := sym_km b hb hsy
            obtain ⟨o1, o2, o3, o4⟩ := oth_b b hb hsy
            rw [← eb] at m1 m2 o1 o2 o3 o4
            refine ⟨mt s, s + 1, s + 1, num, word, v, ?_, y1, z1, m1, fun _ _ => ⟨rfl, by omega, by omega⟩, fun h => absurd h o1, fun h => absurd h o2, fun j hj => rfl⟩
            rw [m2]
            exact x1
          | false =>
            rw [hsy] at z1
            rw [if_pos (s2.mpr hsy)] at x1
            exact ⟨32, s + 1, s + 1, num, word, v, x1, y1, z1, k32, fun _ h => absurd rfl h, fun h => absurd h (by decide), fun h => absurd h (by decide), fun j hj => rfl⟩
        by_cases htwo : (mt s = 60 ∨ mt s = 62) ∧ c = 61
        · obtain ⟨g1, rfl⟩ := htwo
          have g3 : s + 1 < sz := by
            rcases t2 with ⟨h5, -⟩ | ⟨-, h5⟩
            · exact h5
            · exact absurd h5 (by decide)
          have g4 : mt (s + 1) = 61 := by
            rcases t2 with ⟨-, h5⟩ | ⟨-, h5⟩
            · exact h5.symm
            · exact absurd h5 (by decide)
          have two1 : (nI (s + 1 + 1) - nI s : Int32) = 2 := by rw [nI_sub (by omega), show s + 1 + 1 - s = 2 by omega]; rfl
          have g5 : ¬ nI sz ≤ nI (s + 1) := nI_ge g3 (by omega)
          have n6 : ¬ (62 : Int32) = 60 := by decide
          rcases g1 with g1 | g1
          · refine ⟨316, s + 1 + 1, s + 1 + 1, num, word, v, ?_, ?_, ?_, k316, fun _ _ => ⟨rfl, by omega, by omega⟩, fun h => absurd h (by decide), fun h => absurd h (by decide), fun j hj => rfl⟩
            · unfold f_To_nextKind
              rw [if_pos (nI_lt hlt (by omega)), b2, e3, hl0, if_pos rfl, e4, hd0, if_pos rfl, if_pos g1, ← nI_succ, if_neg g5, (byt_in h g3).2, if_pos g4, if_pos g1, ← nI_succ]
              rfl
            · unfold f_M_endOf
              rw [b1, oB_s, hl0, if_pos rfl, hd0, if_pos rfl, if_pos g1, ← nI_succ, t1, oB_s, if_pos rfl, ← nI_succ]
            · unfold f_M_kindOf3
              rw [b1, oB_s, if_neg nm, hd0, if_pos rfl, hl0, if_pos rfl, if_pos two1, g1]
              rfl
          · have g7 : ¬ mt s = 60 := by rw [g1]; exact n6
            refine ⟨318, s + 1 + 1, s + 1 + 1, num, word, v, ?_, ?_, ?_, k318, fun _ _ => ⟨rfl, by omega, by omega⟩, fun h => absurd h (by decide), fun h => absurd h (by decide), fun j hj => rfl⟩
            · unfold f_To_nextKind
              rw [if_pos (nI_lt hlt (by omega)), b2, e3, hl0, if_pos rfl, e4, hd0, if_pos rfl, if_neg g7, if_pos g1, ← nI_succ, if_neg g5, (byt_in h g3).2, if_pos g4, if_neg g7, ← nI_succ]
              rfl
            · unfold f_M_endOf
              rw [b1, oB_s, hl0, if_pos rfl, hd0, if_pos rfl, if_neg g7, if_pos g1, ← nI_succ, t1, oB_s, if_pos rfl, ← nI_succ]
            · unfold f_M_kindOf3
              rw [b1, oB_s, if_neg nm, hd0, if_pos rfl, hl0, if_pos rfl, if_pos two1, g1]
              rfl
        · exact single htwo
end TK
