/-! loops, bits of sets of tellers, the smallest sets -/
theorem lp_tr {S T : Type} {step : S → S ⊕ T} {fail t : T} (σ : Nat → S) : ∀ (k n i : Nat), (∀ j, i ≤ j → j < i + k → step (σ j) = .inl (σ (j + 1))) → step (σ (i + k)) = .inr t → k < n → lpS step fail n (σ i) = t := by
  intro k
  induction k with
  | zero =>
    intro n i _ h2 hn
    cases n with
    | zero => omega
    | succ n =>
      show (match step (σ i) with | .inl s2 => lpS step fail n s2 | .inr t => t) = t
      rw [show step (σ i) = .inr t from h2]
  | succ k ih =>
    intro n i h1 h2 hn
    cases n with
    | zero => omega
    | succ n =>
      show (match step (σ i) with | .inl s2 => lpS step fail n s2 | .inr t => t) = t
      rw [h1 i (Nat.le_refl _) (by omega)]
      exact ih n (i + 1) (fun j a b => h1 j (by omega) (by omega)) (by rw [show i + 1 + k = i + (k + 1) by omega]; exact h2) (by omega)
theorem lp_in {S T : Type} {step : S → S ⊕ T} {fail : T} {s s2 : S} {m : Nat} (h : step s = .inl s2) : lpS step fail (m + 1) s = lpS step fail m s2 := by
  show (match step s with | .inl s2 => lpS step fail m s2 | .inr t => t) = _
  rw [h]
theorem lp_out {S T : Type} {step : S → S ⊕ T} {fail t : T} {s : S} {m : Nat} (h : step s = .inr t) : lpS step fail (m + 1) s = t := by
  show (match step s with | .inl s2 => lpS step fail m s2 | .inr t => t) = _
  rw [h]
/-- from 0 on -/
theorem lp_0 {S T : Type} {step : S → S ⊕ T} {fail t : T} (σ : Nat → S) (k : Nat) {n : Nat} {s : S} (hs : s = σ 0) (h1 : ∀ j, j < k → step (σ j) = .inl (σ (j + 1))) (h2 : step (σ k) = .inr t) (hn : k < n) : lpS step fail n s = t := by
  rw [hs]
  exact lp_tr σ k n 0 (fun j _ b => h1 j (by omega)) (by rw [Nat.zero_add]; exact h2) hn
/-- a search: all of them, or the first that isn't -/
theorem lp_all {S T : Type} {step : S → S ⊕ T} {fail a b : T} (σ : Nat → S) (K : Nat) (ok : Nat → Bool) (hend : step (σ K) = .inr a) (hyes : ∀ j, j < K → ok j = true → step (σ j) = .inl (σ (j + 1))) (hno : ∀ j, j < K → ok j = false → step (σ j) = .inr b) {n : Nat} (hn : K < n) : lpS step fail n (σ 0) = if ∀ j, j < K → ok j = true then a else b := by
  have key : ∀ m i n, i + m = K → m < n → lpS step fail n (σ i) = if ∀ j, j < K → i ≤ j → ok j = true then a else b := by
    intro m
    induction m with
    | zero =>
      intro i n hi hn
      rw [if_pos (fun j h1 h2 => by omega)]
      have e : i = K := by omega
      rw [e]
      exact lp_tr σ 0 n K (fun j h1 h2 => by omega) hend hn
    | succ m ih =>
      intro i n hi hn
      cases n with
      | zero => omega
      | succ n =>
        show (match step (σ i) with | .inl s2 => lpS step fail n s2 | .inr t => t) = _
        cases hk : ok i with
        | true =>
          rw [hyes i (by omega) hk]
          show lpS step fail n (σ (i + 1)) = _
          rw [ih (i + 1) n (by omega) (by omega)]
          have e : (∀ j, j < K → i + 1 ≤ j → ok j = true) ↔ (∀ j, j < K → i ≤ j → ok j = true) := by
            constructor
            · intro h j h1 h2
              by_cases h3 : j = i
              · rw [h3]; exact hk
              · exact h j h1 (by omega)
            · intro h j h1 h2
              exact h j h1 (by omega)
          by_cases hc : ∀ j, j < K → i + 1 ≤ j → ok j = true
          · rw [if_pos hc, if_pos (e.mp hc)]
          · rw [if_neg hc, if_neg (fun h => hc (e.mpr h))]
        | false =>
          rw [hno i (by omega) hk]
          show b = _
          rw [if_neg (fun h => by have := h i (by omega) (Nat.le_refl _); rw [hk] at this; cases this)]
  rw [key K 0 n (by omega) hn]
  have e : (∀ j, j < K → 0 ≤ j → ok j = true) ↔ (∀ j, j < K → ok j = true) := ⟨fun h j h2 => h j h2 (Nat.zero_le _), fun h j h2 _ => h j h2⟩
  by_cases hc : ∀ j, j < K → 0 ≤ j → ok j = true
  · rw [if_pos hc, if_pos (e.mp hc)]
  · rw [if_neg hc, if_neg (fun h => hc (e.mpr h))]
-- words of 32 bits as small numbers
theorem q_and (a b : Nat) : nI a &&& nI b = nI (a &&& b) := by
  apply Int32.toBitVec_inj.mp
  rw [Int32.toBitVec_and]
  show BitVec.ofNat 32 a &&& BitVec.ofNat 32 b = BitVec.ofNat 32 (a &&& b)
  apply BitVec.eq_of_getLsbD_eq
  intro i hi
  simp [BitVec.getLsbD_ofNat, hi]
theorem q_or (a b : Nat) : nI a ||| nI b = nI (a ||| b) := by
  apply Int32.toBitVec_inj.mp
  rw [Int32.toBitVec_or]
  show BitVec.ofNat 32 a ||| BitVec.ofNat 32 b = BitVec.ofNat 32 (a ||| b)
  apply BitVec.eq_of_getLsbD_eq
  intro i hi
  simp [BitVec.getLsbD_ofNat, hi]
theorem q_xor (a b : Nat) : nI a ^^^ nI b = nI (a ^^^ b) := by
  apply Int32.toBitVec_inj.mp
  rw [Int32.toBitVec_xor]
  show BitVec.ofNat 32 a ^^^ BitVec.ofNat 32 b = BitVec.ofNat 32 (a ^^^ b)
  apply BitVec.eq_of_getLsbD_eq
  intro i hi
  simp [BitVec.getLsbD_ofNat, hi]
theorem q_not (x y : Int32) : x &&& (y ^^^ (-1)) = x ^^^ (x &&& y) := by
  apply Int32.toBitVec_inj.mp
  rw [Int32.toBitVec_and, Int32.toBitVec_xor, Int32.toBitVec_xor, Int32.toBitVec_and]
  show x.toBitVec &&& (y.toBitVec ^^^ BitVec.allOnes 32) = _
  apply BitVec.eq_of_getLsbD_eq
  intro i hi
  rw [BitVec.getLsbD_and, BitVec.getLsbD_xor, BitVec.getLsbD_xor, BitVec.getLsbD_and, BitVec.getLsbD_allOnes, decide_eq_true hi]
  cases x.toBitVec.getLsbD i <;> cases y.toBitVec.getLsbD i <;> rfl
/-- what is in a and not in b -/
def dif (a b : Nat) : Nat := a ^^^ (a &&& b)
theorem q_dif (a b : Nat) : nI a &&& (nI b ^^^ (-1)) = nI (dif a b) := by rw [q_not, q_and, q_xor]; rfl
theorem dif_bit (a b k : Nat) : (dif a b).testBit k = (a.testBit k && !b.testBit k) := by
  unfold dif
  rw [Nat.testBit_xor, Nat.testBit_and]
  cases a.testBit k <;> cases b.testBit k <;> rfl
theorem q_bit : ∀ t, t < 32 → (1 : Int32) <<< (nI t &&& 31) = nI (2 ^ t) := by decide +kernel
theorem lt_of_bits {a n : Nat} (h : ∀ k, n ≤ k → a.testBit k = false) : a < 2 ^ n := Nat.lt_pow_two_of_testBit a (fun i hi => h i hi)
theorem bits_of_lt {a n k : Nat} (h : a < 2 ^ n) (hk : n ≤ k) : a.testBit k = false := Nat.testBit_lt_two_pow (Nat.lt_of_lt_of_le h (Nat.pow_le_pow_right (by decide) hk))
theorem q_0 {a : Nat} (h : a < 2 ^ 31) : nI a = 0 ↔ a = 0 := by
  rw [show (0 : Int32) = nI 0 from rfl]
  exact nI_eq h (by decide)
theorem q_shr {s k : Nat} (hs : s < 2 ^ 31) (hk : k < 31) : nI s >>> (nI k &&& 31) = nI (s >>> k) := by
  have h1 : ∀ k, k < 32 → ((nI k &&& 31).toBitVec.smod 32).toNat = k := by decide +kernel
  apply Int32.toBitVec_inj.mp
  rw [Int32.toBitVec_shiftRight]
  show (BitVec.ofNat 32 s).sshiftRight ((nI k &&& 31).toBitVec.smod 32).toNat = BitVec.ofNat 32 (s >>> k)
  rw [h1 k (by omega)]
  apply BitVec.eq_of_getLsbD_eq
  intro i hi
  rw [BitVec.getLsbD_sshiftRight]
  have hm : (BitVec.ofNat 32 s).msb = false := by
    rw [BitVec.msb_eq_getLsbD_last]
    simp only [BitVec.getLsbD_ofNat]
    rw [bits_of_lt hs (by decide)]
    simp
  rw [hm]
  simp only [BitVec.getLsbD_ofNat, Nat.testBit_shiftRight, hi, decide_true, Bool.true_and]
  by_cases h2 : k + i < 32
  · simp [h2, show ¬ (32 ≤ i) by omega]
  · rw [bits_of_lt (k := k + i) hs (by omega)]
    simp [h2, show ¬ (32 ≤ i) by omega]
theorem q_has {s k : Nat} (hs : s < 2 ^ 31) (hk : k < 31) : f_Main_has (nI s) (nI k) = if s.testBit k = true then 1 else 0 := by
  unfold f_Main_has
  rw [q_shr hs hk, show (1 : Int32) = nI 1 from rfl, q_and]
  have e : (s >>> k) &&& 1 = if s.testBit k = true then 1 else 0 := by
    rw [Nat.and_one_is_mod, Nat.shiftRight_eq_div_pow]
    rw [Nat.testBit_eq_decide_div_mod_eq]
    by_cases h : s / 2 ^ k % 2 = 1
    · simp [h]
    · have : s / 2 ^ k % 2 = 0 := by omega
      simp [this]
  rw [e]
  by_cases h : s.testBit k = true
  · rw [if_pos h, if_pos h]; exact if_neg (by decide)
  · rw [if_neg h, if_neg h]; exact if_pos rfl

/-- how many are in a set of at most ten -/
def pcN (s : Nat) : Nat := (List.range 10).foldl (fun n k => n + (if s.testBit k then 1 else 0)) 0
theorem q_pc : ∀ s, s < 1024 → f_J6_bitCount_0f7a4 (nI s) = nI (pcN s) := by decide +kernel
theorem pcN_le : ∀ s, s < 1024 → pcN s ≤ 10 := by decide +kernel
/-- the lowest bit -/
def lowN (d : Nat) : Nat := d &&& (4294967296 - d)
theorem q_low : ∀ d, d < 1024 → nI d &&& (-(nI d)) = nI (lowN d) := by decide +kernel
theorem low_bit : ∀ d, d < 1024 → d = 0 ∨ ∃ k, k < 10 ∧ lowN d = 2 ^ k ∧ d.testBit k = true := by decide +kernel
theorem xor_lt {a b n : Nat} (ha : a < 2 ^ n) (hb : b < 2 ^ n) : a ^^^ b < 2 ^ n := Nat.xor_lt_two_pow ha hb
theorem and_lt {a b n : Nat} (ha : a < 2 ^ n) : a &&& b < 2 ^ n := lt_of_bits (fun k hk => by rw [Nat.testBit_and, bits_of_lt ha hk]; rfl)
theorem or_lt {a b n : Nat} (ha : a < 2 ^ n) (hb : b < 2 ^ n) : a ||| b < 2 ^ n := Nat.or_lt_two_pow ha hb
theorem dif_lt {a b n : Nat} (ha : a < 2 ^ n) : dif a b < 2 ^ n := lt_of_bits (fun k hk => by rw [dif_bit, bits_of_lt ha hk]; rfl)
theorem xor0 {a b : Nat} (h : a ^^^ b = 0) : a = b := by
  apply Nat.eq_of_testBit_eq
  intro k
  have := congrArg (fun z => z.testBit k) h
  rw [Nat.testBit_xor, Nat.zero_testBit] at this
  simpa using this
/-- which of two sets of one size goes ahead -/
def pref (a b : Nat) : Bool := a &&& lowN (a ^^^ b) == 0
theorem q_pref {a b : Nat} (ha : a < 1024) (hb : b < 1024) : f_Ve_isPreferred (nI a) (nI b) = if pref a b = true then 1 else 0 := by
  unfold f_Ve_isPreferred
  have hx : a ^^^ b < 1024 := xor_lt (n := 10) ha hb
  have e : (nI a &&& (nI a ^^^ nI b)) &&& (-(nI a ^^^ nI b)) = nI (a &&& lowN (a ^^^ b)) := by
    rw [Int32.and_assoc, q_xor, q_low _ hx, q_and]
  rw [e]
  have h3 : a &&& lowN (a ^^^ b) < 2 ^ 31 := and_lt (n := 31) (by omega)
  have : (nI (a &&& lowN (a ^^^ b)) = 0) ↔ pref a b = true := by
    rw [q_0 h3]
    unfold pref
    simp
  by_cases h : pref a b = true
  · rw [if_pos (this.mpr h), if_pos h]
  · rw [if_neg (fun h2 => h (this.mp h2)), if_neg h]
