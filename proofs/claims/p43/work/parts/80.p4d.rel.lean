/-! what holds between both sides from call to call -/
def RT (x0 : Int32) (x2 : Nat → Int32) (m1 : Int32) (m13 : Nat → Int32) (sz : Nat) : Prop := x0 = nI sz ∧ m1 = nI sz ∧ sz ≤ 2000 ∧ ∀ j, j < sz → x2 j = m13 j ∧ ∃ b, b < 256 ∧ m13 j = nI b
def agI (k : Int32) (out : Nat → Int64) (b th : Int32) : Prop := th = k ∧ (k = 0 → out 0 = b.toInt64)
def agB (k : Int32) (out : Nat → Int64) (b th : Int32) : Prop := th = k ∧ z01 b ∧ (k = 0 → out 0 = if b = 0 then 0 else 1)
theorem idx (p : Int32) (m : Nat) : (∃ i, i < m ∧ p = nI i) ∨ (∀ i, i < m → ¬ p = nI i) := by
  by_cases h : ∃ i, i < m ∧ p = nI i
  · exact Or.inl h
  · exact Or.inr (fun i hi he => h ⟨i, hi, he⟩)
theorem need_in {m i : Nat} (h : i < m) (hm : m < 2 ^ 31) : f_Main_needClaim (nI m) (nI i) = some (.inl ()) := by
  unfold f_Main_needClaim
  rw [if_neg (nI_pos (by omega)), if_pos (nI_lt h hm)]
theorem need_out {m : Nat} {p : Int32} (h : ∀ i, i < m → ¬ p = nI i) (hm : m < 2 ^ 31) : f_Main_needClaim (nI m) p = some (.inr "java/lang/IndexOutOfBoundsException") := by
  unfold f_Main_needClaim
  by_cases h1 : p < 0
  · rw [if_pos h1]
  · rw [if_neg h1]
    obtain ⟨j, hj, rfl⟩ := nI_of h1
    have h2 : m ≤ j := Nat.le_of_not_lt (fun h3 => h j h3 rfl)
    rw [if_neg (nI_nlt h2 hj)]
theorem up0 (f : Nat → Int64) (v : Int64) : vp_updL f (0 : Int32).toNatClampNeg v 0 = v := by
  unfold vp_updL
  exact if_pos (by decide)
theorem sIB : ¬ "java/lang/IllegalStateException" = "java/lang/IndexOutOfBoundsException" := by decide
theorem sAB : ¬ "java/lang/IllegalArgumentException" = "java/lang/IndexOutOfBoundsException" := by decide
theorem sIA : ¬ "java/lang/IllegalStateException" = "java/lang/IllegalArgumentException" := by decide
theorem has01 (s k : Int32) : z01 (f_Main_has s k) := by
  unfold f_Main_has
  split <;> first | exact Or.inl rfl | exact Or.inr rfl
theorem n10 : ¬ (1 : Int32) = 0 := by decide
theorem n20 : ¬ (2 : Int32) = 0 := by decide
theorem n30 : ¬ (3 : Int32) = 0 := by decide
theorem up1 (f : Nat → Int64) {v w : Int32} (h : v = w) : vp_updL f (0 : Int32).toNatClampNeg v.toInt64 0 = w.toInt64 := (up0 f _).trans (by rw [h])
