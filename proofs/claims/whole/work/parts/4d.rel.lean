/-! what holds between both sides from call to call -/
def RT (x0 : Int32) (x2 : Nat → Int32) (m1 : Int32) (m13 : Nat → Int32) (sz : Nat) : Prop := x0 = nI sz ∧ m1 = nI sz ∧ sz ≤ 2000 ∧ ∀ j, j < sz → x2 j = m13 j ∧ ∃ b, b < 256 ∧ m13 j = nI b
def KWR (x37 : Int32) (x38 : Nat → Int64) : Prop := x37 = 25 ∧ ∀ k, k < 25 → f_M_nameOf 100 (wS k) = some (x38 k)
def Rel (x0 x1 : Int32) (x2 : Nat → Int32) (x3 x4 x5 : Int32) (x6 x7 x8 x9 x10 : Nat → Int32) (x11 : Int32) (x13 x14 x15 x16 x17 : Nat → Int32) (x18 x19 x20 : Int32) (x21 : Nat → Int32) (x37 : Int32) (x38 : Nat → Int64) (x59 x60 x61 m1 m2 m6 m7 m8 m9 m10 m11 m12 : Int32) (m13 m19 : Nat → Int32) (u0 u1 u2 u3 : Int32) (u7 u8 u9 u10 u11 u12 u13 u14 u15 u16 u17 u18 : Nat → Int32) : Prop :=
  ∃ (sz nt ne n no d : Nat) (A : Nat → Nat), RT x0 x2 m1 m13 sz ∧ x1 = m2 ∧ (x3 = nI ne ∧ u0 = nI ne) ∧ (x4 = nI nt ∧ u1 = nI nt) ∧ (x5 = nI n ∧ u2 = nI n) ∧ (x11 = nI no ∧ u3 = nI no) ∧
    Wd A nt ne n x6 x7 x8 x9 x10 u7 u8 u9 u10 u11 x21 m19 ∧ OR nt no x13 x14 x15 x16 x17 u12 u13 u14 u15 u16 u17 u18 ∧ (x59 = nI d ∧ m6 = nI d ∧ d < 1024) ∧ x60 = m7 ∧ x61 = m8 ∧ XC A nt x18 x19 x20 ∧ MC A nt m9 m10 m11 m12 ∧ KWR x37 x38
def agI (k : Int32) (out : Nat → Int64) (b th : Int32) : Prop := th = k ∧ (k = 0 → out 0 = b.toInt64)
def agB (k : Int32) (out : Nat → Int64) (b th : Int32) : Prop := th = k ∧ z01 b ∧ (k = 0 → out 0 = if b = 0 then 0 else 1)
theorem idx (p : Int32) (m : Nat) : (∃ i, i < m ∧ p = nI i) ∨ (∀ i, i < m → ¬ p = nI i) := by
  by_cases h : ∃ i, i < m ∧ p = nI i
  · exact Or.inl h
  · exact Or.inr (fun i hi he => h ⟨i, hi, he⟩)
theorem isin_in {m i : Nat} (h : i < m) (hm : m < 2 ^ 31) : f_M_isIn (nI i) 0 (nI m - 1) = 1 := by
  unfold f_M_isIn
  cases m with
  | zero => omega
  | succ m =>
    rw [nI_pred, if_neg (nI_pos (by omega)), if_neg (nI_nlt (by omega) (by omega))]
theorem isin_out {m : Nat} {p : Int32} (h : ∀ i, i < m → ¬ p = nI i) (hm : m < 2 ^ 31) : f_M_isIn p 0 (nI m - 1) = 0 := by
  unfold f_M_isIn
  by_cases h1 : p < 0
  · rw [if_pos h1]
  · rw [if_neg h1]
    obtain ⟨j, hj, rfl⟩ := nI_of h1
    have h2 : m ≤ j := Nat.le_of_not_lt (fun h3 => h j h3 rfl)
    cases m with
    | zero =>
      rw [if_pos (show nI 0 - 1 < nI j from Int32.lt_of_lt_of_le (show nI 0 - 1 < 0 by decide) (nI_pos' hj))]
    | succ m =>
      rw [nI_pred, if_pos (nI_lt (by omega) hj)]
theorem need_in {m i : Nat} (h : i < m) (hm : m < 2 ^ 31) : f_Main_needClaim (nI m) (nI i) = some (.inl ()) := by
  unfold f_Main_needClaim
  rw [if_neg (nI_pos (by omega)), if_pos (nI_lt h hm)]
theorem need_out {m : Nat} {p : Int32} (h : ∀ i, i < m → ¬ p = nI i) (hm : m < 2 ^ 31) : f_Main_needClaim (nI m) p = some (.inr "java/lang/IndexOutOfBoundsException") := by
  unfold f_Main_needClaim
  by_cases h1 : p < 0
  · rw [if_pos h1]
  · rw [if_neg h1]
    obtain ⟨j, hj, rfl⟩ := nI_of h1
    have h2 : m ≤ j := Nat.le_of_not_lt (fun h3 => h j h3 rfl)
    rw [if_neg (nI_nlt h2 hj)]
theorem cl_in {m i : Nat} (h : i < m) (hm : m < 2 ^ 31) : f_Main_needClaim (nI m) (nI i) = some (.inl ()) ∧ f_M_isClaim (nI m) (nI i) = 1 := ⟨need_in h hm, isin_in h hm⟩
theorem te_in {m i : Nat} (h : i < m) (hm : m < 2 ^ 31) : f_Main_needTeller (nI m) (nI i) = some (.inl ()) ∧ f_M_isTeller (nI m) (nI i) = 1 := ⟨need_in h hm, isin_in h hm⟩
theorem ev_in {m i : Nat} (h : i < m) (hm : m < 2 ^ 31) : f_Main_needEvent (nI m) (nI i) = some (.inl ()) ∧ f_M_isEvent (nI m) (nI i) = 1 := ⟨need_in h hm, isin_in h hm⟩
theorem cl_out {m : Nat} {p : Int32} (h : ∀ i, i < m → ¬ p = nI i) (hm : m < 2 ^ 31) : f_Main_needClaim (nI m) p = some (.inr "java/lang/IndexOutOfBoundsException") ∧ f_M_isClaim (nI m) p = 0 := ⟨need_out h hm, isin_out h hm⟩
theorem te_out {m : Nat} {p : Int32} (h : ∀ i, i < m → ¬ p = nI i) (hm : m < 2 ^ 31) : f_Main_needTeller (nI m) p = some (.inr "java/lang/IndexOutOfBoundsException") ∧ f_M_isTeller (nI m) p = 0 := ⟨need_out h hm, isin_out h hm⟩
theorem ev_out {m : Nat} {p : Int32} (h : ∀ i, i < m → ¬ p = nI i) (hm : m < 2 ^ 31) : f_Main_needEvent (nI m) p = some (.inr "java/lang/IndexOutOfBoundsException") ∧ f_M_isEvent (nI m) p = 0 := ⟨need_out h hm, isin_out h hm⟩
theorem up0 (f : Nat → Int64) (v : Int64) : vp_updL f (0 : Int32).toNatClampNeg v 0 = v := by
  unfold vp_updL
  exact if_pos (by decide)
theorem sIB : ¬ "java/lang/IllegalStateException" = "java/lang/IndexOutOfBoundsException" := by decide
theorem sAB : ¬ "java/lang/IllegalArgumentException" = "java/lang/IndexOutOfBoundsException" := by decide
theorem sIA : ¬ "java/lang/IllegalStateException" = "java/lang/IllegalArgumentException" := by decide
theorem has01 (s k : Int32) : z01 (f_M_has s k) := by
  unfold f_M_has
  split <;> first | exact Or.inl rfl | exact Or.inr rfl
theorem n10 : ¬ (1 : Int32) = 0 := by decide
theorem n20 : ¬ (2 : Int32) = 0 := by decide
theorem n30 : ¬ (3 : Int32) = 0 := by decide
theorem up1 (f : Nat → Int64) {v w : Int32} (h : v = w) : vp_updL f (0 : Int32).toNatClampNeg v.toInt64 0 = w.toInt64 := (up0 f _).trans (by rw [h])
