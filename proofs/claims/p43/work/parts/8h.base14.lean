theorem lt_sub1 {a b : Nat} (ha : a < 1000) (hb : b < 1000) (h : b ≤ a + 1) : ¬ nI a < nI b - 1 := by
  intro h2
  have e : (nI b - nI 1).toInt = (b : Int) - (1 : Nat) := pk_sub_toInt (by omega) (by decide)
  rw [Int32.lt_iff_toInt_lt, show nI b - 1 = nI b - nI 1 from rfl, e, nI_toInt (by omega)] at h2
  omega
theorem pl_step {f : Nat → Int32} {p : Nat → Nat} {ne e : Nat} (hinj : ∀ i j, i < ne → j < ne → p i = p j → i = j) (he : e < ne) (h : ∀ i, i < e → f (p i) = nI i) : ∀ i, i < e + 1 → upd f (p e) (nI e) (p i) = nI i := by
  intro i hi
  by_cases e9 : i = e
  · rw [e9]
    exact upd_at
  · rw [upd_ne (fun h9 => e9 (hinj i e (by omega) he h9))]
    exact h i (by omega)
