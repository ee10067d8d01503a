theorem mean_eq : ∀ t, t < 11 → 0 < t → ∀ n, n < 41 → Op.cmpValue (FP.dcmp (FP.ddiv (FP.i2d (nI n)) (FP.i2d (nI t))) (FP.ddiv (FP.i2d (nI n)) (FP.i2d (nI t)))) .l = 0 := by decide +kernel
theorem dbF_one (d a : Nat) : (dbF d a = 1) = (d.testBit a = true) := by
  rw [dbF_bI]
  cases d.testBit a <;> decide
theorem PS.sim {g : GG} {s aC aD aO aT ne nt d : Nat} {ev cr : Int32} {ca : List Nat} {cl : List (Nat → Int32)} {r : va_W} (h : SimR g r aC ca cl) : SimM g (simO s aC aD aO aT ne nt ev cr :: (aD, zA g 10 (dbF d)) :: r) s aC aD aO aT ne nt ev cr ca cl d := SimR.m h
theorem rem3 (k : Nat) (h : k < 2147483648) : nI k - nI k / 3 * 3 = nI (k % 3) := pk_rem (a := k) (d := 3) h (by decide) (by decide)
theorem add3 (k : Nat) : nI k + 3 = nI (k + 3) := nI_add k 3
