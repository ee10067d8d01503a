/-! the model's second pass over the tape -/
section P2
variable {N : Nat} {mk mf xk xs xn : Nat → Int32} {mv xw : Nat → Int64} {s0 : S2} {T : Nat}
def osL : List Int32 := [100, 10, 11, 12, 13, 14, 15, 17, 18, 19, 105, 20, 101, 102, 103, 104, 23, 24, 106, 107, 108, 109, 110, 21, 22]
theorem sr_os {nt : Nat} {K P o w a : Int32} (h : SR nt K P o w a) : o ∈ osL := by
  rcases h with h | h | h | h
  · rcases h with ⟨-, rfl, -⟩ | ⟨-, rfl⟩ | ⟨-, rfl⟩ | ⟨-, rfl⟩ | ⟨-, rfl, -⟩ | ⟨-, rfl, -⟩ | ⟨-, rfl, -⟩ | ⟨-, rfl, -⟩ | ⟨-, rfl, -⟩ | ⟨-, rfl, -⟩ <;> decide
  · rw [h.2]; decide
  · rw [h.2]; decide
  · rcases h with ⟨-, rfl⟩ | ⟨-, rfl⟩ | ⟨-, rfl⟩ | ⟨-, rfl⟩ | ⟨-, rfl⟩ | ⟨-, rfl⟩ | ⟨-, rfl⟩ | ⟨-, rfl⟩ | ⟨-, rfl⟩ | ⟨-, rfl⟩ | ⟨-, rfl⟩ | ⟨-, rfl⟩ | ⟨-, rfl⟩ <;> decide
theorem os_in : ∀ o, o ∈ osL → (f_M_isIn o 17 19 = 0 ↔ ¬ (o = 17 ∨ o = 18 ∨ o = 19)) := by decide
theorem nmd_t {o : Int32} (h : nmd o = true) : o = 13 ∨ o = 14 ∨ o = 15 ∨ o = 17 ∨ o = 18 ∨ o = 19 := of_decide_eq_true h
theorem nmd_f {o : Int32} (h : ¬ nmd o = true) : ¬ o = 13 ∧ ¬ o = 14 ∧ ¬ o = 15 ∧ ¬ o = 17 ∧ ¬ o = 18 ∧ ¬ o = 19 := by
  have h1 : ¬ (o = 13 ∨ o = 14 ∨ o = 15 ∨ o = 17 ∨ o = 18 ∨ o = 19) := fun h2 => h (decide_eq_true h2)
  exact ⟨fun h2 => h1 (Or.inl h2), fun h2 => h1 (Or.inr (Or.inl h2)), fun h2 => h1 (Or.inr (Or.inr (Or.inl h2))), fun h2 => h1 (Or.inr (Or.inr (Or.inr (Or.inl h2)))), fun h2 => h1 (Or.inr (Or.inr (Or.inr (Or.inr (Or.inl h2))))), fun h2 => h1 (Or.inr (Or.inr (Or.inr (Or.inr (Or.inr h2)))))⟩
def stW (who mo mw : Nat → Int32) (i k : Nat) : Int32 := if k < i ∧ nmd (mo k) = true then who (mw k).toNatClampNeg else mw k
def stA (who mo ma : Nat → Int32) (i k : Nat) : Int32 := if k < i ∧ mo k = 17 then who (ma k).toNatClampNeg else ma k
theorem stW_s (who mo mw : Nat → Int32) (i : Nat) : stW who mo mw (i + 1) = if nmd (mo i) = true then upd (stW who mo mw i) i (who (mw i).toNatClampNeg) else stW who mo mw i := by
  funext k
  unfold stW
  by_cases h : nmd (mo i) = true
  · rw [if_pos h]
    by_cases hk : k = i
    · rw [hk, upd_at, if_pos ⟨by omega, h⟩]
    · rw [upd_ne hk]
      by_cases h2 : k < i ∧ nmd (mo k) = true
      · rw [if_pos h2, if_pos ⟨by omega, h2.2⟩]
      · rw [if_neg h2, if_neg (fun h3 => h2 ⟨by omega, h3.2⟩)]
  · rw [if_neg h]
    by_cases hk : k = i
    · rw [hk, if_neg (fun h3 => h h3.2), if_neg (fun h3 => h h3.2)]
    · by_cases h2 : k < i ∧ nmd (mo k) = true
      · rw [if_pos h2, if_pos ⟨by omega, h2.2⟩]
      · rw [if_neg h2, if_neg (fun h3 => h2 ⟨by omega, h3.2⟩)]
theorem stA_s (who mo ma : Nat → Int32) (i : Nat) : stA who mo ma (i + 1) = if mo i = 17 then upd (stA who mo ma i) i (who (ma i).toNatClampNeg) else stA who mo ma i := by
  funext k
  unfold stA
  by_cases h : mo i = 17
  · rw [if_pos h]
    by_cases hk : k = i
    · rw [hk, upd_at, if_pos ⟨by omega, h⟩]
    · rw [upd_ne hk]
      by_cases h2 : k < i ∧ mo k = 17
      · rw [if_pos h2, if_pos ⟨by omega, h2.2⟩]
      · rw [if_neg h2, if_neg (fun h3 => h2 ⟨by omega, h3.2⟩)]
  · rw [if_neg h]
    by_cases hk : k = i
    · rw [hk, if_neg (fun h3 => h h3.2), if_neg (fun h3 => h h3.2)]
    · by_cases h2 : k < i ∧ mo k = 17
      · rw [if_pos h2, if_pos ⟨by omega, h2.2⟩]
      · rw [if_neg h2, if_neg (fun h3 => h2 ⟨by omega, h3.2⟩)]
theorem stW_i (who mo mw : Nat → Int32) (i : Nat) : stW who mo mw i i = mw i := if_neg (fun h => Nat.lt_irrefl i h.1)
theorem stA_i (who mo ma : Nat → Int32) (i : Nat) : stA who mo ma i i = ma i := if_neg (fun h => Nat.lt_irrefl i h.1)
/-- who is meant, at last -/
theorem settle_all {nt t q : Nat} {who mo mw ma sk sp : Nat → Int32} (hN : 500 < N) (hq : q ≤ 400) (ht : t ≤ 400) (h : ∀ i, i < q → StR nt who t (sk i) (sp i) (mo i) (mw i) (ma i)) :
    f_M_settle N who (nI q) mo mw ma = some (stW who mo mw q, stA who mo ma q) ∧ ∀ i, i < q → SR nt (sk i) (sp i) (mo i) (stW who mo mw q i) (stA who mo ma q i) := by
  refine ⟨?_, fun i hi => ?_⟩
  · unfold f_M_settle
    refine lp_0 (fun i => (nI i, stW who mo mw i, stA who mo ma i)) q ?_ ?_ ?_ (by omega)
    · have e1 : stW who mo mw 0 = mw := funext fun k => if_neg (fun h => absurd h.1 (Nat.not_lt_zero _))
      have e2 : stA who mo ma 0 = ma := funext fun k => if_neg (fun h => absurd h.1 (Nat.not_lt_zero _))
      rw [e1, e2]
      rfl
    · intro i hi
      obtain ⟨b1, b2, b3⟩ := h i hi
      have hos := os_in _ (sr_os b1)
      have g1 : ¬ nI q ≤ nI i := nI_ge hi (by omega)
      have g2 : ib (nI i) 800 = true := ib_nI (by omega) (by decide)
      have g3 : (nI i).toNatClampNeg = i := nI_clamp (by omega)
      unfold f_M_settle_L2
      rw [stW_s, stA_s]
      simp only [if_neg g1, if_pos g2, g3, stW_i, stA_i, ← nI_succ]
      by_cases h17 : mo i = 17
      · obtain ⟨j, hj, ej⟩ := b3 h17
        obtain ⟨j2, hj2, ej2⟩ := b2 (by rw [h17]; decide)
        have hi1 : ¬ f_M_isIn (17 : Int32) 17 19 = 0 := by decide
        simp only [h17, if_true, ej, ej2, if_pos (show ib (nI j) 401 = true from ib_nI (by omega) (by decide)), if_pos (show ib (nI j2) 401 = true from ib_nI (by omega) (by decide)), if_neg (show ¬ (17 : Int32) = 13 by decide), if_neg (show ¬ (17 : Int32) = 14 by decide), if_neg (show ¬ (17 : Int32) = 15 by decide), if_neg hi1, if_pos (show nmd 17 = true by decide)]
      · by_cases hn : nmd (mo i) = true
        · obtain ⟨j2, hj2, ej2⟩ := b2 hn
          have hib := ib_nI (show j2 < 401 by omega) (show 401 < 2147483648 by decide)
          simp only [if_neg h17, if_pos hn, ej2, if_pos hib]
          rcases nmd_t hn with h5 | h5 | h5 | h5 | h5 | h5
          · simp only [if_pos h5]
          · simp only [h5, if_neg (show ¬ (14 : Int32) = 13 by decide), if_true]
          · simp only [h5, if_neg (show ¬ (15 : Int32) = 13 by decide), if_neg (show ¬ (15 : Int32) = 14 by decide), if_true]
          · exact absurd h5 h17
          · simp only [h5, if_neg (show ¬ (18 : Int32) = 13 by decide), if_neg (show ¬ (18 : Int32) = 14 by decide), if_neg (show ¬ (18 : Int32) = 15 by decide), if_neg (show ¬ f_M_isIn (18 : Int32) 17 19 = 0 by decide)]
          · simp only [h5, if_neg (show ¬ (19 : Int32) = 13 by decide), if_neg (show ¬ (19 : Int32) = 14 by decide), if_neg (show ¬ (19 : Int32) = 15 by decide), if_neg (show ¬ f_M_isIn (19 : Int32) 17 19 = 0 by decide)]
        · obtain ⟨c1, c2, c3, c4, c5, c6⟩ := nmd_f hn
          have hz := hos.mpr (fun h9 => h9.elim c4 (fun h9 => h9.elim c5 c6))
          simp only [if_neg h17, if_neg hn, if_neg c1, if_neg c2, if_neg c3, if_pos hz]
    · unfold f_M_settle_L2
      simp only [if_pos (nI_le (Nat.le_refl q) (show q < 2 ^ 31 by omega))]
  · obtain ⟨b1, b2, b3⟩ := h i hi
    have e1 : stW who mo mw q i = if nmd (mo i) = true then who (mw i).toNatClampNeg else mw i := by
      unfold stW
      by_cases hn : nmd (mo i) = true
      · rw [if_pos hn, if_pos ⟨hi, hn⟩]
      · rw [if_neg hn, if_neg (fun h9 => hn h9.2)]
    have e2 : stA who mo ma q i = if mo i = 17 then who (ma i).toNatClampNeg else ma i := by
      unfold stA
      by_cases hn : mo i = 17
      · rw [if_pos hn, if_pos ⟨hi, hn⟩]
      · rw [if_neg hn, if_neg (fun h9 => hn h9.2)]
    rw [e1, e2]
    exact b1
abbrev RD := Option (Int32 × Int32 × Int32 × Int32 × Int32 × (Nat → Int32) × (Nat → Int32) × (Nat → Int32) × (Nat → Int64) × (Nat → Int32) × Int32 × Int32 × Int32 × Int32 × Int32 × (Nat → Int64) × (Nat → Int64) × (Nat → Int32) × (Nat → Int32) × (Nat → Int32) × (Nat → Int32) × (Nat → Int32) × (Nat → Int32) × (Nat → Int32) × (Nat → Int32) × (Nat → Int32) × (Nat → Int32) × (Nat → Int32) × (Nat → Int32))
def endM (ret at_ tok dp od : Int32) (mk mf mm : Nat → Int32) (mv : Nat → Int64) (s : S2) (many : Int32) (mD mB mEd mo mw ma : Nat → Int32) : RD :=
  some (ret, at_, tok, dp, od, mk, mf, mm, mv, s.1, s.2.1, s.2.2.1, s.2.2.2.1, s.2.2.2.2.1, many, s.2.2.2.2.2.1, s.2.2.2.2.2.2.1, s.2.2.2.2.2.2.2.1, s.2.2.2.2.2.2.2.2.1, s.2.2.2.2.2.2.2.2.2.1, s.2.2.2.2.2.2.2.2.2.2.1, s.2.2.2.2.2.2.2.2.2.2.2.1, mD, s.2.2.2.2.2.2.2.2.2.2.2.2, mB, mEd, mo, mw, ma)
variable {mm mD mB mEd mo mw ma : Nat → Int32} {a0 dp od many : Int32}
theorem ch_run : ∀ t s m, t ≤ T → T ≤ 400 → Ch N mk mv s0 mm t s → lpS (f_M_read_L44 N a0 (nI T) dp od mk mf mm mv many mD mB mEd mo mw ma) none (m + t) (nI 0, s0) = lpS (f_M_read_L44 N a0 (nI T) dp od mk mf mm mv many mD mB mEd mo mw ma) none m (nI t, s) := by
  intro t
  induction t with
  | zero =>
    intro s m _ _ h
    have h2 : s = s0 := h
    rw [h2]
    rfl
  | succ t ih =>
    rintro s m ht hT ⟨r, h1, h2⟩
    rw [show m + (t + 1) = (m + 1) + t by omega, ih r (m + 1) (by omega) hT h1]
    apply lp_in
    unfold E2 at h2
    unfold f_M_read_L44
    simp only [if_neg (show ¬ nI T ≤ nI t from nI_ge (by omega) (by omega)), h2, oB_s, if_true, ← nI_succ]
theorem pass2_ok {n : Nat} {s : S2} {w2 a2 : Nat → Int32} (hT : T ≤ 400) (hn : T < n) (h : Ch N mk mv s0 mm T s) (hs : f_M_settle N s.1 many mo mw ma = some (w2, a2)) :
    lpS (f_M_read_L44 N a0 (nI T) dp od mk mf mm mv many mD mB mEd mo mw ma) none n (nI 0, s0) = endM 0 a0 (nI T) dp od mk mf mm mv s many mD mB mEd mo w2 a2 := by
  obtain ⟨m, rfl⟩ : ∃ m, n = m + 1 + T := ⟨n - T - 1, by omega⟩
  rw [ch_run T s (m + 1) (Nat.le_refl _) hT h]
  apply lp_out
  unfold f_M_read_L44 endM
  simp only [if_pos (nI_le (Nat.le_refl T) (show T < 2 ^ 31 by omega)), hs, oB_s]
theorem pass2_bad {n : Nat} {c p : Int32} (hT : T ≤ 400) (hn : T < n) (h : ChE N mk mf mv s0 T mm c p) : 0 < c ∧ ∃ s, lpS (f_M_read_L44 N a0 (nI T) dp od mk mf mm mv many mD mB mEd mo mw ma) none n (nI 0, s0) = endM c p (nI T) dp od mk mf mm mv s many mD mB mEd mo mw ma := by
  obtain ⟨k, hk, r, r2, h1, h2, h3, h4⟩ := h
  refine ⟨h3, r2, ?_⟩
  obtain ⟨m, rfl⟩ : ∃ m, n = m + 1 + k := ⟨n - k - 1, by omega⟩
  rw [ch_run k r (m + 1) (by omega) hT h1]
  apply lp_out
  have c0 : ¬ c = 0 := fun h9 => by rw [h9] at h3; exact absurd h3 (by decide)
  unfold E2 at h2
  unfold f_M_read_L44 endM
  simp only [if_neg (show ¬ nI T ≤ nI k from nI_ge hk (by omega)), h2, oB_s, if_neg c0, if_pos (show ib (nI k) 401 = true from ib_nI (by omega) (by decide)), nI_clamp (show k < 2 ^ 31 by omega), h4]
end P2
