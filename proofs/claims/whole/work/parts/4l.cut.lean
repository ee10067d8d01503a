/-! all tokens -/
theorem lp_two3 {S1 T1 S2 T2 : Type} {st1 : S1 → S1 ⊕ T1} {st2 : S2 → S2 ⊕ T2} {g1 : T1} {g2 : T2} (I : Nat → S1 → S2 → Prop) (k : Nat) (R : T1 → T2 → Prop)
    (h1 : ∀ j s1 s2, j < k → I j s1 s2 → (∃ a b, st1 s1 = .inl a ∧ st2 s2 = .inl b ∧ I (j + 1) a b) ∨ (∃ a b, st1 s1 = .inr a ∧ (∀ m, 1 < m → lpS st2 g2 m s2 = b) ∧ R a b))
    (h2 : ∀ s1 s2, ¬ I k s1 s2) {n1 n2 : Nat} {s1 : S1} {s2 : S2} (hn1 : k < n1) (hn2 : k + 1 < n2) (h0 : I 0 s1 s2) : ∃ a b, lpS st1 g1 n1 s1 = a ∧ lpS st2 g2 n2 s2 = b ∧ R a b := by
  have key : ∀ m j n1 n2 s1 s2, j + m = k → m < n1 → m + 1 < n2 → I j s1 s2 → ∃ a b, lpS st1 g1 n1 s1 = a ∧ lpS st2 g2 n2 s2 = b ∧ R a b := by
    intro m
    induction m with
    | zero =>
      intro j n1 n2 s1 s2 hj a1 a2 hI
      have e : j = k := by omega
      subst e
      exact absurd hI (h2 s1 s2)
    | succ m ih =>
      intro j n1 n2 s1 s2 hj a1 a2 hI
      cases n1 with
      | zero => omega
      | succ n1 =>
        rcases h1 j s1 s2 (by omega) hI with ⟨a, b, h3, h4, h5⟩ | ⟨a, b, h3, h4, h5⟩
        · cases n2 with
          | zero => omega
          | succ n2 =>
            rw [lp_in h3, lp_in h4]
            exact ih (j + 1) n1 n2 a b (by omega) (by omega) (by omega) h5
        · exact ⟨a, b, lp_out h3, h4 n2 (by omega), h5⟩
  exact key k 0 n1 n2 s1 s2 (by omega) hn1 hn2 h0
section TK
variable {xt mt : Nat → Int32} {sz : Nat}
def blB (mt : Nat → Int32) (j : Nat) : Bool := decide (mt j = 32) || decide (mt j = 10)
theorem x_blank (h : BY xt mt sz) {p s N : Nat} (hp : p ≤ s) (hs : s ≤ sz) (hall : ∀ j, p ≤ j → j < s → blB mt j = true) (hstop : s < sz → blB mt s = false) (hN : 2000 < N) : f_To_skipBlanks N xt (nI sz) (nI p) = some (nI s) := by
  have h0 := h.1
  unfold f_To_skipBlanks
  refine lp_from (fun j => nI j) (p := p) (q := s) rfl hp (fun j a1 a2 => ?_) ?_ (by omega)
  · have hd := hall j a1 a2
    unfold f_To_skipBlanks_L0
    rw [if_neg (nI_ge (show j < sz by omega) (by omega)), (byt_in h (show j < sz by omega)).2, ← nI_succ]
    unfold blB at hd
    simp only [Bool.or_eq_true, decide_eq_true_eq] at hd
    by_cases h5 : mt j = 32
    · rw [if_pos h5]
    · rw [if_neg h5, if_pos (hd.resolve_left h5)]
  · unfold f_To_skipBlanks_L0
    by_cases h5 : s < sz
    · have hd := hstop h5
      unfold blB at hd
      simp only [Bool.or_eq_false_iff, decide_eq_false_iff_not] at hd
      rw [if_neg (nI_ge h5 (by omega)), (byt_in h h5).2, if_neg hd.1, if_neg hd.2]
    · rw [if_pos (nI_le (by omega) (by omega))]
def TokE (xk xs xn : Nat → Int32) (xw : Nat → Int64) (mk mf mm : Nat → Int32) (mv : Nat → Int64) (i : Nat) : Prop := xk i = kmap (mk i) ∧ mk i ∈ kvs ∧ xs i = mf i ∧ mm i = 0 ∧ (mk i = 30 → mv i = xw i) ∧ (mk i = 31 → mv i = (xn i).toInt64 ∧ ∃ m, m < 1000000 ∧ xn i = nI m)
theorem m_cut1 (h : BY xt mt sz) {p s N i : Nat} (hp : p ≤ s) (hs : s ≤ sz) (hall : ∀ j, p ≤ j → j < s → blB mt j = true) (hstop : s < sz → blB mt s = false) (hN : 2000 < N) (hi : i < 401) (mk mf mm : Nat → Int32) (mv mv2 : Nat → Int64) {e : Nat} {km : Int32}
    (h1 : f_M_endOf N (nI sz) mt (nI s) = some (nI e)) (h2 : f_M_kindOf3 N (nI sz) mt mv (nI i) (nI s) (nI e) = some (km, mv2)) :
    ∃ mk2, mk2 i = (if i = 400 then (if km = 33 then 33 else 32) else km) ∧ (∀ j, ¬ j = i → mk2 j = mk j) ∧ lpS (f_M_cutIntoTokens_L11 N (nI sz) mt (nI i) mk mf mm mv) (.inr none) N (nI p) = (if mk2 i = 32 ∨ mk2 i = 33 then .inr (some (mk2, upd mf i (nI s), upd mm i 0, mv2)) else .inl (nI e, nI (i + 1), mk2, upd mf i (nI s), upd mm i 0, mv2)) := by
  have h0 := h.1
  have ua : ∀ (f : Nat → Int32) (v : Int32), upd f i v i = v := fun f v => upd_at
  have g1 : ib (nI i) 401 = true := ib_nI hi (by decide)
  have g2 : (nI i).toNatClampNeg = i := nI_clamp (by omega)
  obtain ⟨c, t1, t2⟩ := stop h hs
  have nb : ¬ c = 32 ∧ ¬ c = 10 := by
    rcases t2 with ⟨h5, rfl⟩ | ⟨-, rfl⟩
    · have hd := hstop h5
      unfold blB at hd
      simp only [Bool.or_eq_false_iff, decide_eq_false_iff_not] at hd
      exact hd
    · exact ⟨by decide, by decide⟩
  have run : ∀ r, f_M_cutIntoTokens_L11 N (nI sz) mt (nI i) mk mf mm mv (nI s) = .inr r → lpS (f_M_cutIntoTokens_L11 N (nI sz) mt (nI i) mk mf mm mv) (.inr none) N (nI p) = r := by
    intro r hr
    refine lp_from (fun j => nI j) (p := p) (q := s) rfl hp (fun j a1 a2 => ?_) hr (by omega)
    have hd := hall j a1 a2
    unfold f_M_cutIntoTokens_L11
    simp only [(byt_in h (show j < sz by omega)).1, oB_s, ← nI_succ]
    unfold blB at hd
    simp only [Bool.or_eq_true, decide_eq_true_eq] at hd
    by_cases h5 : mt j = 32
    · rw [if_pos h5]
    · rw [if_neg h5, if_pos (hd.resolve_left h5)]
  by_cases hi4 : i = 400
  · have e4 : nI i = 400 := by rw [hi4]; rfl
    by_cases hk : km = 33
    · refine ⟨upd mk i km, by rw [if_pos hi4, if_pos hk, ua]; exact hk, fun j hj => upd_ne hj, ?_⟩
      rw [if_pos (Or.inr ((ua mk km).trans hk))]
      apply run
      unfold f_M_cutIntoTokens_L11
      simp only [t1, oB_s, if_neg nb.1, if_neg nb.2, h1, g1, if_true, h2, g2, if_pos e4, ua, if_pos hk, if_neg (show ¬ km = 32 by rw [hk]; decide)]
    · refine ⟨upd (upd mk i km) i 32, by rw [if_pos hi4, if_neg hk, ua], fun j hj => by rw [upd_ne hj, upd_ne hj], ?_⟩
      rw [if_pos (Or.inl (ua _ _))]
      apply run
      unfold f_M_cutIntoTokens_L11
      simp only [t1, oB_s, if_neg nb.1, if_neg nb.2, h1, g1, if_true, h2, g2, if_pos e4, ua, if_neg hk]
  · have e4 : ¬ nI i = 400 := fun h5 => hi4 ((nI_eq (b := 400) (by omega) (by decide)).mp h5)
    refine ⟨upd mk i km, by rw [if_neg hi4, ua], fun j hj => upd_ne hj, ?_⟩
    apply run
    rw [ua]
    unfold f_M_cutIntoTokens_L11
    simp only [t1, oB_s, if_neg nb.1, if_neg nb.2, h1, g1, if_true, h2, g2, if_neg e4, ua, ← nI_succ]
    by_cases hk1 : km = 32
    · rw [if_pos hk1, if_pos (Or.inl hk1)]
    · by_cases hk2 : km = 33
      · rw [if_neg hk1, if_pos hk2, if_pos (Or.inr hk2)]
      · rw [if_neg hk1, if_neg hk2, if_neg (fun h5 => h5.elim hk1 hk2)]
theorem x_split1 (h : BY xt mt sz) {p s N1 i : Nat} (hp : p ≤ s) (hs : s ≤ sz) (hall : ∀ j, p ≤ j → j < s → blB mt j = true) (hstop : s < sz → blB mt s = false) (hN : 2000 < N1) (hi : i < 401) {x38 : Nat → Int64} {kd num num2 : Int32} {word word2 : Int64} {kx pl : Int32} (xk xs xn : Nat → Int32) (xw : Nat → Int64) (hk1 : ¬ kd = 132) (hk2 : ¬ kd = 133)
    (h1 : f_To_nextKind N1 xt (nI sz) (nI s) num word 25 x38 = some (kx, pl, num2, word2)) :
    f_To_split_L16 N1 xt 25 x38 (nI sz) (kd, nI i, nI p, num, word, xk, xs, xn, xw) = .inl ((if i = 400 then (if kx = 132 then 132 else 133) else kx), nI (i + 1), pl, num2, word2, upd xk i (if i = 400 then (if kx = 132 then 132 else 133) else kx), upd xs i (nI s), upd xn i num2, vp_updL xw i word2) := by
  have g0 : ¬ (400 : Int32) < nI i := nI_nlt (a := 400) (by omega) (by decide)
  have g1 : ib (nI i) 401 = true := ib_nI hi (by decide)
  have g2 : (nI i).toNatClampNeg = i := nI_clamp (by omega)
  have g3 : ¬ (401 : Int32) ≤ nI i := nI_ge (b := 401) hi (by decide)
  have g4 : ∀ f v, rset 401 f (nI i) v = upd f i v := fun f v => rs hi (by decide)
  unfold f_To_split_L16
  simp only [if_neg g0, if_neg hk1, if_neg hk2, x_blank h hp hs hall hstop hN, oB_s, h1, g1, g2, if_neg g3, g4, if_true, ← nI_succ]
  by_cases hi4 : i = 400
  · have e4 : nI i = 400 := by rw [hi4]; rfl
    simp only [if_pos e4, if_pos hi4]
    by_cases hk : kx = 132
    · simp only [if_pos hk, hk]
      rfl
    · simp only [if_neg hk]
  · have e4 : ¬ nI i = 400 := fun h5 => hi4 ((nI_eq (b := 400) (by omega) (by decide)).mp h5)
    simp only [if_neg e4, if_neg hi4]
theorem km_end : ∀ k, k ∈ kvs → (kmap k = 132 ↔ k = 33) ∧ (kmap k = 133 ↔ k = 32) := by decide
theorem tok_all (h : BY xt mt sz) {N1 N2 : Nat} (hN1 : 5000 < N1) (hN2 : 5000 < N2) {x38 : Nat → Int64} (hK : ∀ k, k < 25 → f_M_nameOf 100 (wS k) = some (x38 k)) (pl0 num0 sz0 : Int32) (word0 : Int64) (xk0 xs0 xn0 mk0 mf0 mm0 : Nat → Int32) (xw0 mv0 : Nat → Int64) :
    ∃ T pl num word xk xs xn xw mk mf mm mv, f_To_split N1 xt sz0 pl0 num0 word0 xk0 xs0 xn0 xw0 25 x38 (nI sz) = some (nI sz, pl, num, word, xk, xs, xn, xw) ∧ f_M_cutIntoTokens N2 (nI sz) mt mk0 mf0 mm0 mv0 = some (mk, mf, mm, mv) ∧
      T ≤ 400 ∧ (∀ i, i ≤ T → TokE xk xs xn xw mk mf mm mv i) ∧ (∀ i, i < T → ¬ mk i = 33 ∧ ¬ mk i = 32) ∧ (mk T = 33 ∨ mk T = 32) := by
  unfold f_To_split f_M_cutIntoTokens
  have key := lp_two3 (st1 := f_M_cutIntoTokens_L4 N2 (nI sz) mt) (st2 := f_To_split_L16 N1 xt 25 x38 (nI sz)) (g1 := none) (g2 := none)
    (fun j s1 s2 => j ≤ 400 ∧ ∃ p kd num word xk xs xn xw mk mf mm mv, p ≤ sz ∧ ¬ kd = 132 ∧ ¬ kd = 133 ∧ s1 = (nI p, nI j, mk, mf, mm, mv) ∧ s2 = (kd, nI j, nI p, num, word, xk, xs, xn, xw) ∧ ∀ i, i < j → TokE xk xs xn xw mk mf mm mv i ∧ ¬ mk i = 33 ∧ ¬ mk i = 32) 401
    (fun t1 t2 => ∃ T pl num word xk xs xn xw mk mf mm mv, t2 = some (nI sz, pl, num, word, xk, xs, xn, xw) ∧ t1 = some (mk, mf, mm, mv) ∧ T ≤ 400 ∧ (∀ i, i ≤ T → TokE xk xs xn xw mk mf mm mv i) ∧ (∀ i, i < T → ¬ mk i = 33 ∧ ¬ mk i = 32) ∧ (mk T = 33 ∨ mk T = 32))
    ?_ (fun s1 s2 h5 => by have := h5.1; omega) (n1 := N2) (n2 := N1) (s1 := (0, 0, mk0, mf0, mm0, mv0)) (s2 := (130, 0, 0, num0, word0, xk0, xs0, xn0, xw0)) (by omega) (by omega)
    ⟨by decide, 0, 130, num0, word0, xk0, xs0, xn0, xw0, mk0, mf0, mm0, mv0, Nat.zero_le _, by decide, by decide, rfl, rfl, fun i hi => absurd hi (Nat.not_lt_zero _)⟩
  · obtain ⟨a, b, q1, q2, T, pl, num, word, xk, xs, xn, xw, mk, mf, mm, mv, rfl, rfl, q3⟩ := key
    exact ⟨T, pl, num, word, xk, xs, xn, xw, mk, mf, mm, mv, q2, q1, q3⟩
  · rintro j s1 s2 hj ⟨hj4, p, kd, num, word, xk, xs, xn, xw, mk, mf, mm, mv, hp, hk1, hk2, rfl, rfl, hT⟩
    obtain ⟨s, b1, b2, b3, b4⟩ := scn (blB mt) (sz - p) p
    have hs : s ≤ sz := by omega
    have b4' : s < sz → blB mt s = false := fun h5 => b4 (by omega)
    obtain ⟨km, e, e2, num2, word2, v2, t1, t2, t3, t4, t5, t6, t7, t8⟩ := tok_step h hs (show j < 401 by omega) (show 2000 < N1 by omega) (show 2000 < N2 by omega) hK num word mv
    obtain ⟨mk2, c1, c2, c3⟩ := m_cut1 h b1 hs b3 b4' (show 2000 < N2 by omega) (show j < 401 by omega) mk mf mm mv v2 t2 t3
    have c4 := x_split1 h b1 hs b3 b4' (show 2000 < N1 by omega) (show j < 401 by omega) xk xs xn xw hk1 hk2 t1
    have c5 : f_M_cutIntoTokens_L4 N2 (nI sz) mt (nI p, nI j, mk, mf, mm, mv) = lpS (f_M_cutIntoTokens_L11 N2 (nI sz) mt (nI j) mk mf mm mv) (.inr none) N2 (nI p) := by
      unfold f_M_cutIntoTokens_L4
      rw [if_neg (show ¬ (400 : Int32) < nI j from nI_nlt (a := 400) (by omega) (by decide))]
    rw [c3] at c5
    obtain ⟨k1, k2⟩ := km_end km t4
    have kd2 : (if j = 400 then (if kmap km = 132 then (132 : Int32) else 133) else kmap km) = kmap (mk2 j) := by
      rw [c1]
      by_cases h4 : j = 400
      · rw [if_pos h4, if_pos h4]
        by_cases h5 : km = 33
        · rw [if_pos (k1.mpr h5), if_pos h5]; rfl
        · rw [if_neg (fun h6 => h5 (k1.mp h6)), if_neg h5]; rfl
      · rw [if_neg h4, if_neg h4]
    have km2 : mk2 j ∈ kvs := by
      rw [c1]
      split
      · split
        · exact kv.2.2.2.1
        · exact kv.2.2.1
      · exact t4
    rw [kd2] at c4
    have same : ∀ i, ¬ i = j → TokE xk xs xn xw mk mf mm mv i → TokE (upd xk j (kmap (mk2 j))) (upd xs j (nI s)) (upd xn j num2) (vp_updL xw j word2) mk2 (upd mf j (nI s)) (upd mm j 0) v2 i := by
      intro i hi ⟨d1, d2, d3, d4, d5, d6⟩
      refine ⟨?_, ?_, ?_, ?_, ?_, ?_⟩
      · rw [upd_ne hi, c2 i hi]; exact d1
      · rw [c2 i hi]; exact d2
      · rw [upd_ne hi, upd_ne hi]; exact d3
      · rw [upd_ne hi]; exact d4
      · rw [c2 i hi, t8 i hi, updL_ne hi]; exact d5
      · rw [c2 i hi, t8 i hi, upd_ne hi]; exact d6
    have here : TokE (upd xk j (kmap (mk2 j))) (upd xs j (nI s)) (upd xn j num2) (vp_updL xw j word2) mk2 (upd mf j (nI s)) (upd mm j 0) v2 j := by
      refine ⟨upd_at, km2, by rw [upd_at, upd_at], upd_at, fun h5 => ?_, fun h5 => ?_⟩
      · rw [updL_at]
        rw [c1] at h5
        split at h5
        · split at h5 <;> exact absurd h5 (by decide)
        · exact t6 h5
      · rw [upd_at]
        rw [c1] at h5
        split at h5
        · split at h5 <;> exact absurd h5 (by decide)
        · exact t7 h5
    by_cases hend : mk2 j = 32 ∨ mk2 j = 33
    · right
      rw [if_pos hend] at c5
      refine ⟨_, some (nI sz, nI e2, num2, word2, upd xk j (kmap (mk2 j)), upd xs j (nI s), upd xn j num2, vp_updL xw j word2), c5, fun m hm => ?_, j, nI e2, num2, word2, _, _, _, _, mk2, upd mf j (nI s), upd mm j 0, v2, rfl, rfl, hj4, fun i hi => ?_, fun i hi => ?_, hend.symm⟩
      · obtain ⟨M, rfl⟩ : ∃ M, m = M + 1 + 1 := ⟨m - 2, by omega⟩
        rw [lp_in c4]
        apply lp_out
        unfold f_To_split_L16
        by_cases h9 : (400 : Int32) < nI (j + 1)
        · simp only [if_pos h9]
        · rcases hend with h6 | h6
          · have h7 : kmap (mk2 j) = 133 := by rw [h6]; rfl
            simp only [if_neg h9, h7, if_neg (show ¬ (133 : Int32) = 132 by decide), if_true]
          · have h7 : kmap (mk2 j) = 132 := by rw [h6]; rfl
            simp only [if_neg h9, h7, if_true]
      · by_cases h6 : i = j
        · rw [h6]; exact here
        · exact same i h6 (hT i (by omega)).1
      · rw [c2 i (by omega)]
        exact (hT i hi).2
    · left
      rw [if_neg hend] at c5
      have hj3 : ¬ j = 400 := fun h5 => hend (by
        rw [c1, if_pos h5]
        split
        · exact Or.inr rfl
        · exact Or.inl rfl)
      rw [if_neg hj3] at c1
      obtain ⟨w1, w2, w3⟩ := t5 (fun h5 => hend (Or.inr (c1.trans h5))) (fun h5 => hend (Or.inl (c1.trans h5)))
      subst w1
      obtain ⟨v1, v2'⟩ := km_end _ km2
      refine ⟨_, _, c5, c4, by omega, e2, kmap (mk2 j), num2, word2, _, _, _, _, mk2, _, _, v2, w3, fun h5 => hend (Or.inr (v1.mp h5)), fun h5 => hend (Or.inl (v2'.mp h5)), rfl, rfl, fun i hi => ?_⟩
      by_cases h6 : i = j
      · rw [h6]
        exact ⟨here, fun h5 => hend (Or.inr h5), fun h5 => hend (Or.inl h5)⟩
      · obtain ⟨g1, g2⟩ := hT i (by omega)
        refine ⟨same i h6 g1, ?_⟩
        rw [c2 i h6]
        exact g2
end TK
