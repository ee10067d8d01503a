/-! and, or, sums and products: the loops of a test -/
section PS
variable {xk xs xn mk mf : Nat → Int32} {xw mv : Nat → Int64} {T nt ne : Nat} {xec xtc : Int32} {xew xtw : Nat → Int64} {Q : Nat → (Nat → Int32) → (Nat → Int32) → Prop} {QE : Nat → (Nat → Int32) → Int32 → Int32 → Prop}
theorem sim_both (H : TKs xk xs xn mk mf xw mv T) (hq : QH mk mf mv T nt ne xec xtc xew xtw Q QE) {N1 N2 m : Nat} (hN1 : 500 < N1) (hN2 : 500 < N2) (H2 : Sim xk xs xn mk mf xw mv T nt xec xtc xew xtw Q QE N1 N2 2 true m) : Sim xk xs xn mk mf xw mv T nt xec xtc xew xtw Q QE N1 N2 1 true (m + 1) := by
  intro δ DX DM hδ hm hX hM t q e ep mm who sk sp mo mw ma hTS
  have H4 := H.1
  have bs1 : bsN 1 = bsN 2 + 1 := rfl
  rw [bs1] at hm hX hM
  obtain ⟨DX, rfl⟩ : ∃ D, DX = D + 1 := ⟨DX - 1, by omega⟩
  obtain ⟨DM, rfl⟩ : ∃ D, DM = D + 1 := ⟨DM - 1, by omega⟩
  show OutP xk mf Q QE T nt true t δ q sk (f_Re_readBoth N1 (f_Re_parse N1 xk xs xn xw xec xew xtc xtw DX) (nI t) (xk t) (nI δ) e ep xk xs xn xw (nI q) sk sp xec xew xtc xtw) (f_M_isBoth N2 (f_M_parse N2 mk mv DM) (nI t) (nI δ) mk mm mv (nI q) mo mw ma)
  unfold f_Re_readBoth f_M_isBoth
  rcases H2 δ DX DM hδ (by omega) (by omega) (by omega) t q e ep mm who sk sp mo mw ma hTS with ⟨t1, q1, e1, ep1, mm1, who1, sk1, sp1, mo1, mw1, ma1, x1, m1, T1, l1, l2, l3, ty1, fr1⟩ | ⟨t1, a, dp, sc, sk1, sp1, dm, mm1, q1, mo1, mw1, ma1, x1, m1, l1⟩
  · rw [x1, m1, oB_s, oB_s]
    show OutP xk mf Q QE T nt true t δ q sk (lpS (f_Re_readBoth_L6 xk (f_Re_parse N1 xk xs xn xw xec xew xtc xtw DX)) none N1 (0, nI t1, xk t1, nI δ, e1, ep1, nI q1, sk1, sp1)) (if (1 : Int32) = 0 then _ else (lpS (f_M_isBoth_L10 mk (f_M_parse N2 mk mv DM)) none N2 (nI t1, nI δ, mm1, nI q1, mo1, mw1, ma1)))
    rw [if_neg n10]
    have key := lp_two3 (st1 := f_M_isBoth_L10 mk (f_M_parse N2 mk mv DM)) (st2 := f_Re_readBoth_L6 xk (f_Re_parse N1 xk xs xn xw xec xew xtc xtw DX)) (g1 := none) (g2 := none)
      (fun j s1 s2 => j ≤ 400 ∧ ∃ t1 q1 e1 ep1 mm1 who1 sk1 sp1 mo1 mw1 ma1, s1 = (nI t1, nI δ, mm1, nI q1, mo1, mw1, ma1) ∧ s2 = (nI j, nI t1, xk t1, nI δ, e1, ep1, nI q1, sk1, sp1) ∧ TS Q QE T nt t1 q1 e1 ep1 mm1 who1 sk1 sp1 mo1 mw1 ma1 ∧ t + j < t1 ∧ q ≤ q1 ∧ q1 + t ≤ q + t1 ∧ (∀ l, tyR sk1 (q1 - q) q l = some (true :: l)) ∧ ∀ i, i < q → sk1 i = sk i) 400
      (fun M X => OutP xk mf Q QE T nt true t δ q sk X M) ?_ (fun s1 s2 h5 => by
        obtain ⟨-, t1, q1, e1, ep1, mm1, who1, sk1, sp1, mo1, mw1, ma1, -, -, w1, w2, -⟩ := h5
        have := w1.1
        omega) (n1 := N2) (n2 := N1) (s1 := (nI t1, nI δ, mm1, nI q1, mo1, mw1, ma1)) (s2 := (0, nI t1, xk t1, nI δ, e1, ep1, nI q1, sk1, sp1)) (by omega) (by omega)
      ⟨by decide, t1, q1, e1, ep1, mm1, who1, sk1, sp1, mo1, mw1, ma1, rfl, rfl, T1, by omega, l2, l3, ty1, fr1⟩
    · obtain ⟨a, b, k1, k2, k3⟩ := key
      rw [k1, k2]
      exact k3
    · rintro j s1 s2 hj ⟨hj4, t1, q1, e1, ep1, mm1, who1, sk1, sp1, mo1, mw1, ma1, rfl, rfl, T1, l1, l2, l3, ty1, fr1⟩
      have hT1 := T1.1
      obtain ⟨a1, a2, -⟩ := H.2.1 t1 hT1
      have kk0 := (km_all2 _ a2).2.2.2.2.2.2.2.2.2.2.2.2.1
      have g9 := hN1
      have g0 : ¬ (400 : Int32) ≤ nI j := nI_ge (b := 400) hj (by decide)
      by_cases hk0 : mk t1 = 21
      · have ht1 : t1 < T := tk_lt H T1.1 (by rw [hk0]; decide) (by rw [hk0]; decide)
        have T1n := ts_next hq H4 T1 ht1
        rcases H2 δ DX DM hδ (by omega) (by omega) (by omega) (t1 + 1) q1 e1 ep1 mm1 who1 sk1 sp1 mo1 mw1 ma1 T1n with ⟨t2, q2, e2, ep2, mm2, who2, sk2, sp2, mo2, mw2, ma2, x2, m2, T2, l4, l5, l6, ty2, fr2⟩ | ⟨t2, a, dp, sc, sk2, sp2, dm, mm2, q2, mo2, mw2, ma2, x2, m2, l4⟩
        · left
          have hq1 := T1.2.1
          have hT2 := T2.1
          have hq2 : q2 < 400 := by omega
          refine ⟨(nI t2, nI δ, mm2, nI (q2 + 1), upd mo2 q2 21, upd mw2 q2 0, ma2), (nI (j + 1), nI t2, xk t2, nI δ, e2, ep2, nI (q2 + 1), upd sk2 q2 221, upd sp2 q2 0), ?_, ?_, by omega, t2, q2 + 1, e2, ep2, mm2, who2, upd sk2 q2 221, upd sp2 q2 0, upd mo2 q2 21, upd mw2 q2 0, ma2, rfl, rfl, ?_, by omega, by omega, by omega, ?_, fun i hi => ?_⟩
          · unfold f_M_isBoth_L10
            simp only [eat_y H T1.1 hk0, oB_s, if_neg n10, m2, oB_s, if_neg n10, put_y hq2]
          · unfold f_Re_readBoth_L6
            simp only [if_neg g0, if_pos (show xk t1 = 221 from (by rw [a1]; exact kk0.mpr hk0)), adv H ht1, oB_s, x2, add_y hq2, ← nI_succ]
          · exact ts_push H4 T2 (Nat.le_refl _) (by omega) T2.1 T2.2.2.1 T2.2.2.2.1 (fun h0 => ⟨h0, fun _ _ => rfl, ⟨Or.inr (Or.inr (Or.inr (by unfold SB; decide))), fun h9 => absurd h9 (by decide), fun h9 => absurd h9 (by decide)⟩⟩) (fun _ _ => rfl)
          · exact ty_bin l2 l5 ty1 ty2 fr2 (fun _ => rfl)
          · rw [upd_lt (show i < q2 by omega), fr2 i (by omega)]
            exact fr1 i hi
        · right
          obtain ⟨b1, b2, b3, b4⟩ := addSome sc sk2 sp2 221 0
          refine ⟨some (0, nI t2, dm, mm2, q2, mo2, mw2, ma2), some (a, 133, dp, 1, mf t2, b1, b2, b3), ?_, fun m hm => ?_, Or.inr ⟨t2, a, dp, b1, b2, b3, dm, mm2, q2, mo2, mw2, ma2, rfl, rfl, l4⟩⟩
          · unfold f_M_isBoth_L10
            simp only [eat_y H T1.1 hk0, oB_s, if_neg n10, m2, oB_s, if_neg n10, if_true]
          · obtain ⟨M, rfl⟩ : ∃ M, m = M + 1 + 1 := ⟨m - 2, by omega⟩
            have s1 : f_Re_readBoth_L6 xk (f_Re_parse N1 xk xs xn xw xec xew xtc xtw DX) (nI j, nI t1, xk t1, nI δ, e1, ep1, nI q1, sk1, sp1) = .inl (nI (j + 1), a, 133, dp, 1, mf t2, b1, b2, b3) := by
              unfold f_Re_readBoth_L6
              simp only [if_neg g0, if_pos (show xk t1 = 221 from (by rw [a1]; exact kk0.mpr hk0)), adv H ht1, oB_s, x2, b4, ← nI_succ]
            rw [lp_in s1]
            apply lp_out
            unfold f_Re_readBoth_L6
            by_cases h9 : (400 : Int32) ≤ nI (j + 1)
            · simp only [if_pos h9]
            · simp only [if_neg h9, if_neg (show ¬ (133 : Int32) = 221 by decide)]
      · right
        have hx0 : ¬ xk t1 = 221 := by rw [a1]; exact fun h9 => hk0 (kk0.mp h9)
        refine ⟨some (1, nI t1, nI δ, mm1, nI q1, mo1, mw1, ma1), some (nI t1, xk t1, nI δ, e1, ep1, nI q1, sk1, sp1), ?_, fun m hm => ?_, Or.inl ⟨t1, q1, e1, ep1, mm1, who1, sk1, sp1, mo1, mw1, ma1, rfl, rfl, T1, by omega, l2, l3, ty1, fr1⟩⟩
        · unfold f_M_isBoth_L10
          simp only [eat_n H T1.1 hk0, oB_s, if_true]
        · obtain ⟨M, rfl⟩ : ∃ M, m = M + 1 := ⟨m - 1, by omega⟩
          apply lp_out
          unfold f_Re_readBoth_L6
          simp only [if_neg g0, if_neg hx0]
  · rw [x1, m1, oB_s, oB_s]
    refine Or.inr ⟨t1, a, dp, sc, sk1, sp1, dm, mm1, q1, mo1, mw1, ma1, ?_, if_pos rfl, l1⟩
    obtain ⟨M, hM2⟩ : ∃ M, N1 = M + 1 := ⟨N1 - 1, by omega⟩
    generalize hst : f_Re_readBoth_L6 xk (f_Re_parse N1 xk xs xn xw xec xew xtc xtw DX) = stp
    have s1 : stp (0, a, 133, dp, 1, mf t1, sc, sk1, sp1) = .inr (some (a, 133, dp, 1, mf t1, sc, sk1, sp1)) := by
      rw [← hst]
      unfold f_Re_readBoth_L6
      simp only [if_neg (show ¬ (400 : Int32) ≤ 0 by decide), if_neg (show ¬ (133 : Int32) = 221 by decide)]
    rw [hM2]
    exact lp_out s1
theorem sim_test (H : TKs xk xs xn mk mf xw mv T) (hq : QH mk mf mv T nt ne xec xtc xew xtw Q QE) {N1 N2 m : Nat} (hN1 : 500 < N1) (hN2 : 500 < N2) (H2 : Sim xk xs xn mk mf xw mv T nt xec xtc xew xtw Q QE N1 N2 1 true m) : Sim xk xs xn mk mf xw mv T nt xec xtc xew xtw Q QE N1 N2 0 true (m + 1) := by
  intro δ DX DM hδ hm hX hM t q e ep mm who sk sp mo mw ma hTS
  have H4 := H.1
  have bs1 : bsN 0 = bsN 1 + 1 := rfl
  rw [bs1] at hm hX hM
  obtain ⟨DX, rfl⟩ : ∃ D, DX = D + 1 := ⟨DX - 1, by omega⟩
  obtain ⟨DM, rfl⟩ : ∃ D, DM = D + 1 := ⟨DM - 1, by omega⟩
  show OutP xk mf Q QE T nt true t δ q sk (f_Re_readTest N1 (f_Re_parse N1 xk xs xn xw xec xew xtc xtw DX) (nI t) (xk t) (nI δ) e ep xk xs xn xw (nI q) sk sp xec xew xtc xtw) (f_M_isTest N2 (f_M_parse N2 mk mv DM) (nI t) (nI δ) mk mm mv (nI q) mo mw ma)
  unfold f_Re_readTest f_M_isTest
  rcases H2 δ DX DM hδ (by omega) (by omega) (by omega) t q e ep mm who sk sp mo mw ma hTS with ⟨t1, q1, e1, ep1, mm1, who1, sk1, sp1, mo1, mw1, ma1, x1, m1, T1, l1, l2, l3, ty1, fr1⟩ | ⟨t1, a, dp, sc, sk1, sp1, dm, mm1, q1, mo1, mw1, ma1, x1, m1, l1⟩
  · rw [x1, m1, oB_s, oB_s]
    show OutP xk mf Q QE T nt true t δ q sk (lpS (f_Re_readTest_L6 xk (f_Re_parse N1 xk xs xn xw xec xew xtc xtw DX)) none N1 (0, nI t1, xk t1, nI δ, e1, ep1, nI q1, sk1, sp1)) (if (1 : Int32) = 0 then _ else (lpS (f_M_isTest_L10 mk (f_M_parse N2 mk mv DM)) none N2 (nI t1, nI δ, mm1, nI q1, mo1, mw1, ma1)))
    rw [if_neg n10]
    have key := lp_two3 (st1 := f_M_isTest_L10 mk (f_M_parse N2 mk mv DM)) (st2 := f_Re_readTest_L6 xk (f_Re_parse N1 xk xs xn xw xec xew xtc xtw DX)) (g1 := none) (g2 := none)
      (fun j s1 s2 => j ≤ 400 ∧ ∃ t1 q1 e1 ep1 mm1 who1 sk1 sp1 mo1 mw1 ma1, s1 = (nI t1, nI δ, mm1, nI q1, mo1, mw1, ma1) ∧ s2 = (nI j, nI t1, xk t1, nI δ, e1, ep1, nI q1, sk1, sp1) ∧ TS Q QE T nt t1 q1 e1 ep1 mm1 who1 sk1 sp1 mo1 mw1 ma1 ∧ t + j < t1 ∧ q ≤ q1 ∧ q1 + t ≤ q + t1 ∧ (∀ l, tyR sk1 (q1 - q) q l = some (true :: l)) ∧ ∀ i, i < q → sk1 i = sk i) 400
      (fun M X => OutP xk mf Q QE T nt true t δ q sk X M) ?_ (fun s1 s2 h5 => by
        obtain ⟨-, t1, q1, e1, ep1, mm1, who1, sk1, sp1, mo1, mw1, ma1, -, -, w1, w2, -⟩ := h5
        have := w1.1
        omega) (n1 := N2) (n2 := N1) (s1 := (nI t1, nI δ, mm1, nI q1, mo1, mw1, ma1)) (s2 := (0, nI t1, xk t1, nI δ, e1, ep1, nI q1, sk1, sp1)) (by omega) (by omega)
      ⟨by decide, t1, q1, e1, ep1, mm1, who1, sk1, sp1, mo1, mw1, ma1, rfl, rfl, T1, by omega, l2, l3, ty1, fr1⟩
    · obtain ⟨a, b, k1, k2, k3⟩ := key
      rw [k1, k2]
      exact k3
    · rintro j s1 s2 hj ⟨hj4, t1, q1, e1, ep1, mm1, who1, sk1, sp1, mo1, mw1, ma1, rfl, rfl, T1, l1, l2, l3, ty1, fr1⟩
      have hT1 := T1.1
      obtain ⟨a1, a2, -⟩ := H.2.1 t1 hT1
      have kk0 := (km_all2 _ a2).2.2.2.2.2.2.2.2.2.2.2.2.2.1
      have g9 := hN1
      have g0 : ¬ (400 : Int32) ≤ nI j := nI_ge (b := 400) hj (by decide)
      by_cases hk0 : mk t1 = 22
      · have ht1 : t1 < T := tk_lt H T1.1 (by rw [hk0]; decide) (by rw [hk0]; decide)
        have T1n := ts_next hq H4 T1 ht1
        rcases H2 δ DX DM hδ (by omega) (by omega) (by omega) (t1 + 1) q1 e1 ep1 mm1 who1 sk1 sp1 mo1 mw1 ma1 T1n with ⟨t2, q2, e2, ep2, mm2, who2, sk2, sp2, mo2, mw2, ma2, x2, m2, T2, l4, l5, l6, ty2, fr2⟩ | ⟨t2, a, dp, sc, sk2, sp2, dm, mm2, q2, mo2, mw2, ma2, x2, m2, l4⟩
        · left
          have hq1 := T1.2.1
          have hT2 := T2.1
          have hq2 : q2 < 400 := by omega
          refine ⟨(nI t2, nI δ, mm2, nI (q2 + 1), upd mo2 q2 22, upd mw2 q2 0, ma2), (nI (j + 1), nI t2, xk t2, nI δ, e2, ep2, nI (q2 + 1), upd sk2 q2 222, upd sp2 q2 0), ?_, ?_, by omega, t2, q2 + 1, e2, ep2, mm2, who2, upd sk2 q2 222, upd sp2 q2 0, upd mo2 q2 22, upd mw2 q2 0, ma2, rfl, rfl, ?_, by omega, by omega, by omega, ?_, fun i hi => ?_⟩
          · unfold f_M_isTest_L10
            simp only [eat_y H T1.1 hk0, oB_s, if_neg n10, m2, oB_s, if_neg n10, put_y hq2]
          · unfold f_Re_readTest_L6
            simp only [if_neg g0, if_pos (show xk t1 = 222 from (by rw [a1]; exact kk0.mpr hk0)), adv H ht1, oB_s, x2, add_y hq2, ← nI_succ]
          · exact ts_push H4 T2 (Nat.le_refl _) (by omega) T2.1 T2.2.2.1 T2.2.2.2.1 (fun h0 => ⟨h0, fun _ _ => rfl, ⟨Or.inr (Or.inr (Or.inr (by unfold SB; decide))), fun h9 => absurd h9 (by decide), fun h9 => absurd h9 (by decide)⟩⟩) (fun _ _ => rfl)
          · exact ty_bin l2 l5 ty1 ty2 fr2 (fun _ => rfl)
          · rw [upd_lt (show i < q2 by omega), fr2 i (by omega)]
            exact fr1 i hi
        · right
          obtain ⟨b1, b2, b3, b4⟩ := addSome sc sk2 sp2 222 0
          refine ⟨some (0, nI t2, dm, mm2, q2, mo2, mw2, ma2), some (a, 133, dp, 1, mf t2, b1, b2, b3), ?_, fun m hm => ?_, Or.inr ⟨t2, a, dp, b1, b2, b3, dm, mm2, q2, mo2, mw2, ma2, rfl, rfl, l4⟩⟩
          · unfold f_M_isTest_L10
            simp only [eat_y H T1.1 hk0, oB_s, if_neg n10, m2, oB_s, if_neg n10, if_true]
          · obtain ⟨M, rfl⟩ : ∃ M, m = M + 1 + 1 := ⟨m - 2, by omega⟩
            have s1 : f_Re_readTest_L6 xk (f_Re_parse N1 xk xs xn xw xec xew xtc xtw DX) (nI j, nI t1, xk t1, nI δ, e1, ep1, nI q1, sk1, sp1) = .inl (nI (j + 1), a, 133, dp, 1, mf t2, b1, b2, b3) := by
              unfold f_Re_readTest_L6
              simp only [if_neg g0, if_pos (show xk t1 = 222 from (by rw [a1]; exact kk0.mpr hk0)), adv H ht1, oB_s, x2, b4, ← nI_succ]
            rw [lp_in s1]
            apply lp_out
            unfold f_Re_readTest_L6
            by_cases h9 : (400 : Int32) ≤ nI (j + 1)
            · simp only [if_pos h9]
            · simp only [if_neg h9, if_neg (show ¬ (133 : Int32) = 222 by decide)]
      · right
        have hx0 : ¬ xk t1 = 222 := by rw [a1]; exact fun h9 => hk0 (kk0.mp h9)
        refine ⟨some (1, nI t1, nI δ, mm1, nI q1, mo1, mw1, ma1), some (nI t1, xk t1, nI δ, e1, ep1, nI q1, sk1, sp1), ?_, fun m hm => ?_, Or.inl ⟨t1, q1, e1, ep1, mm1, who1, sk1, sp1, mo1, mw1, ma1, rfl, rfl, T1, by omega, l2, l3, ty1, fr1⟩⟩
        · unfold f_M_isTest_L10
          simp only [eat_n H T1.1 hk0, oB_s, if_true]
        · obtain ⟨M, rfl⟩ : ∃ M, m = M + 1 := ⟨m - 1, by omega⟩
          apply lp_out
          unfold f_Re_readTest_L6
          simp only [if_neg g0, if_neg hx0]
  · rw [x1, m1, oB_s, oB_s]
    refine Or.inr ⟨t1, a, dp, sc, sk1, sp1, dm, mm1, q1, mo1, mw1, ma1, ?_, if_pos rfl, l1⟩
    obtain ⟨M, hM2⟩ : ∃ M, N1 = M + 1 := ⟨N1 - 1, by omega⟩
    generalize hst : f_Re_readTest_L6 xk (f_Re_parse N1 xk xs xn xw xec xew xtc xtw DX) = stp
    have s1 : stp (0, a, 133, dp, 1, mf t1, sc, sk1, sp1) = .inr (some (a, 133, dp, 1, mf t1, sc, sk1, sp1)) := by
      rw [← hst]
      unfold f_Re_readTest_L6
      simp only [if_neg (show ¬ (400 : Int32) ≤ 0 by decide), if_neg (show ¬ (133 : Int32) = 222 by decide)]
    rw [hM2]
    exact lp_out s1
theorem sim_sum (H : TKs xk xs xn mk mf xw mv T) (hq : QH mk mf mv T nt ne xec xtc xew xtw Q QE) {N1 N2 m : Nat} (hN1 : 500 < N1) (hN2 : 500 < N2) (H2 : Sim xk xs xn mk mf xw mv T nt xec xtc xew xtw Q QE N1 N2 5 false m) : Sim xk xs xn mk mf xw mv T nt xec xtc xew xtw Q QE N1 N2 4 false (m + 1) := by
  intro δ DX DM hδ hm hX hM t q e ep mm who sk sp mo mw ma hTS
  have H4 := H.1
  have bs1 : bsN 4 = bsN 5 + 1 := rfl
  rw [bs1] at hm hX hM
  obtain ⟨DX, rfl⟩ : ∃ D, DX = D + 1 := ⟨DX - 1, by omega⟩
  obtain ⟨DM, rfl⟩ : ∃ D, DM = D + 1 := ⟨DM - 1, by omega⟩
  show OutP xk mf Q QE T nt false t δ q sk (f_Re_readSum N1 (f_Re_parse N1 xk xs xn xw xec xew xtc xtw DX) (nI t) (xk t) (nI δ) e ep xk xs xn xw (nI q) sk sp xec xew xtc xtw) (f_M_isSum N2 (f_M_parse N2 mk mv DM) (nI t) (nI δ) mk mm mv (nI q) mo mw ma)
  unfold f_Re_readSum f_M_isSum
  rcases H2 δ DX DM hδ (by omega) (by omega) (by omega) t q e ep mm who sk sp mo mw ma hTS with ⟨t1, q1, e1, ep1, mm1, who1, sk1, sp1, mo1, mw1, ma1, x1, m1, T1, l1, l2, l3, ty1, fr1⟩ | ⟨t1, a, dp, sc, sk1, sp1, dm, mm1, q1, mo1, mw1, ma1, x1, m1, l1⟩
  · rw [x1, m1, oB_s, oB_s]
    show OutP xk mf Q QE T nt false t δ q sk (lpS (f_Re_readSum_L6 xk (f_Re_parse N1 xk xs xn xw xec xew xtc xtw DX)) none N1 (0, nI t1, xk t1, nI δ, e1, ep1, nI q1, sk1, sp1)) (if (1 : Int32) = 0 then _ else (lpS (f_M_isSum_L10 mk (f_M_parse N2 mk mv DM)) none N2 (nI t1, nI δ, mm1, nI q1, mo1, mw1, ma1)))
    rw [if_neg n10]
    have key := lp_two3 (st1 := f_M_isSum_L10 mk (f_M_parse N2 mk mv DM)) (st2 := f_Re_readSum_L6 xk (f_Re_parse N1 xk xs xn xw xec xew xtc xtw DX)) (g1 := none) (g2 := none)
      (fun j s1 s2 => j ≤ 400 ∧ ∃ t1 q1 e1 ep1 mm1 who1 sk1 sp1 mo1 mw1 ma1, s1 = (nI t1, nI δ, mm1, nI q1, mo1, mw1, ma1) ∧ s2 = (nI j, nI t1, xk t1, nI δ, e1, ep1, nI q1, sk1, sp1) ∧ TS Q QE T nt t1 q1 e1 ep1 mm1 who1 sk1 sp1 mo1 mw1 ma1 ∧ t + j < t1 ∧ q ≤ q1 ∧ q1 + t ≤ q + t1 ∧ (∀ l, tyR sk1 (q1 - q) q l = some (false :: l)) ∧ ∀ i, i < q → sk1 i = sk i) 400
      (fun M X => OutP xk mf Q QE T nt false t δ q sk X M) ?_ (fun s1 s2 h5 => by
        obtain ⟨-, t1, q1, e1, ep1, mm1, who1, sk1, sp1, mo1, mw1, ma1, -, -, w1, w2, -⟩ := h5
        have := w1.1
        omega) (n1 := N2) (n2 := N1) (s1 := (nI t1, nI δ, mm1, nI q1, mo1, mw1, ma1)) (s2 := (0, nI t1, xk t1, nI δ, e1, ep1, nI q1, sk1, sp1)) (by omega) (by omega)
      ⟨by decide, t1, q1, e1, ep1, mm1, who1, sk1, sp1, mo1, mw1, ma1, rfl, rfl, T1, by omega, l2, l3, ty1, fr1⟩
    · obtain ⟨a, b, k1, k2, k3⟩ := key
      rw [k1, k2]
      exact k3
    · rintro j s1 s2 hj ⟨hj4, t1, q1, e1, ep1, mm1, who1, sk1, sp1, mo1, mw1, ma1, rfl, rfl, T1, l1, l2, l3, ty1, fr1⟩
      have hT1 := T1.1
      obtain ⟨a1, a2, -⟩ := H.2.1 t1 hT1
      have kk0 := (km_all _ a2).2.2.2.2.2.2.1
      have kk1 := (km_all _ a2).2.2.2.2.2.2.2.1
      have g0 : ¬ (400 : Int32) ≤ nI j := nI_ge (b := 400) hj (by decide)
      have g1 : ib (nI t1) 401 = true := ib_nI (by omega) (by decide)
      have g2 : (nI t1).toNatClampNeg = t1 := nI_clamp (by omega)
      by_cases hk0 : mk t1 = 43
      · have ht1 : t1 < T := tk_lt H T1.1 (by rw [hk0]; decide) (by rw [hk0]; decide)
        have T1n := ts_next hq H4 T1 ht1
        rcases H2 δ DX DM hδ (by omega) (by omega) (by omega) (t1 + 1) q1 e1 ep1 mm1 who1 sk1 sp1 mo1 mw1 ma1 T1n with ⟨t2, q2, e2, ep2, mm2, who2, sk2, sp2, mo2, mw2, ma2, x2, m2, T2, l4, l5, l6, ty2, fr2⟩ | ⟨t2, a, dp, sc, sk2, sp2, dm, mm2, q2, mo2, mw2, ma2, x2, m2, l4⟩
        · left
          have hq1 := T1.2.1
          have hT2 := T2.1
          have hq2 : q2 < 400 := by omega
          refine ⟨(nI t2, nI δ, mm2, nI (q2 + 1), upd mo2 q2 101, upd mw2 q2 0, ma2), (nI (j + 1), nI t2, xk t2, nI δ, e2, ep2, nI (q2 + 1), upd sk2 q2 43, upd sp2 q2 0), ?_, ?_, by omega, t2, q2 + 1, e2, ep2, mm2, who2, upd sk2 q2 43, upd sp2 q2 0, upd mo2 q2 101, upd mw2 q2 0, ma2, rfl, rfl, ?_, by omega, by omega, by omega, ?_, fun i hi => ?_⟩
          · unfold f_M_isSum_L10
            simp only [g1, g2, if_true, if_pos hk0, ← nI_succ, m2, oB_s, if_neg n10, put_y hq2]
          · unfold f_Re_readSum_L6
            simp only [if_neg g0, if_true, adv H ht1, oB_s, x2, add_y hq2, ← nI_succ, show xk t1 = 43 from (by rw [a1]; exact kk0.mpr hk0)]
          · exact ts_push H4 T2 (Nat.le_refl _) (by omega) T2.1 T2.2.2.1 T2.2.2.2.1 (fun h0 => ⟨h0, fun _ _ => rfl, ⟨Or.inr (Or.inr (Or.inr (by unfold SB; decide))), fun h9 => absurd h9 (by decide), fun h9 => absurd h9 (by decide)⟩⟩) (fun _ _ => rfl)
          · exact ty_bin l2 l5 ty1 ty2 fr2 (fun _ => rfl)
          · rw [upd_lt (show i < q2 by omega), fr2 i (by omega)]
            exact fr1 i hi
        · right
          obtain ⟨b1, b2, b3, b4⟩ := addSome sc sk2 sp2 43 0
          refine ⟨some (0, nI t2, dm, mm2, q2, mo2, mw2, ma2), some (a, 133, dp, 1, mf t2, b1, b2, b3), ?_, fun m hm => ?_, Or.inr ⟨t2, a, dp, b1, b2, b3, dm, mm2, q2, mo2, mw2, ma2, rfl, rfl, l4⟩⟩
          · unfold f_M_isSum_L10
            simp only [g1, g2, if_true, if_pos hk0, ← nI_succ, m2, oB_s, if_neg n10, if_true]
          · obtain ⟨M, rfl⟩ : ∃ M, m = M + 1 + 1 := ⟨m - 2, by omega⟩
            have s1 : f_Re_readSum_L6 xk (f_Re_parse N1 xk xs xn xw xec xew xtc xtw DX) (nI j, nI t1, xk t1, nI δ, e1, ep1, nI q1, sk1, sp1) = .inl (nI (j + 1), a, 133, dp, 1, mf t2, b1, b2, b3) := by
              unfold f_Re_readSum_L6
              simp only [if_neg g0, if_true, adv H ht1, oB_s, x2, b4, ← nI_succ, show xk t1 = 43 from (by rw [a1]; exact kk0.mpr hk0)]
            rw [lp_in s1]
            apply lp_out
            unfold f_Re_readSum_L6
            by_cases h9 : (400 : Int32) ≤ nI (j + 1)
            · simp only [if_pos h9]
            · simp only [if_neg h9, if_neg (show ¬ (133 : Int32) = 43 by decide), if_neg (show ¬ (133 : Int32) = 45 by decide)]
      · have hx0 : ¬ xk t1 = 43 := by rw [a1]; exact fun h9 => hk0 (kk0.mp h9)
        by_cases hk1 : mk t1 = 45
        · have ht1 : t1 < T := tk_lt H T1.1 (by rw [hk1]; decide) (by rw [hk1]; decide)
          have T1n := ts_next hq H4 T1 ht1
          rcases H2 δ DX DM hδ (by omega) (by omega) (by omega) (t1 + 1) q1 e1 ep1 mm1 who1 sk1 sp1 mo1 mw1 ma1 T1n with ⟨t2, q2, e2, ep2, mm2, who2, sk2, sp2, mo2, mw2, ma2, x2, m2, T2, l4, l5, l6, ty2, fr2⟩ | ⟨t2, a, dp, sc, sk2, sp2, dm, mm2, q2, mo2, mw2, ma2, x2, m2, l4⟩
          · left
            have hq1 := T1.2.1
            have hT2 := T2.1
            have hq2 : q2 < 400 := by omega
            refine ⟨(nI t2, nI δ, mm2, nI (q2 + 1), upd mo2 q2 102, upd mw2 q2 0, ma2), (nI (j + 1), nI t2, xk t2, nI δ, e2, ep2, nI (q2 + 1), upd sk2 q2 45, upd sp2 q2 0), ?_, ?_, by omega, t2, q2 + 1, e2, ep2, mm2, who2, upd sk2 q2 45, upd sp2 q2 0, upd mo2 q2 102, upd mw2 q2 0, ma2, rfl, rfl, ?_, by omega, by omega, by omega, ?_, fun i hi => ?_⟩
            · unfold f_M_isSum_L10
              simp only [g1, g2, if_true, if_neg hk0, if_pos hk1, ← nI_succ, m2, oB_s, if_neg n10, put_y hq2]
            · unfold f_Re_readSum_L6
              simp only [if_neg g0, if_neg (show ¬ (45 : Int32) = 43 by decide), if_true, adv H ht1, oB_s, x2, add_y hq2, ← nI_succ, show xk t1 = 45 from (by rw [a1]; exact kk1.mpr hk1)]
            · exact ts_push H4 T2 (Nat.le_refl _) (by omega) T2.1 T2.2.2.1 T2.2.2.2.1 (fun h0 => ⟨h0, fun _ _ => rfl, ⟨Or.inr (Or.inr (Or.inr (by unfold SB; decide))), fun h9 => absurd h9 (by decide), fun h9 => absurd h9 (by decide)⟩⟩) (fun _ _ => rfl)
            · exact ty_bin l2 l5 ty1 ty2 fr2 (fun _ => rfl)
            · rw [upd_lt (show i < q2 by omega), fr2 i (by omega)]
              exact fr1 i hi
          · right
            obtain ⟨b1, b2, b3, b4⟩ := addSome sc sk2 sp2 45 0
            refine ⟨some (0, nI t2, dm, mm2, q2, mo2, mw2, ma2), some (a, 133, dp, 1, mf t2, b1, b2, b3), ?_, fun m hm => ?_, Or.inr ⟨t2, a, dp, b1, b2, b3, dm, mm2, q2, mo2, mw2, ma2, rfl, rfl, l4⟩⟩
            · unfold f_M_isSum_L10
              simp only [g1, g2, if_true, if_neg hk0, if_pos hk1, ← nI_succ, m2, oB_s, if_neg n10, if_true]
            · obtain ⟨M, rfl⟩ : ∃ M, m = M + 1 + 1 := ⟨m - 2, by omega⟩
              have s1 : f_Re_readSum_L6 xk (f_Re_parse N1 xk xs xn xw xec xew xtc xtw DX) (nI j, nI t1, xk t1, nI δ, e1, ep1, nI q1, sk1, sp1) = .inl (nI (j + 1), a, 133, dp, 1, mf t2, b1, b2, b3) := by
                unfold f_Re_readSum_L6
                simp only [if_neg g0, if_neg (show ¬ (45 : Int32) = 43 by decide), if_true, adv H ht1, oB_s, x2, b4, ← nI_succ, show xk t1 = 45 from (by rw [a1]; exact kk1.mpr hk1)]
              rw [lp_in s1]
              apply lp_out
              unfold f_Re_readSum_L6
              by_cases h9 : (400 : Int32) ≤ nI (j + 1)
              · simp only [if_pos h9]
              · simp only [if_neg h9, if_neg (show ¬ (133 : Int32) = 43 by decide), if_neg (show ¬ (133 : Int32) = 45 by decide)]
        · right
          have hx1 : ¬ xk t1 = 45 := by rw [a1]; exact fun h9 => hk1 (kk1.mp h9)
          refine ⟨some (1, nI t1, nI δ, mm1, nI q1, mo1, mw1, ma1), some (nI t1, xk t1, nI δ, e1, ep1, nI q1, sk1, sp1), ?_, fun m hm => ?_, Or.inl ⟨t1, q1, e1, ep1, mm1, who1, sk1, sp1, mo1, mw1, ma1, rfl, rfl, T1, by omega, l2, l3, ty1, fr1⟩⟩
          · unfold f_M_isSum_L10
            simp only [g1, g2, if_true, if_neg hk0, if_neg hk1]
          · obtain ⟨M, rfl⟩ : ∃ M, m = M + 1 := ⟨m - 1, by omega⟩
            apply lp_out
            unfold f_Re_readSum_L6
            simp only [if_neg g0, if_neg hx0, if_neg hx1]
  · rw [x1, m1, oB_s, oB_s]
    refine Or.inr ⟨t1, a, dp, sc, sk1, sp1, dm, mm1, q1, mo1, mw1, ma1, ?_, if_pos rfl, l1⟩
    obtain ⟨M, hM2⟩ : ∃ M, N1 = M + 1 := ⟨N1 - 1, by omega⟩
    generalize hst : f_Re_readSum_L6 xk (f_Re_parse N1 xk xs xn xw xec xew xtc xtw DX) = stp
    have s1 : stp (0, a, 133, dp, 1, mf t1, sc, sk1, sp1) = .inr (some (a, 133, dp, 1, mf t1, sc, sk1, sp1)) := by
      rw [← hst]
      unfold f_Re_readSum_L6
      simp only [if_neg (show ¬ (400 : Int32) ≤ 0 by decide), if_neg (show ¬ (133 : Int32) = 43 by decide), if_neg (show ¬ (133 : Int32) = 45 by decide)]
    rw [hM2]
    exact lp_out s1
theorem sim_prod (H : TKs xk xs xn mk mf xw mv T) (hq : QH mk mf mv T nt ne xec xtc xew xtw Q QE) {N1 N2 m : Nat} (hN1 : 500 < N1) (hN2 : 500 < N2) (H2 : Sim xk xs xn mk mf xw mv T nt xec xtc xew xtw Q QE N1 N2 6 false m) : Sim xk xs xn mk mf xw mv T nt xec xtc xew xtw Q QE N1 N2 5 false (m + 1) := by
  intro δ DX DM hδ hm hX hM t q e ep mm who sk sp mo mw ma hTS
  have H4 := H.1
  have bs1 : bsN 5 = bsN 6 + 1 := rfl
  rw [bs1] at hm hX hM
  obtain ⟨DX, rfl⟩ : ∃ D, DX = D + 1 := ⟨DX - 1, by omega⟩
  obtain ⟨DM, rfl⟩ : ∃ D, DM = D + 1 := ⟨DM - 1, by omega⟩
  show OutP xk mf Q QE T nt false t δ q sk (f_Re_readProduct N1 (f_Re_parse N1 xk xs xn xw xec xew xtc xtw DX) (nI t) (xk t) (nI δ) e ep xk xs xn xw (nI q) sk sp xec xew xtc xtw) (f_M_isProduct N2 (f_M_parse N2 mk mv DM) (nI t) (nI δ) mk mm mv (nI q) mo mw ma)
  unfold f_Re_readProduct f_M_isProduct
  rcases H2 δ DX DM hδ (by omega) (by omega) (by omega) t q e ep mm who sk sp mo mw ma hTS with ⟨t1, q1, e1, ep1, mm1, who1, sk1, sp1, mo1, mw1, ma1, x1, m1, T1, l1, l2, l3, ty1, fr1⟩ | ⟨t1, a, dp, sc, sk1, sp1, dm, mm1, q1, mo1, mw1, ma1, x1, m1, l1⟩
  · rw [x1, m1, oB_s, oB_s]
    show OutP xk mf Q QE T nt false t δ q sk (lpS (f_Re_readProduct_L6 xk (f_Re_parse N1 xk xs xn xw xec xew xtc xtw DX)) none N1 (0, nI t1, xk t1, nI δ, e1, ep1, nI q1, sk1, sp1)) (if (1 : Int32) = 0 then _ else (lpS (f_M_isProduct_L10 mk (f_M_parse N2 mk mv DM)) none N2 (nI t1, nI δ, mm1, nI q1, mo1, mw1, ma1)))
    rw [if_neg n10]
    have key := lp_two3 (st1 := f_M_isProduct_L10 mk (f_M_parse N2 mk mv DM)) (st2 := f_Re_readProduct_L6 xk (f_Re_parse N1 xk xs xn xw xec xew xtc xtw DX)) (g1 := none) (g2 := none)
      (fun j s1 s2 => j ≤ 400 ∧ ∃ t1 q1 e1 ep1 mm1 who1 sk1 sp1 mo1 mw1 ma1, s1 = (nI t1, nI δ, mm1, nI q1, mo1, mw1, ma1) ∧ s2 = (nI j, nI t1, xk t1, nI δ, e1, ep1, nI q1, sk1, sp1) ∧ TS Q QE T nt t1 q1 e1 ep1 mm1 who1 sk1 sp1 mo1 mw1 ma1 ∧ t + j < t1 ∧ q ≤ q1 ∧ q1 + t ≤ q + t1 ∧ (∀ l, tyR sk1 (q1 - q) q l = some (false :: l)) ∧ ∀ i, i < q → sk1 i = sk i) 400
      (fun M X => OutP xk mf Q QE T nt false t δ q sk X M) ?_ (fun s1 s2 h5 => by
        obtain ⟨-, t1, q1, e1, ep1, mm1, who1, sk1, sp1, mo1, mw1, ma1, -, -, w1, w2, -⟩ := h5
        have := w1.1
        omega) (n1 := N2) (n2 := N1) (s1 := (nI t1, nI δ, mm1, nI q1, mo1, mw1, ma1)) (s2 := (0, nI t1, xk t1, nI δ, e1, ep1, nI q1, sk1, sp1)) (by omega) (by omega)
      ⟨by decide, t1, q1, e1, ep1, mm1, who1, sk1, sp1, mo1, mw1, ma1, rfl, rfl, T1, by omega, l2, l3, ty1, fr1⟩
    · obtain ⟨a, b, k1, k2, k3⟩ := key
      rw [k1, k2]
      exact k3
    · rintro j s1 s2 hj ⟨hj4, t1, q1, e1, ep1, mm1, who1, sk1, sp1, mo1, mw1, ma1, rfl, rfl, T1, l1, l2, l3, ty1, fr1⟩
      have hT1 := T1.1
      obtain ⟨a1, a2, -⟩ := H.2.1 t1 hT1
      have kk0 := (km_all _ a2).2.2.2.2.2.2.2.2.1
      have kk1 := (km_all _ a2).2.2.2.2.2.2.2.2.2.1
      have g0 : ¬ (400 : Int32) ≤ nI j := nI_ge (b := 400) hj (by decide)
      have g1 : ib (nI t1) 401 = true := ib_nI (by omega) (by decide)
      have g2 : (nI t1).toNatClampNeg = t1 := nI_clamp (by omega)
      by_cases hk0 : mk t1 = 42
      · have ht1 : t1 < T := tk_lt H T1.1 (by rw [hk0]; decide) (by rw [hk0]; decide)
        have T1n := ts_next hq H4 T1 ht1
        rcases H2 δ DX DM hδ (by omega) (by omega) (by omega) (t1 + 1) q1 e1 ep1 mm1 who1 sk1 sp1 mo1 mw1 ma1 T1n with ⟨t2, q2, e2, ep2, mm2, who2, sk2, sp2, mo2, mw2, ma2, x2, m2, T2, l4, l5, l6, ty2, fr2⟩ | ⟨t2, a, dp, sc, sk2, sp2, dm, mm2, q2, mo2, mw2, ma2, x2, m2, l4⟩
        · left
          have hq1 := T1.2.1
          have hT2 := T2.1
          have hq2 : q2 < 400 := by omega
          refine ⟨(nI t2, nI δ, mm2, nI (q2 + 1), upd mo2 q2 103, upd mw2 q2 0, ma2), (nI (j + 1), nI t2, xk t2, nI δ, e2, ep2, nI (q2 + 1), upd sk2 q2 42, upd sp2 q2 0), ?_, ?_, by omega, t2, q2 + 1, e2, ep2, mm2, who2, upd sk2 q2 42, upd sp2 q2 0, upd mo2 q2 103, upd mw2 q2 0, ma2, rfl, rfl, ?_, by omega, by omega, by omega, ?_, fun i hi => ?_⟩
          · unfold f_M_isProduct_L10
            simp only [g1, g2, if_true, if_pos hk0, ← nI_succ, m2, oB_s, if_neg n10, put_y hq2]
          · unfold f_Re_readProduct_L6
            simp only [if_neg g0, if_true, adv H ht1, oB_s, x2, add_y hq2, ← nI_succ, show xk t1 = 42 from (by rw [a1]; exact kk0.mpr hk0)]
          · exact ts_push H4 T2 (Nat.le_refl _) (by omega) T2.1 T2.2.2.1 T2.2.2.2.1 (fun h0 => ⟨h0, fun _ _ => rfl, ⟨Or.inr (Or.inr (Or.inr (by unfold SB; decide))), fun h9 => absurd h9 (by decide), fun h9 => absurd h9 (by decide)⟩⟩) (fun _ _ => rfl)
          · exact ty_bin l2 l5 ty1 ty2 fr2 (fun _ => rfl)
          · rw [upd_lt (show i < q2 by omega), fr2 i (by omega)]
            exact fr1 i hi
        · right
          obtain ⟨b1, b2, b3, b4⟩ := addSome sc sk2 sp2 42 0
          refine ⟨some (0, nI t2, dm, mm2, q2, mo2, mw2, ma2), some (a, 133, dp, 1, mf t2, b1, b2, b3), ?_, fun m hm => ?_, Or.inr ⟨t2, a, dp, b1, b2, b3, dm, mm2, q2, mo2, mw2, ma2, rfl, rfl, l4⟩⟩
          · unfold f_M_isProduct_L10
            simp only [g1, g2, if_true, if_pos hk0, ← nI_succ, m2, oB_s, if_neg n10, if_true]
          · obtain ⟨M, rfl⟩ : ∃ M, m = M + 1 + 1 := ⟨m - 2, by omega⟩
            have s1 : f_Re_readProduct_L6 xk (f_Re_parse N1 xk xs xn xw xec xew xtc xtw DX) (nI j, nI t1, xk t1, nI δ, e1, ep1, nI q1, sk1, sp1) = .inl (nI (j + 1), a, 133, dp, 1, mf t2, b1, b2, b3) := by
              unfold f_Re_readProduct_L6
              simp only [if_neg g0, if_true, adv H ht1, oB_s, x2, b4, ← nI_succ, show xk t1 = 42 from (by rw [a1]; exact kk0.mpr hk0)]
            rw [lp_in s1]
            apply lp_out
            unfold f_Re_readProduct_L6
            by_cases h9 : (400 : Int32) ≤ nI (j + 1)
            · simp only [if_pos h9]
            · simp only [if_neg h9, if_neg (show ¬ (133 : Int32) = 42 by decide), if_neg (show ¬ (133 : Int32) = 47 by decide)]
      · have hx0 : ¬ xk t1 = 42 := by rw [a1]; exact fun h9 => hk0 (kk0.mp h9)
        by_cases hk1 : mk t1 = 47
        · have ht1 : t1 < T := tk_lt H T1.1 (by rw [hk1]; decide) (by rw [hk1]; decide)
          have T1n := ts_next hq H4 T1 ht1
          rcases H2 δ DX DM hδ (by omega) (by omega) (by omega) (t1 + 1) q1 e1 ep1 mm1 who1 sk1 sp1 mo1 mw1 ma1 T1n with ⟨t2, q2, e2, ep2, mm2, who2, sk2, sp2, mo2, mw2, ma2, x2, m2, T2, l4, l5, l6, ty2, fr2⟩ | ⟨t2, a, dp, sc, sk2, sp2, dm, mm2, q2, mo2, mw2, ma2, x2, m2, l4⟩
          · left
            have hq1 := T1.2.1
            have hT2 := T2.1
            have hq2 : q2 < 400 := by omega
            refine ⟨(nI t2, nI δ, mm2, nI (q2 + 1), upd mo2 q2 104, upd mw2 q2 0, ma2), (nI (j + 1), nI t2, xk t2, nI δ, e2, ep2, nI (q2 + 1), upd sk2 q2 47, upd sp2 q2 0), ?_, ?_, by omega, t2, q2 + 1, e2, ep2, mm2, who2, upd sk2 q2 47, upd sp2 q2 0, upd mo2 q2 104, upd mw2 q2 0, ma2, rfl, rfl, ?_, by omega, by omega, by omega, ?_, fun i hi => ?_⟩
            · unfold f_M_isProduct_L10
              simp only [g1, g2, if_true, if_neg hk0, if_pos hk1, ← nI_succ, m2, oB_s, if_neg n10, put_y hq2]
            · unfold f_Re_readProduct_L6
              simp only [if_neg g0, if_neg (show ¬ (47 : Int32) = 42 by decide), if_true, adv H ht1, oB_s, x2, add_y hq2, ← nI_succ, show xk t1 = 47 from (by rw [a1]; exact kk1.mpr hk1)]
            · exact ts_push H4 T2 (Nat.le_refl _) (by omega) T2.1 T2.2.2.1 T2.2.2.2.1 (fun h0 => ⟨h0, fun _ _ => rfl, ⟨Or.inr (Or.inr (Or.inr (by unfold SB; decide))), fun h9 => absurd h9 (by decide), fun h9 => absurd h9 (by decide)⟩⟩) (fun _ _ => rfl)
            · exact ty_bin l2 l5 ty1 ty2 fr2 (fun _ => rfl)
            · rw [upd_lt (show i < q2 by omega), fr2 i (by omega)]
              exact fr1 i hi
          · right
            obtain ⟨b1, b2, b3, b4⟩ := addSome sc sk2 sp2 47 0
            refine ⟨some (0, nI t2, dm, mm2, q2, mo2, mw2, ma2), some (a, 133, dp, 1, mf t2, b1, b2, b3), ?_, fun m hm => ?_, Or.inr ⟨t2, a, dp, b1, b2, b3, dm, mm2, q2, mo2, mw2, ma2, rfl, rfl, l4⟩⟩
            · unfold f_M_isProduct_L10
              simp only [g1, g2, if_true, if_neg hk0, if_pos hk1, ← nI_succ, m2, oB_s, if_neg n10, if_true]
            · obtain ⟨M, rfl⟩ : ∃ M, m = M + 1 + 1 := ⟨m - 2, by omega⟩
              have s1 : f_Re_readProduct_L6 xk (f_Re_parse N1 xk xs xn xw xec xew xtc xtw DX) (nI j, nI t1, xk t1, nI δ, e1, ep1, nI q1, sk1, sp1) = .inl (nI (j + 1), a, 133, dp, 1, mf t2, b1, b2, b3) := by
                unfold f_Re_readProduct_L6
                simp only [if_neg g0, if_neg (show ¬ (47 : Int32) = 42 by decide), if_true, adv H ht1, oB_s, x2, b4, ← nI_succ, show xk t1 = 47 from (by rw [a1]; exact kk1.mpr hk1)]
              rw [lp_in s1]
              apply lp_out
              unfold f_Re_readProduct_L6
              by_cases h9 : (400 : Int32) ≤ nI (j + 1)
              · simp only [if_pos h9]
              · simp only [if_neg h9, if_neg (show ¬ (133 : Int32) = 42 by decide), if_neg (show ¬ (133 : Int32) = 47 by decide)]
        · right
          have hx1 : ¬ xk t1 = 47 := by rw [a1]; exact fun h9 => hk1 (kk1.mp h9)
          refine ⟨some (1, nI t1, nI δ, mm1, nI q1, mo1, mw1, ma1), some (nI t1, xk t1, nI δ, e1, ep1, nI q1, sk1, sp1), ?_, fun m hm => ?_, Or.inl ⟨t1, q1, e1, ep1, mm1, who1, sk1, sp1, mo1, mw1, ma1, rfl, rfl, T1, by omega, l2, l3, ty1, fr1⟩⟩
          · unfold f_M_isProduct_L10
            simp only [g1, g2, if_true, if_neg hk0, if_neg hk1]
          · obtain ⟨M, rfl⟩ : ∃ M, m = M + 1 := ⟨m - 1, by omega⟩
            apply lp_out
            unfold f_Re_readProduct_L6
            simp only [if_neg g0, if_neg hx0, if_neg hx1]
  · rw [x1, m1, oB_s, oB_s]
    refine Or.inr ⟨t1, a, dp, sc, sk1, sp1, dm, mm1, q1, mo1, mw1, ma1, ?_, if_pos rfl, l1⟩
    obtain ⟨M, hM2⟩ : ∃ M, N1 = M + 1 := ⟨N1 - 1, by omega⟩
    generalize hst : f_Re_readProduct_L6 xk (f_Re_parse N1 xk xs xn xw xec xew xtc xtw DX) = stp
    have s1 : stp (0, a, 133, dp, 1, mf t1, sc, sk1, sp1) = .inr (some (a, 133, dp, 1, mf t1, sc, sk1, sp1)) := by
      rw [← hst]
      unfold f_Re_readProduct_L6
      simp only [if_neg (show ¬ (400 : Int32) ≤ 0 by decide), if_neg (show ¬ (133 : Int32) = 42 by decide), if_neg (show ¬ (133 : Int32) = 47 by decide)]
    rw [hM2]
    exact lp_out s1
end PS
