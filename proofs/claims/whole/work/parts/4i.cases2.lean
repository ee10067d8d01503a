/-! the calls of the law: both sides answer alike -/
section CA
variable {x0 x1 x3 x4 x5 x11 x12 x18 x19 x20 x24 x25 x26 x27 x28 x29 x30 x31 x37 x39 x40 x41 x47 x48 x54 x56 x58 x59 x60 x61 x63 x64 x65 x66 m0 m1 m2 m3 m4 m5 m6 m7 m8 m9 m10 m11 m12 u0 u1 u2 u3 u4 : Int32}
variable {x2 x6 x7 x8 x9 x10 x13 x14 x15 x16 x17 x21 x22 x23 x33 x34 x35 x42 x43 x44 x45 x46 x49 x50 x51 x52 x53 x62 x67 m13 m14 m15 m16 m18 m19 m20 m21 u7 u8 u9 u10 u11 u12 u13 u14 u15 u16 u17 u18 : Nat → Int32}
variable {x32 : Int64}
variable {x36 x38 x55 x57 m17 u5 u6 : Nat → Int64}
theorem cs_claimHours (R : Rel x0 x1 x2 x3 x4 x5 x6 x7 x8 x9 x10 x11 x13 x14 x15 x16 x17 x18 x19 x20 x21 x37 x38 x59 x60 x61 m1 m2 m6 m7 m8 m9 m10 m11 m12 m13 m19 u0 u1 u2 u3 u7 u8 u9 u10 u11 u12 u13 u14 u15 u16 u17 u18) {N1 : Nat} (hN1 : 5000 < N1) {N2 : Nat} (hN2 : 5000 < N2) (out : Nat → Int64) (p1 p2 p3 p4 : Int32) : ∃ o b, f_L_claimHours N1 x3 x4 x5 x6 x7 x8 x9 x10 x18 x21 out p1 p2 p3 p4 = some o ∧ f_M_claimHours N2 m0 m9 m19 u0 u1 u2 u7 u8 u9 u10 u11 p1 p2 p3 p4 = some b ∧ agI o.1 o.2.2.2.2.2.2.2.2.2 b.1 b.2.1 ∧ Rel x0 x1 x2 x3 x4 o.2.1 o.2.2.1 o.2.2.2.1 o.2.2.2.2.1 o.2.2.2.2.2.1 o.2.2.2.2.2.2.1 x11 x13 x14 x15 x16 x17 o.2.2.2.2.2.2.2.1 x19 x20 o.2.2.2.2.2.2.2.2.1 x37 x38 x59 x60 x61 m1 m2 m6 m7 m8 b.2.2.1 m10 m11 m12 m13 b.2.2.2.1 u0 u1 b.2.2.2.2.1 u3 b.2.2.2.2.2.1 b.2.2.2.2.2.2.1 b.2.2.2.2.2.2.2.1 b.2.2.2.2.2.2.2.2.1 b.2.2.2.2.2.2.2.2.2 u12 u13 u14 u15 u16 u17 u18 := by
  obtain ⟨sz, nt, ne, n, no, d, A, rT, rE, ⟨rfl, rfl⟩, ⟨rfl, rfl⟩, ⟨rfl, rfl⟩, ⟨rfl, rfl⟩, rW, rO, ⟨rfl, rfl, hd⟩, rV, rC, rX, rM, rK⟩ := id R
  obtain ⟨hc, h1, h2, hn, hne, hsy⟩ := id rW
  have hnn := hc.1
  rcases idx p1 nt with ⟨i, hi, rfl⟩ | h9
  · obtain ⟨q1, q2⟩ := te_in hi (show nt < 2 ^ 31 by omega)
    rcases idx p2 ne with ⟨e, he, rfl⟩ | h9
    · obtain ⟨q3, q4⟩ := ev_in he (show ne < 2 ^ 31 by omega)
      by_cases p3n : p3 < 0
      · unfold f_L_claimHours f_Main_claimHours f_M_claimHours
        simp only [q1, q2, q3, q4, oB_s, Sum.elim_inl, Sum.elim_inr, if_true, if_neg n10, if_neg sIB, if_neg sAB, if_neg sIA, f_M_no, f_M_isNot, f_M_ok, if_pos p3n]
        exact ⟨_, _, rfl, rfl, ⟨rfl, fun h => absurd h n20⟩, R⟩
      by_cases p4n : (99 : Int32) < p4
      · unfold f_L_claimHours f_Main_claimHours f_M_claimHours
        simp only [q1, q2, q3, q4, oB_s, Sum.elim_inl, Sum.elim_inr, if_true, if_neg n10, if_neg sIB, if_neg sAB, if_neg sIA, f_M_no, f_M_isNot, f_M_ok, if_neg p3n, if_pos p4n]
        exact ⟨_, _, rfl, rfl, ⟨rfl, fun h => absurd h n20⟩, R⟩
      by_cases p34 : p3 ≤ p4
      · by_cases hf : n < 40
        · have hw2 := cr_add hc hf (k := 0) (r := p3) (l := p4) (Or.inl rfl) hi he (fun h => absurd rfl h)
          obtain ⟨A2, g1, g2, w1, w2, a1, a2, a3⟩ := hear_weave hw2 hn (show 60 < N1 by omega) (show 60 < N2 by omega) x18 m9 x21 m19
          have q7 := x_claim hc hf N1 x18 0 p3 p4 (nI i) (nI e) x21 g1 w1
          have q8 := m_claim hf N2 0 m9 0 p3 p4 (nI i) (nI e) m19 g2 w2
          unfold f_L_claimHours f_Main_claimHours f_M_claimHours
          simp only [q1, q2, q3, q4, if_neg p3n, if_neg p4n, if_pos p34, oB_s, Sum.elim_inl, Sum.elim_inr, if_true, if_neg n10, if_neg sIB, if_neg sAB, if_neg sIA, f_M_no, f_M_isNot, f_M_ok, q7, q8]
          exact ⟨_, _, rfl, rfl, ⟨rfl, fun _ => up0 out _⟩, ⟨sz, nt, ne, n + 1, no, d, A2, rT, rE, ⟨rfl, rfl⟩, ⟨rfl, rfl⟩, ⟨rfl, rfl⟩, ⟨rfl, rfl⟩, ⟨hw2, a1, a2, hn, hne, a3⟩, rO, ⟨rfl, rfl, hd⟩, rV, rC, Or.inl rfl, Or.inl rfl, rK⟩⟩
        · have e9 : n = 40 := by omega
          subst e9
          have q7 := x_claimF (xT := x6) (xK := x7) (xE := x8) (xF := x9) (xL := x10) N1 x18 0 p3 p4 (nI i) (nI e) x21
          have q8 := m_claimF (uK := u7) (uB := u8) (uO := u9) (uR := u10) (uL := u11) N2 0 m9 0 p3 p4 (nI i) (nI e) m19
          unfold f_L_claimHours f_Main_claimHours f_M_claimHours
          simp only [q1, q2, q3, q4, if_neg p3n, if_neg p4n, if_pos p34, oB_s, Sum.elim_inl, Sum.elim_inr, if_true, if_neg n10, if_neg sIB, if_neg sAB, if_neg sIA, f_M_no, f_M_isNot, f_M_ok, q7, q8]
          exact ⟨_, _, rfl, rfl, ⟨rfl, fun h => absurd h n30⟩, R⟩
      · unfold f_L_claimHours f_Main_claimHours f_M_claimHours
        simp only [q1, q2, q3, q4, oB_s, Sum.elim_inl, Sum.elim_inr, if_true, if_neg n10, if_neg sIB, if_neg sAB, if_neg sIA, f_M_no, f_M_isNot, f_M_ok, if_neg p3n, if_neg p4n, if_neg p34]
        exact ⟨_, _, rfl, rfl, ⟨rfl, fun h => absurd h n20⟩, R⟩
    · obtain ⟨q3, q4⟩ := ev_out h9 (show ne < 2 ^ 31 by omega)
      unfold f_L_claimHours f_Main_claimHours f_M_claimHours
      simp only [q1, q2, q3, q4, oB_s, Sum.elim_inl, Sum.elim_inr, if_true, if_neg n10, if_neg sIB, if_neg sAB, if_neg sIA, f_M_no, f_M_isNot, f_M_ok]
      exact ⟨_, _, rfl, rfl, ⟨rfl, fun h => absurd h n10⟩, R⟩
  · obtain ⟨q1, q2⟩ := te_out h9 (show nt < 2 ^ 31 by omega)
    unfold f_L_claimHours f_Main_claimHours f_M_claimHours
    simp only [q1, q2, oB_s, Sum.elim_inl, Sum.elim_inr, if_true, if_neg n10, if_neg sIB, if_neg sAB, if_neg sIA, f_M_no, f_M_isNot, f_M_ok]
    exact ⟨_, _, rfl, rfl, ⟨rfl, fun h => absurd h n10⟩, R⟩
theorem cs_claimBefore (R : Rel x0 x1 x2 x3 x4 x5 x6 x7 x8 x9 x10 x11 x13 x14 x15 x16 x17 x18 x19 x20 x21 x37 x38 x59 x60 x61 m1 m2 m6 m7 m8 m9 m10 m11 m12 m13 m19 u0 u1 u2 u3 u7 u8 u9 u10 u11 u12 u13 u14 u15 u16 u17 u18) {N1 : Nat} (hN1 : 5000 < N1) {N2 : Nat} (hN2 : 5000 < N2) (out : Nat → Int64) (p1 p2 p3 : Int32) : ∃ o b, f_L_claimBefore N1 x3 x4 x5 x6 x7 x8 x9 x10 x18 x21 out p1 p2 p3 = some o ∧ f_M_claimBefore N2 m0 m9 m19 u0 u1 u2 u7 u8 u9 u10 u11 p1 p2 p3 = some b ∧ agI o.1 o.2.2.2.2.2.2.2.2.2 b.1 b.2.1 ∧ Rel x0 x1 x2 x3 x4 o.2.1 o.2.2.1 o.2.2.2.1 o.2.2.2.2.1 o.2.2.2.2.2.1 o.2.2.2.2.2.2.1 x11 x13 x14 x15 x16 x17 o.2.2.2.2.2.2.2.1 x19 x20 o.2.2.2.2.2.2.2.2.1 x37 x38 x59 x60 x61 m1 m2 m6 m7 m8 b.2.2.1 m10 m11 m12 m13 b.2.2.2.1 u0 u1 b.2.2.2.2.1 u3 b.2.2.2.2.2.1 b.2.2.2.2.2.2.1 b.2.2.2.2.2.2.2.1 b.2.2.2.2.2.2.2.2.1 b.2.2.2.2.2.2.2.2.2 u12 u13 u14 u15 u16 u17 u18 := by
  obtain ⟨sz, nt, ne, n, no, d, A, rT, rE, ⟨rfl, rfl⟩, ⟨rfl, rfl⟩, ⟨rfl, rfl⟩, ⟨rfl, rfl⟩, rW, rO, ⟨rfl, rfl, hd⟩, rV, rC, rX, rM, rK⟩ := id R
  obtain ⟨hc, h1, h2, hn, hne, hsy⟩ := id rW
  have hnn := hc.1
  rcases idx p1 nt with ⟨i, hi, rfl⟩ | h9
  · obtain ⟨q1, q2⟩ := te_in hi (show nt < 2 ^ 31 by omega)
    rcases idx p2 ne with ⟨e, he, rfl⟩ | h9
    · obtain ⟨q3, q4⟩ := ev_in he (show ne < 2 ^ 31 by omega)
      rcases idx p3 ne with ⟨e2, he2, rfl⟩ | h9
      · obtain ⟨q5, q6⟩ := ev_in he2 (show ne < 2 ^ 31 by omega)
        by_cases hee : nI e = nI e2
        · unfold f_L_claimBefore f_Main_claimBefore f_M_claimBefore f_Main_needTwoEvents f_M_claimOfTwo
          simp only [q1, q2, q3, q4, q5, q6, oB_s, Sum.elim_inl, Sum.elim_inr, if_true, if_neg n10, if_neg sIB, if_neg sAB, if_neg sIA, f_M_no, f_M_isNot, f_M_ok, if_pos hee]
          exact ⟨_, _, rfl, rfl, ⟨rfl, fun h => absurd h n20⟩, R⟩
        · by_cases hf : n < 40
          · have hw2 := cr_add hc hf (k := 1) (r := (nI e2)) (l := 0) (Or.inr (Or.inl rfl)) hi he (fun _ => ⟨e2, he2, rfl⟩)
            obtain ⟨A2, g1, g2, w1, w2, a1, a2, a3⟩ := hear_weave hw2 hn (show 60 < N1 by omega) (show 60 < N2 by omega) x18 m9 x21 m19
            have q7 := x_claim hc hf N1 x18 1 (nI e2) 0 (nI i) (nI e) x21 g1 w1
            have q8 := m_claim hf N2 0 m9 1 (nI e2) 0 (nI i) (nI e) m19 g2 w2
            unfold f_L_claimBefore f_Main_claimBefore f_M_claimBefore f_Main_needTwoEvents f_M_claimOfTwo
            simp only [q1, q2, q3, q4, q5, q6, if_neg hee, oB_s, Sum.elim_inl, Sum.elim_inr, if_true, if_neg n10, if_neg sIB, if_neg sAB, if_neg sIA, f_M_no, f_M_isNot, f_M_ok, q7, q8]
            exact ⟨_, _, rfl, rfl, ⟨rfl, fun _ => up0 out _⟩, ⟨sz, nt, ne, n + 1, no, d, A2, rT, rE, ⟨rfl, rfl⟩, ⟨rfl, rfl⟩, ⟨rfl, rfl⟩, ⟨rfl, rfl⟩, ⟨hw2, a1, a2, hn, hne, a3⟩, rO, ⟨rfl, rfl, hd⟩, rV, rC, Or.inl rfl, Or.inl rfl, rK⟩⟩
          · have e9 : n = 40 := by omega
            subst e9
            have q7 := x_claimF (xT := x6) (xK := x7) (xE := x8) (xF := x9) (xL := x10) N1 x18 1 (nI e2) 0 (nI i) (nI e) x21
            have q8 := m_claimF (uK := u7) (uB := u8) (uO := u9) (uR := u10) (uL := u11) N2 0 m9 1 (nI e2) 0 (nI i) (nI e) m19
            unfold f_L_claimBefore f_Main_claimBefore f_M_claimBefore f_Main_needTwoEvents f_M_claimOfTwo
            simp only [q1, q2, q3, q4, q5, q6, if_neg hee, oB_s, Sum.elim_inl, Sum.elim_inr, if_true, if_neg n10, if_neg sIB, if_neg sAB, if_neg sIA, f_M_no, f_M_isNot, f_M_ok, q7, q8]
            exact ⟨_, _, rfl, rfl, ⟨rfl, fun h => absurd h n30⟩, R⟩
      · obtain ⟨q5, q6⟩ := ev_out h9 (show ne < 2 ^ 31 by omega)
        unfold f_L_claimBefore f_Main_claimBefore f_M_claimBefore f_Main_needTwoEvents f_M_claimOfTwo
        simp only [q1, q2, q3, q4, q5, q6, oB_s, Sum.elim_inl, Sum.elim_inr, if_true, if_neg n10, if_neg sIB, if_neg sAB, if_neg sIA, f_M_no, f_M_isNot, f_M_ok]
        exact ⟨_, _, rfl, rfl, ⟨rfl, fun h => absurd h n10⟩, R⟩
    · obtain ⟨q3, q4⟩ := ev_out h9 (show ne < 2 ^ 31 by omega)
      unfold f_L_claimBefore f_Main_claimBefore f_M_claimBefore f_Main_needTwoEvents f_M_claimOfTwo
      simp only [q1, q2, q3, q4, oB_s, Sum.elim_inl, Sum.elim_inr, if_true, if_neg n10, if_neg sIB, if_neg sAB, if_neg sIA, f_M_no, f_M_isNot, f_M_ok]
      exact ⟨_, _, rfl, rfl, ⟨rfl, fun h => absurd h n10⟩, R⟩
  · obtain ⟨q1, q2⟩ := te_out h9 (show nt < 2 ^ 31 by omega)
    unfold f_L_claimBefore f_Main_claimBefore f_M_claimBefore f_Main_needTwoEvents f_M_claimOfTwo
    simp only [q1, q2, oB_s, Sum.elim_inl, Sum.elim_inr, if_true, if_neg n10, if_neg sIB, if_neg sAB, if_neg sIA, f_M_no, f_M_isNot, f_M_ok]
    exact ⟨_, _, rfl, rfl, ⟨rfl, fun h => absurd h n10⟩, R⟩
theorem cs_claimTogether (R : Rel x0 x1 x2 x3 x4 x5 x6 x7 x8 x9 x10 x11 x13 x14 x15 x16 x17 x18 x19 x20 x21 x37 x38 x59 x60 x61 m1 m2 m6 m7 m8 m9 m10 m11 m12 m13 m19 u0 u1 u2 u3 u7 u8 u9 u10 u11 u12 u13 u14 u15 u16 u17 u18) {N1 : Nat} (hN1 : 5000 < N1) {N2 : Nat} (hN2 : 5000 < N2) (out : Nat → Int64) (p1 p2 p3 : Int32) : ∃ o b, f_L_claimTogether N1 x3 x4 x5 x6 x7 x8 x9 x10 x18 x21 out p1 p2 p3 = some o ∧ f_M_claimTogether N2 m0 m9 m19 u0 u1 u2 u7 u8 u9 u10 u11 p1 p2 p3 = some b ∧ agI o.1 o.2.2.2.2.2.2.2.2.2 b.1 b.2.1 ∧ Rel x0 x1 x2 x3 x4 o.2.1 o.2.2.1 o.2.2.2.1 o.2.2.2.2.1 o.2.2.2.2.2.1 o.2.2.2.2.2.2.1 x11 x13 x14 x15 x16 x17 o.2.2.2.2.2.2.2.1 x19 x20 o.2.2.2.2.2.2.2.2.1 x37 x38 x59 x60 x61 m1 m2 m6 m7 m8 b.2.2.1 m10 m11 m12 m13 b.2.2.2.1 u0 u1 b.2.2.2.2.1 u3 b.2.2.2.2.2.1 b.2.2.2.2.2.2.1 b.2.2.2.2.2.2.2.1 b.2.2.2.2.2.2.2.2.1 b.2.2.2.2.2.2.2.2.2 u12 u13 u14 u15 u16 u17 u18 := by
  obtain ⟨sz, nt, ne, n, no, d, A, rT, rE, ⟨rfl, rfl⟩, ⟨rfl, rfl⟩, ⟨rfl, rfl⟩, ⟨rfl, rfl⟩, rW, rO, ⟨rfl, rfl, hd⟩, rV, rC, rX, rM, rK⟩ := id R
  obtain ⟨hc, h1, h2, hn, hne, hsy⟩ := id rW
  have hnn := hc.1
  rcases idx p1 nt with ⟨i, hi, rfl⟩ | h9
  · obtain ⟨q1, q2⟩ := te_in hi (show nt < 2 ^ 31 by omega)
    rcases idx p2 ne with ⟨e, he, rfl⟩ | h9
    · obtain ⟨q3, q4⟩ := ev_in he (show ne < 2 ^ 31 by omega)
      rcases idx p3 ne with ⟨e2, he2, rfl⟩ | h9
      · obtain ⟨q5, q6⟩ := ev_in he2 (show ne < 2 ^ 31 by omega)
        by_cases hee : nI e = nI e2
        · unfold f_L_claimTogether f_Main_claimTogether f_M_claimTogether f_Main_needTwoEvents f_M_claimOfTwo
          simp only [q1, q2, q3, q4, q5, q6, oB_s, Sum.elim_inl, Sum.elim_inr, if_true, if_neg n10, if_neg sIB, if_neg sAB, if_neg sIA, f_M_no, f_M_isNot, f_M_ok, if_pos hee]
          exact ⟨_, _, rfl, rfl, ⟨rfl, fun h => absurd h n20⟩, R⟩
        · by_cases hf : n < 40
          · have hw2 := cr_add hc hf (k := 2) (r := (nI e2)) (l := 0) (Or.inr (Or.inr rfl)) hi he (fun _ => ⟨e2, he2, rfl⟩)
            obtain ⟨A2, g1, g2, w1, w2, a1, a2, a3⟩ := hear_weave hw2 hn (show 60 < N1 by omega) (show 60 < N2 by omega) x18 m9 x21 m19
            have q7 := x_claim hc hf N1 x18 2 (nI e2) 0 (nI i) (nI e) x21 g1 w1
            have q8 := m_claim hf N2 0 m9 2 (nI e2) 0 (nI i) (nI e) m19 g2 w2
            unfold f_L_claimTogether f_Main_claimTogether f_M_claimTogether f_Main_needTwoEvents f_M_claimOfTwo
            simp only [q1, q2, q3, q4, q5, q6, if_neg hee, oB_s, Sum.elim_inl, Sum.elim_inr, if_true, if_neg n10, if_neg sIB, if_neg sAB, if_neg sIA, f_M_no, f_M_isNot, f_M_ok, q7, q8]
            exact ⟨_, _, rfl, rfl, ⟨rfl, fun _ => up0 out _⟩, ⟨sz, nt, ne, n + 1, no, d, A2, rT, rE, ⟨rfl, rfl⟩, ⟨rfl, rfl⟩, ⟨rfl, rfl⟩, ⟨rfl, rfl⟩, ⟨hw2, a1, a2, hn, hne, a3⟩, rO, ⟨rfl, rfl, hd⟩, rV, rC, Or.inl rfl, Or.inl rfl, rK⟩⟩
          · have e9 : n = 40 := by omega
            subst e9
            have q7 := x_claimF (xT := x6) (xK := x7) (xE := x8) (xF := x9) (xL := x10) N1 x18 2 (nI e2) 0 (nI i) (nI e) x21
            have q8 := m_claimF (uK := u7) (uB := u8) (uO := u9) (uR := u10) (uL := u11) N2 0 m9 2 (nI e2) 0 (nI i) (nI e) m19
            unfold f_L_claimTogether f_Main_claimTogether f_M_claimTogether f_Main_needTwoEvents f_M_claimOfTwo
            simp only [q1, q2, q3, q4, q5, q6, if_neg hee, oB_s, Sum.elim_inl, Sum.elim_inr, if_true, if_neg n10, if_neg sIB, if_neg sAB, if_neg sIA, f_M_no, f_M_isNot, f_M_ok, q7, q8]
            exact ⟨_, _, rfl, rfl, ⟨rfl, fun h => absurd h n30⟩, R⟩
      · obtain ⟨q5, q6⟩ := ev_out h9 (show ne < 2 ^ 31 by omega)
        unfold f_L_claimTogether f_Main_claimTogether f_M_claimTogether f_Main_needTwoEvents f_M_claimOfTwo
        simp only [q1, q2, q3, q4, q5, q6, oB_s, Sum.elim_inl, Sum.elim_inr, if_true, if_neg n10, if_neg sIB, if_neg sAB, if_neg sIA, f_M_no, f_M_isNot, f_M_ok]
        exact ⟨_, _, rfl, rfl, ⟨rfl, fun h => absurd h n10⟩, R⟩
    · obtain ⟨q3, q4⟩ := ev_out h9 (show ne < 2 ^ 31 by omega)
      unfold f_L_claimTogether f_Main_claimTogether f_M_claimTogether f_Main_needTwoEvents f_M_claimOfTwo
      simp only [q1, q2, q3, q4, oB_s, Sum.elim_inl, Sum.elim_inr, if_true, if_neg n10, if_neg sIB, if_neg sAB, if_neg sIA, f_M_no, f_M_isNot, f_M_ok]
      exact ⟨_, _, rfl, rfl, ⟨rfl, fun h => absurd h n10⟩, R⟩
  · obtain ⟨q1, q2⟩ := te_out h9 (show nt < 2 ^ 31 by omega)
    unfold f_L_claimTogether f_Main_claimTogether f_M_claimTogether f_Main_needTwoEvents f_M_claimOfTwo
    simp only [q1, q2, oB_s, Sum.elim_inl, Sum.elim_inr, if_true, if_neg n10, if_neg sIB, if_neg sAB, if_neg sIA, f_M_no, f_M_isNot, f_M_ok]
    exact ⟨_, _, rfl, rfl, ⟨rfl, fun h => absurd h n10⟩, R⟩
theorem cs_takeBack (R : Rel x0 x1 x2 x3 x4 x5 x6 x7 x8 x9 x10 x11 x13 x14 x15 x16 x17 x18 x19 x20 x21 x37 x38 x59 x60 x61 m1 m2 m6 m7 m8 m9 m10 m11 m12 m13 m19 u0 u1 u2 u3 u7 u8 u9 u10 u11 u12 u13 u14 u15 u16 u17 u18) {N1 : Nat} (hN1 : 5000 < N1) {N2 : Nat} (hN2 : 5000 < N2) (out : Nat → Int64) (p1 : Int32) : ∃ o b, f_L_takeBack N1 x5 x6 x7 x8 x9 x10 x18 x21 out p1 = some o ∧ f_M_takeBack N2 m0 m9 m19 u2 u7 u8 u9 u10 u11 p1 = some b ∧ agI o.1 o.2.2.2.2.2.2.2.2.2 b.1 b.2.1 ∧ Rel x0 x1 x2 x3 x4 o.2.1 o.2.2.1 o.2.2.2.1 o.2.2.2.2.1 o.2.2.2.2.2.1 o.2.2.2.2.2.2.1 x11 x13 x14 x15 x16 x17 o.2.2.2.2.2.2.2.1 x19 x20 o.2.2.2.2.2.2.2.2.1 x37 x38 x59 x60 x61 m1 m2 m6 m7 m8 b.2.2.1 m10 m11 m12 m13 b.2.2.2.1 u0 u1 b.2.2.2.2.1 u3 b.2.2.2.2.2.1 b.2.2.2.2.2.2.1 b.2.2.2.2.2.2.2.1 b.2.2.2.2.2.2.2.2.1 b.2.2.2.2.2.2.2.2.2 u12 u13 u14 u15 u16 u17 u18 := by
  obtain ⟨sz, nt, ne, n, no, d, A, rT, rE, ⟨rfl, rfl⟩, ⟨rfl, rfl⟩, ⟨rfl, rfl⟩, ⟨rfl, rfl⟩, rW, rO, ⟨rfl, rfl, hd⟩, rV, rC, rX, rM, rK⟩ := id R
  obtain ⟨hc, h1, h2, hn, hne, hsy⟩ := id rW
  have hnn := hc.1
  rcases idx p1 n with ⟨i, hi, rfl⟩ | h9
  · obtain ⟨q1, q2⟩ := cl_in hi (show n < 2 ^ 31 by omega)
    obtain ⟨⟨b1, -⟩, -⟩ := hc.2 i hi
    have hw2 := cr_remove hc hi
    obtain ⟨A2, g1, g2, e1, e2, a1, a2, a3⟩ := hear_weave hw2 hn (show 60 < N1 by omega) (show 60 < N2 by omega) x18 m9 x21 m19
    have q7 := x_remove (xT := x6) (xK := x7) (xE := x8) (xF := x9) (xL := x10) hi hnn (show 60 < N1 by omega)
    have q8 := m_remove hi hnn (show 60 < N2 by omega) m9 m0 m19 g2 e2
    unfold f_L_takeBack f_Main_takeBack
    simp only [q1, oB_s, Sum.elim_inl, Sum.elim_inr, if_true, if_neg n10, if_neg sIB, if_neg sAB, if_neg sIA, f_M_no, f_M_isNot, f_M_ok, q7, e1, rg (show i < 40 by omega) (show 40 < 2147483648 by decide)]
    exact ⟨_, _, rfl, q8, ⟨rfl, fun _ => up1 out b1⟩, ⟨sz, nt, ne, n - 1, no, d, A2, rT, rE, ⟨rfl, rfl⟩, ⟨rfl, rfl⟩, ⟨rfl, rfl⟩, ⟨rfl, rfl⟩, ⟨hw2, a1, a2, hn, hne, a3⟩, rO, ⟨rfl, rfl, hd⟩, rV, rC, Or.inl rfl, Or.inl rfl, rK⟩⟩
  · obtain ⟨q1, q2⟩ := cl_out h9 (show n < 2 ^ 31 by omega)
    unfold f_L_takeBack f_Main_takeBack f_M_takeBack
    simp only [q1, q2, oB_s, Sum.elim_inl, Sum.elim_inr, if_true, if_neg n10, if_neg sIB, if_neg sAB, if_neg sIA, f_M_no, f_M_isNot, f_M_ok]
    exact ⟨_, _, rfl, rfl, ⟨rfl, fun h => absurd h n10⟩, R⟩
theorem cs_turnDoubt (R : Rel x0 x1 x2 x3 x4 x5 x6 x7 x8 x9 x10 x11 x13 x14 x15 x16 x17 x18 x19 x20 x21 x37 x38 x59 x60 x61 m1 m2 m6 m7 m8 m9 m10 m11 m12 m13 m19 u0 u1 u2 u3 u7 u8 u9 u10 u11 u12 u13 u14 u15 u16 u17 u18) (out : Nat → Int64) (p1 : Int32) : ∃ o b, f_L_turnDoubt x4 x59 out p1 = some o ∧ f_M_turnDoubt m0 m6 u1 p1 = some b ∧ agB o.1 o.2.2 b.1 b.2.1 ∧ Rel x0 x1 x2 x3 x4 x5 x6 x7 x8 x9 x10 x11 x13 x14 x15 x16 x17 x18 x19 x20 x21 x37 x38 o.2.1 x60 x61 m1 m2 b.2.2 m7 m8 m9 m10 m11 m12 m13 m19 u0 u1 u2 u3 u7 u8 u9 u10 u11 u12 u13 u14 u15 u16 u17 u18 := by
  obtain ⟨sz, nt, ne, n, no, d, A, rT, rE, ⟨rfl, rfl⟩, ⟨rfl, rfl⟩, ⟨rfl, rfl⟩, ⟨rfl, rfl⟩, rW, rO, ⟨rfl, rfl, hd⟩, rV, rC, rX, rM, rK⟩ := id R
  obtain ⟨hc, h1, h2, hn, hne, hsy⟩ := id rW
  have hnn := hc.1
  rcases idx p1 nt with ⟨i, hi, rfl⟩ | h9
  · obtain ⟨q1, q2⟩ := te_in hi (show nt < 2 ^ 31 by omega)
    have hp : 2 ^ i < 1024 := (Nat.pow_lt_pow_right (by decide) (show i < 10 by omega) : 2 ^ i < 2 ^ 10)
    have hd2 : d ^^^ 2 ^ i < 1024 := xor_lt (n := 10) hd hp
    unfold f_L_turnDoubt f_Main_turnDoubt f_M_turnDoubt
    simp only [q1, q2, oB_s, Sum.elim_inl, Sum.elim_inr, if_true, if_neg n10, if_neg sIB, if_neg sAB, if_neg sIA, f_M_no, f_M_isNot, f_M_ok, has_same, q_bit i (show i < 32 by omega), q_xor]
    rcases has01 (nI (d ^^^ 2 ^ i)) (nI i) with h | h
    · simp only [h, oB_s, Sum.elim_inl, Sum.elim_inr, if_true, if_neg n10, if_neg sIB, if_neg sAB, if_neg sIA, f_M_no, f_M_isNot, f_M_ok]
      exact ⟨_, _, rfl, rfl, ⟨rfl, Or.inl rfl, fun _ => up0 out _⟩, ⟨sz, nt, ne, n, no, d ^^^ 2 ^ i, A, rT, rE, ⟨rfl, rfl⟩, ⟨rfl, rfl⟩, ⟨rfl, rfl⟩, ⟨rfl, rfl⟩, rW, rO, ⟨rfl, rfl, hd2⟩, rV, rC, rX, rM, rK⟩⟩
    · simp only [h, oB_s, Sum.elim_inl, Sum.elim_inr, if_true, if_neg n10, if_neg sIB, if_neg sAB, if_neg sIA, f_M_no, f_M_isNot, f_M_ok]
      exact ⟨_, _, rfl, rfl, ⟨rfl, Or.inr rfl, fun _ => up0 out _⟩, ⟨sz, nt, ne, n, no, d ^^^ 2 ^ i, A, rT, rE, ⟨rfl, rfl⟩, ⟨rfl, rfl⟩, ⟨rfl, rfl⟩, ⟨rfl, rfl⟩, rW, rO, ⟨rfl, rfl, hd2⟩, rV, rC, rX, rM, rK⟩⟩
  · obtain ⟨q1, q2⟩ := te_out h9 (show nt < 2 ^ 31 by omega)
    unfold f_L_turnDoubt f_Main_turnDoubt f_M_turnDoubt
    simp only [q1, q2, oB_s, Sum.elim_inl, Sum.elim_inr, if_true, if_neg n10, if_neg sIB, if_neg sAB, if_neg sIA, f_M_no, f_M_isNot, f_M_ok, show zB (0 : Int32) = true from rfl]
    exact ⟨_, _, rfl, rfl, ⟨rfl, Or.inl rfl, fun h => absurd h n10⟩, R⟩
theorem cs_passEvenings (R : Rel x0 x1 x2 x3 x4 x5 x6 x7 x8 x9 x10 x11 x13 x14 x15 x16 x17 x18 x19 x20 x21 x37 x38 x59 x60 x61 m1 m2 m6 m7 m8 m9 m10 m11 m12 m13 m19 u0 u1 u2 u3 u7 u8 u9 u10 u11 u12 u13 u14 u15 u16 u17 u18) {N1 : Nat} (hN1 : 5000 < N1) {N2 : Nat} (hN2 : 5000 < N2) (out : Nat → Int64) (p1 : Int32) : ∃ o b, f_L_passEvenings N1 x4 x5 x6 x7 x8 x9 x10 x11 x13 x14 x15 x16 x17 x18 x19 x20 x21 x58 x59 x60 x61 x62 out p1 = some o ∧ f_M_passEvenings N2 m0 m6 m7 m8 m9 m10 m11 m12 m19 m21 u1 u2 u3 u7 u8 u9 u10 u11 u12 u13 u14 u15 u16 u17 u18 p1 = some b ∧ agI o.1 o.2.2.2.2.2.2.2.2.2 b.1 b.2.1 ∧ Rel x0 x1 x2 x3 x4 x5 x6 x7 x8 x9 x10 x11 x13 x14 x15 x16 x17 o.2.1 o.2.2.1 o.2.2.2.1 x21 x37 x38 o.2.2.2.2.2.1 o.2.2.2.2.2.2.1 o.2.2.2.2.2.2.2.1 m1 m2 b.2.2.1 b.2.2.2.1 b.2.2.2.2.1 b.2.2.2.2.2.1 b.2.2.2.2.2.2.1 b.2.2.2.2.2.2.2.1 b.2.2.2.2.2.2.2.2.1 m13 m19 u0 u1 u2 u3 u7 u8 u9 u10 u11 u12 u13 u14 u15 u16 u17 u18 := by
  obtain ⟨sz, nt, ne, n, no, d, A, rT, rE, ⟨rfl, rfl⟩, ⟨rfl, rfl⟩, ⟨rfl, rfl⟩, ⟨rfl, rfl⟩, rW, rO, ⟨rfl, rfl, hd⟩, rV, rC, rX, rM, rK⟩ := id R
  obtain ⟨hc, h1, h2, hn, hne, hsy⟩ := id rW
  have hnn := hc.1
  subst rV rC
  rcases ev_cases p1 with ⟨q1, q2⟩ | ⟨k, hk, rfl, q1, q2⟩
  · unfold f_L_passEvenings f_Main_passEvenings f_M_passEvenings
    simp only [q1, q2, oB_s, Sum.elim_inl, Sum.elim_inr, if_true, if_neg n10, if_neg sIB, if_neg sAB, if_neg sIA, f_M_no, f_M_isNot, f_M_ok]
    exact ⟨_, _, rfl, rfl, ⟨rfl, fun h => absurd h n10⟩, R⟩
  · obtain ⟨d2, ev2, cr2, j2, l2, c2, top2, xs2, mj2, ml2, mf2, mc2, ms2, r1, r2, r3, r4, r5⟩ := passE rW rO hd (show 2000 < N1 by omega) (show 2000 < N2 by omega) rX rM x60 x61 x58 x62 m21 hk
    unfold f_L_passEvenings f_Main_passEvenings f_M_passEvenings
    simp only [q1, q2, oB_s, Sum.elim_inl, Sum.elim_inr, if_true, if_neg n10, if_neg sIB, if_neg sAB, if_neg sIA, f_M_no, f_M_isNot, f_M_ok, r2, r4]
    exact ⟨_, _, rfl, rfl, ⟨rfl, fun _ => up0 out _⟩, ⟨sz, nt, ne, n, no, d2, A, rT, rE, ⟨rfl, rfl⟩, ⟨rfl, rfl⟩, ⟨rfl, rfl⟩, ⟨rfl, rfl⟩, rW, rO, ⟨rfl, rfl, r1⟩, rfl, rfl, r3, r5, rK⟩⟩
theorem cs_liarsAfter (R : Rel x0 x1 x2 x3 x4 x5 x6 x7 x8 x9 x10 x11 x13 x14 x15 x16 x17 x18 x19 x20 x21 x37 x38 x59 x60 x61 m1 m2 m6 m7 m8 m9 m10 m11 m12 m13 m19 u0 u1 u2 u3 u7 u8 u9 u10 u11 u12 u13 u14 u15 u16 u17 u18) {N1 : Nat} (hN1 : 5000 < N1) {N2 : Nat} (hN2 : 5000 < N2) (out : Nat → Int64) (p1 : Int32) : ∃ o b, f_L_liarsAfter N1 x4 x5 x6 x7 x8 x9 x10 x11 x13 x14 x15 x16 x17 x18 x19 x20 x21 x59 x60 x61 x63 x64 x65 x66 x67 out p1 = some o ∧ f_M_liarsAfter N2 m0 m6 m7 m8 m9 m10 m11 m12 m19 m21 u1 u2 u3 u7 u8 u9 u10 u11 u12 u13 u14 u15 u16 u17 u18 p1 = some b ∧ agI o.1 o.2.2.2.2.2.2.2.2.2 b.1 b.2.1 ∧ Rel x0 x1 x2 x3 x4 x5 x6 x7 x8 x9 x10 x11 x13 x14 x15 x16 x17 o.2.1 o.2.2.1 o.2.2.2.1 x21 x37 x38 x59 x60 x61 m1 m2 b.2.2.1 b.2.2.2.1 b.2.2.2.2.1 b.2.2.2.2.2.1 b.2.2.2.2.2.2.1 b.2.2.2.2.2.2.2.1 b.2.2.2.2.2.2.2.2.1 m13 m19 u0 u1 u2 u3 u7 u8 u9 u10 u11 u12 u13 u14 u15 u16 u17 u18 := by
  obtain ⟨sz, nt, ne, n, no, d, A, rT, rE, ⟨rfl, rfl⟩, ⟨rfl, rfl⟩, ⟨rfl, rfl⟩, ⟨rfl, rfl⟩, rW, rO, ⟨rfl, rfl, hd⟩, rV, rC, rX, rM, rK⟩ := id R
  obtain ⟨hc, h1, h2, hn, hne, hsy⟩ := id rW
  have hnn := hc.1
  subst rV rC
  rcases ev_cases p1 with ⟨q1, q2⟩ | ⟨k, hk, rfl, q1, q2⟩
  · unfold f_L_liarsAfter f_Main_liarsAfter f_M_liarsAfter
    simp only [q1, q2, oB_s, Sum.elim_inl, Sum.elim_inr, if_true, if_neg n10, if_neg sIB, if_neg sAB, if_neg sIA, f_M_no, f_M_isNot, f_M_ok]
    exact ⟨_, _, rfl, rfl, ⟨rfl, fun h => absurd h n10⟩, R⟩
  · obtain ⟨d2, ev2, cr2, top2, xs2, mj2, ml2, mf2, mc2, ms2, r1, r2, r4, r5⟩ := passL rW rO hd (show 2000 < N1 by omega) (show 2000 < N2 by omega) rX rM x60 x61 x63 x67 m21 hk
    unfold f_L_liarsAfter f_Main_liarsAfter f_M_liarsAfter f_Co_copyFrom f_M_goBack
    simp only [q1, q2, oB_s, Sum.elim_inl, Sum.elim_inr, if_true, if_neg n10, if_neg sIB, if_neg sAB, if_neg sIA, f_M_no, f_M_isNot, f_M_ok, r2, r4, m_liars h2 hn hsy r1 r5 (show 2000 < N2 by omega)]
    exact ⟨_, _, rfl, rfl, ⟨rfl, fun _ => up0 out _⟩, ⟨sz, nt, ne, n, no, d, A, rT, rE, ⟨rfl, rfl⟩, ⟨rfl, rfl⟩, ⟨rfl, rfl⟩, ⟨rfl, rfl⟩, rW, rO, ⟨rfl, rfl, hd⟩, rfl, rfl, xc_at r1, mc_at r1, rK⟩⟩
theorem cs_eveningsUntilOneStory (R : Rel x0 x1 x2 x3 x4 x5 x6 x7 x8 x9 x10 x11 x13 x14 x15 x16 x17 x18 x19 x20 x21 x37 x38 x59 x60 x61 m1 m2 m6 m7 m8 m9 m10 m11 m12 m13 m19 u0 u1 u2 u3 u7 u8 u9 u10 u11 u12 u13 u14 u15 u16 u17 u18) {N1 : Nat} (hN1 : 5000 < N1) {N2 : Nat} (hN2 : 5000 < N2) : ∃ o b, f_Main_eveningsUntilOneStory N1 x4 x5 x6 x7 x8 x9 x10 x11 x13 x14 x15 x16 x17 x18 x19 x20 x21 x59 x60 x61 x63 x64 x65 x66 x67 = some o ∧ f_M_eveningsUntilOneStory N2 m0 m6 m7 m8 m9 m10 m11 m12 m19 m21 u1 u2 u3 u7 u8 u9 u10 u11 u12 u13 u14 u15 u16 u17 u18 = some b ∧ o.1 = b.1 ∧ Rel x0 x1 x2 x3 x4 x5 x6 x7 x8 x9 x10 x11 x13 x14 x15 x16 x17 o.2.1 o.2.2.1 o.2.2.2.1 x21 x37 x38 x59 x60 x61 m1 m2 b.2.2.1 b.2.2.2.1 b.2.2.2.2.1 b.2.2.2.2.2.1 b.2.2.2.2.2.2.1 b.2.2.2.2.2.2.2.1 b.2.2.2.2.2.2.2.2.1 m13 m19 u0 u1 u2 u3 u7 u8 u9 u10 u11 u12 u13 u14 u15 u16 u17 u18 := by
  obtain ⟨sz, nt, ne, n, no, d, A, rT, rE, ⟨rfl, rfl⟩, ⟨rfl, rfl⟩, ⟨rfl, rfl⟩, ⟨rfl, rfl⟩, rW, rO, ⟨rfl, rfl, hd⟩, rV, rC, rX, rM, rK⟩ := id R
  obtain ⟨hc, h1, h2, hn, hne, hsy⟩ := id rW
  have hnn := hc.1
  subst rV rC
  obtain ⟨v, j2, l2, c2, top2, d2, ev2, cr2, xs2, mj2, ml2, mf2, mc2, ms2, r1, r2, r3, r4⟩ := untilS rW rO hd (show 2000 < N1 by omega) (show 2000 < N2 by omega) rX rM x60 x61 x63 x64 x65 x66 m0 x67 m21
  exact ⟨_, _, r1, r3, rfl, ⟨sz, nt, ne, n, no, d, A, rT, rE, ⟨rfl, rfl⟩, ⟨rfl, rfl⟩, ⟨rfl, rfl⟩, ⟨rfl, rfl⟩, rW, rO, ⟨rfl, rfl, hd⟩, rfl, rfl, r2, r4, rK⟩⟩
theorem cs_bestToDoubt (R : Rel x0 x1 x2 x3 x4 x5 x6 x7 x8 x9 x10 x11 x13 x14 x15 x16 x17 x18 x19 x20 x21 x37 x38 x59 x60 x61 m1 m2 m6 m7 m8 m9 m10 m11 m12 m13 m19 u0 u1 u2 u3 u7 u8 u9 u10 u11 u12 u13 u14 u15 u16 u17 u18) {N1 : Nat} (hN1 : 5000 < N1) {N2 : Nat} (hN2 : 5000 < N2) : ∃ o b, f_Main_bestToDoubt N1 x4 x21 x59 = some o ∧ f_M_bestToDoubt N2 m0 m6 m19 u1 = some b ∧ o = b.1 ∧ Rel x0 x1 x2 x3 x4 x5 x6 x7 x8 x9 x10 x11 x13 x14 x15 x16 x17 x18 x19 x20 x21 x37 x38 x59 x60 x61 m1 m2 m6 m7 m8 m9 m10 m11 m12 m13 m19 u0 u1 u2 u3 u7 u8 u9 u10 u11 u12 u13 u14 u15 u16 u17 u18 := by
  obtain ⟨sz, nt, ne, n, no, d, A, rT, rE, ⟨rfl, rfl⟩, ⟨rfl, rfl⟩, ⟨rfl, rfl⟩, ⟨rfl, rfl⟩, rW, rO, ⟨rfl, rfl, hd⟩, rV, rC, rX, rM, rK⟩ := id R
  obtain ⟨hc, h1, h2, hn, hne, hsy⟩ := id rW
  have hnn := hc.1
  obtain ⟨v, r1, r2⟩ := bestS (d := d) h1 h2 hn hsy (show 2000 < N1 by omega) (show 2000 < N2 by omega) m0
  exact ⟨_, _, r1, r2, rfl, R⟩
theorem cs_meanClaims (R : Rel x0 x1 x2 x3 x4 x5 x6 x7 x8 x9 x10 x11 x13 x14 x15 x16 x17 x18 x19 x20 x21 x37 x38 x59 x60 x61 m1 m2 m6 m7 m8 m9 m10 m11 m12 m13 m19 u0 u1 u2 u3 u7 u8 u9 u10 u11 u12 u13 u14 u15 u16 u17 u18) : ∃ o b, f_Main_meanClaims x4 x5 = some o ∧ f_M_meanClaims m0 u1 u2 = some b ∧ o = b.1 ∧ Rel x0 x1 x2 x3 x4 x5 x6 x7 x8 x9 x10 x11 x13 x14 x15 x16 x17 x18 x19 x20 x21 x37 x38 x59 x60 x61 m1 m2 m6 m7 m8 m9 m10 m11 m12 m13 m19 u0 u1 u2 u3 u7 u8 u9 u10 u11 u12 u13 u14 u15 u16 u17 u18 := by
  obtain ⟨sz, nt, ne, n, no, d, A, rT, rE, ⟨rfl, rfl⟩, ⟨rfl, rfl⟩, ⟨rfl, rfl⟩, ⟨rfl, rfl⟩, rW, rO, ⟨rfl, rfl, hd⟩, rV, rC, rX, rM, rK⟩ := id R
  obtain ⟨hc, h1, h2, hn, hne, hsy⟩ := id rW
  have hnn := hc.1
  unfold f_Main_meanClaims f_M_meanClaims
  by_cases h : nt = 0
  · subst h
    simp only [show ¬ (0 : Int32) < nI 0 by decide, show nI 0 = 0 from rfl, if_true, if_false]
    exact ⟨_, _, rfl, rfl, rfl, R⟩
  · have z1 : (0 : Int32) < nI nt := nI_lt (a := 0) (by omega) (by omega)
    have z2 : ¬ nI nt = 0 := nI_ne0 (by omega) (by omega)
    simp only [if_pos z1, if_neg z2, mean_ok nt (by omega) (by omega) n (by omega), if_true]
    exact ⟨_, _, rfl, rfl, rfl, R⟩
theorem cs_digest (R : Rel x0 x1 x2 x3 x4 x5 x6 x7 x8 x9 x10 x11 x13 x14 x15 x16 x17 x18 x19 x20 x21 x37 x38 x59 x60 x61 m1 m2 m6 m7 m8 m9 m10 m11 m12 m13 m19 u0 u1 u2 u3 u7 u8 u9 u10 u11 u12 u13 u14 u15 u16 u17 u18) {N1 : Nat} (hN1 : 5000 < N1) {N2 : Nat} (hN2 : 5000 < N2) : ∃ o b, f_Main_digest N1 x3 x4 x5 x6 x7 x8 x9 x10 x18 x19 x20 x21 x22 x23 x59 x60 x61 = some o ∧ f_M_digest N2 m0 m6 m7 m8 m9 m10 m11 m12 m19 m20 u0 u1 u2 u7 u8 u9 u10 u11 = some b ∧ o.1 = b.1 ∧ Rel x0 x1 x2 x3 x4 x5 x6 x7 x8 x9 x10 x11 x13 x14 x15 x16 x17 o.2.1 o.2.2.1 o.2.2.2.1 x21 x37 x38 x59 x60 x61 m1 m2 m6 m7 m8 b.2.2.1 b.2.2.2.1 b.2.2.2.2.1 b.2.2.2.2.2.1 m13 m19 u0 u1 u2 u3 u7 u8 u9 u10 u11 u12 u13 u14 u15 u16 u17 u18 := by
  obtain ⟨sz, nt, ne, n, no, d, A, rT, rE, ⟨rfl, rfl⟩, ⟨rfl, rfl⟩, ⟨rfl, rfl⟩, ⟨rfl, rfl⟩, rW, rO, ⟨rfl, rfl, hd⟩, rV, rC, rX, rM, rK⟩ := id R
  obtain ⟨hc, h1, h2, hn, hne, hsy⟩ := id rW
  have hnn := hc.1
  subst rV rC
  obtain ⟨v, a2, o2, mj2, ml2, mf2, mc2, r2, e1, e2, e3⟩ := dig_same rW hd (show 2000 < N1 by omega) (show 2000 < N2 by omega) rX rM x22 x23 m20 x60 x61 m0
  exact ⟨_, _, e1, e2, rfl, ⟨sz, nt, ne, n, no, d, A, rT, rE, ⟨rfl, rfl⟩, ⟨rfl, rfl⟩, ⟨rfl, rfl⟩, ⟨rfl, rfl⟩, rW, rO, ⟨rfl, rfl, hd⟩, rfl, rfl, xc_at hd, e3, rK⟩⟩
theorem cs_feed (R : Rel x0 x1 x2 x3 x4 x5 x6 x7 x8 x9 x10 x11 x13 x14 x15 x16 x17 x18 x19 x20 x21 x37 x38 x59 x60 x61 m1 m2 m6 m7 m8 m9 m10 m11 m12 m13 m19 u0 u1 u2 u3 u7 u8 u9 u10 u11 u12 u13 u14 u15 u16 u17 u18) {N1 : Nat} (hN1 : 5000 < N1) {N2 : Nat} (hN2 : 5000 < N2) (out : Nat → Int64) (p1 p2 p3 p4 p5 : Int32) : ∃ o b, f_L_feed N1 x0 x2 out p1 p2 p3 p4 p5 = some o ∧ f_M_feed N2 m0 m1 m13 p1 p2 p3 p4 p5 = some b ∧ agI o.1 o.2.2.2 b.1 b.2.1 ∧ Rel o.2.1 x1 o.2.2.1 x3 x4 x5 x6 x7 x8 x9 x10 x11 x13 x14 x15 x16 x17 x18 x19 x20 x21 x37 x38 x59 x60 x61 b.2.2.1 m2 m6 m7 m8 m9 m10 m11 m12 b.2.2.2 m19 u0 u1 u2 u3 u7 u8 u9 u10 u11 u12 u13 u14 u15 u16 u17 u18 := by
  obtain ⟨sz, nt, ne, n, no, d, A, rT, rE, ⟨rfl, rfl⟩, ⟨rfl, rfl⟩, ⟨rfl, rfl⟩, ⟨rfl, rfl⟩, rW, rO, ⟨rfl, rfl, hd⟩, rV, rC, rX, rM, rK⟩ := id R
  obtain ⟨hc, h1, h2, hn, hne, hsy⟩ := id rW
  have hnn := hc.1
  obtain ⟨rfl, rfl, hsz, hbt⟩ := rT
  by_cases hf : sz + 20 ≤ 2000
  · obtain ⟨t2, e1, e2⟩ := x_feed hf (show 5 < N1 by omega) x2 p1 p2 p3 p4 p5
    have e3 := m_feed hf (show 60 < N2 by omega) m0 m13 p1 p2 p3 p4 p5
    unfold f_L_feed
    simp only [e1, oB_s, Sum.elim_inl, Sum.elim_inr, if_true, if_neg n10, if_neg sIB, if_neg sAB, if_neg sIA, f_M_no, f_M_isNot, f_M_ok]
    refine ⟨_, _, rfl, e3, ⟨rfl, fun _ => up0 out _⟩, ⟨sz + 20, nt, ne, n, no, d, A, ⟨rfl, rfl, hf, fun j hj => ?_⟩, rE, ⟨rfl, rfl⟩, ⟨rfl, rfl⟩, ⟨rfl, rfl⟩, ⟨rfl, rfl⟩, rW, rO, ⟨rfl, rfl, hd⟩, rV, rC, rX, rM, rK⟩⟩
    show t2 j = fed p1 p2 p3 p4 p5 sz 20 m13 j ∧ _
    rw [e2 j]
    exact fed_byte p1 p2 p3 p4 p5 hbt hj
  · have h1 : ¬ (nI sz + 20 : Int32) ≤ 2000 := by
      rw [show (nI sz + 20 : Int32) = nI (sz + 20) from nI_add sz 20]
      exact nI_ge (a := 2000) (by omega) (by omega)
    have h2 : ¬ nI sz ≤ 1980 := nI_ge (a := 1980) (by omega) (by omega)
    unfold f_L_feed f_Main_feed f_M_feed
    simp only [if_neg h1, if_neg h2, oB_s, Sum.elim_inl, Sum.elim_inr, if_true, if_neg n10, if_neg sIB, if_neg sAB, if_neg sIA, f_M_no, f_M_isNot, f_M_ok]
    exact ⟨_, _, rfl, rfl, ⟨rfl, fun h => absurd h n10⟩, R⟩
theorem cs_trim (R : Rel x0 x1 x2 x3 x4 x5 x6 x7 x8 x9 x10 x11 x13 x14 x15 x16 x17 x18 x19 x20 x21 x37 x38 x59 x60 x61 m1 m2 m6 m7 m8 m9 m10 m11 m12 m13 m19 u0 u1 u2 u3 u7 u8 u9 u10 u11 u12 u13 u14 u15 u16 u17 u18) (out : Nat → Int64) (p1 : Int32) : ∃ o b, f_L_trim x0 out p1 = some o ∧ f_M_trim m0 m1 p1 = some b ∧ agI o.1 o.2.2 b.1 b.2.1 ∧ Rel o.2.1 x1 x2 x3 x4 x5 x6 x7 x8 x9 x10 x11 x13 x14 x15 x16 x17 x18 x19 x20 x21 x37 x38 x59 x60 x61 b.2.2 m2 m6 m7 m8 m9 m10 m11 m12 m13 m19 u0 u1 u2 u3 u7 u8 u9 u10 u11 u12 u13 u14 u15 u16 u17 u18 := by
  obtain ⟨sz, nt, ne, n, no, d, A, rT, rE, ⟨rfl, rfl⟩, ⟨rfl, rfl⟩, ⟨rfl, rfl⟩, ⟨rfl, rfl⟩, rW, rO, ⟨rfl, rfl, hd⟩, rV, rC, rX, rM, rK⟩ := id R
  obtain ⟨hc, h1, h2, hn, hne, hsy⟩ := id rW
  have hnn := hc.1
  obtain ⟨rfl, rfl, hsz, hbt⟩ := rT
  unfold f_L_trim f_Main_trim f_M_trim f_M_isIn
  by_cases hp : p1 < 0
  · simp only [if_pos hp, oB_s, Sum.elim_inl, Sum.elim_inr, if_true, if_neg n10, if_neg sIB, if_neg sAB, if_neg sIA, f_M_no, f_M_isNot, f_M_ok]
    exact ⟨_, _, rfl, rfl, ⟨rfl, fun h => absurd h n10⟩, R⟩
  · obtain ⟨k, hk, rfl⟩ := nI_of hp
    by_cases hs : k ≤ sz
    · simp only [if_neg hp, if_pos (nI_le hs (show sz < 2 ^ 31 by omega)), if_neg (nI_nlt hs (show sz < 2 ^ 31 by omega)), oB_s, Sum.elim_inl, Sum.elim_inr, if_true, if_neg n10, if_neg sIB, if_neg sAB, if_neg sIA, f_M_no, f_M_isNot, f_M_ok]
      exact ⟨_, _, rfl, rfl, ⟨rfl, fun _ => up0 out _⟩, ⟨k, nt, ne, n, no, d, A, ⟨rfl, rfl, (by omega : k ≤ 2000), fun j hj => hbt j (by omega)⟩, rE, ⟨rfl, rfl⟩, ⟨rfl, rfl⟩, ⟨rfl, rfl⟩, ⟨rfl, rfl⟩, rW, rO, ⟨rfl, rfl, hd⟩, rV, rC, rX, rM, rK⟩⟩
    · simp only [if_neg hp, if_neg (nI_ge (show sz < k by omega) hk), if_pos (nI_lt (show sz < k by omega) hk), oB_s, Sum.elim_inl, Sum.elim_inr, if_true, if_neg n10, if_neg sIB, if_neg sAB, if_neg sIA, f_M_no, f_M_isNot, f_M_ok]
      exact ⟨_, _, rfl, rfl, ⟨rfl, fun h => absurd h n10⟩, R⟩
end CA
