/-! the calls of the law: both sides answer alike -/
section CA
variable {x0 x1 x3 x4 x5 x11 x12 x18 x19 x20 x24 x25 x26 x27 x28 x29 x30 x31 x37 x39 x40 x41 x47 x48 x54 x56 x58 x59 x60 x61 x63 x64 x65 x66 m0 m1 m2 m3 m4 m5 m6 m7 m8 m9 m10 m11 m12 u0 u1 u2 u3 u4 : Int32}
variable {x2 x6 x7 x8 x9 x10 x13 x14 x15 x16 x17 x21 x22 x23 x33 x34 x35 x42 x43 x44 x45 x46 x49 x50 x51 x52 x53 x62 x67 m13 m14 m15 m16 m18 m19 m20 m21 u7 u8 u9 u10 u11 u12 u13 u14 u15 u16 u17 u18 : Nat → Int32}
variable {x32 : Int64}
variable {x36 x38 x55 x57 m17 u5 u6 : Nat → Int64}
theorem cs_errorAt (R : Rel x0 x1 x2 x3 x4 x5 x6 x7 x8 x9 x10 x11 x13 x14 x15 x16 x17 x18 x19 x20 x21 x37 x38 x59 x60 x61 m1 m2 m6 m7 m8 m9 m10 m11 m12 m13 m19 u0 u1 u2 u3 u7 u8 u9 u10 u11 u12 u13 u14 u15 u16 u17 u18) : ∃ o b, f_Main_errorAt x1 = o ∧ f_M_errorAt m0 m2 = some b ∧ o = b.1 ∧ Rel x0 x1 x2 x3 x4 x5 x6 x7 x8 x9 x10 x11 x13 x14 x15 x16 x17 x18 x19 x20 x21 x37 x38 x59 x60 x61 m1 m2 m6 m7 m8 m9 m10 m11 m12 m13 m19 u0 u1 u2 u3 u7 u8 u9 u10 u11 u12 u13 u14 u15 u16 u17 u18 := by
  obtain ⟨sz, nt, ne, n, no, d, A, rT, rE, ⟨rfl, rfl⟩, ⟨rfl, rfl⟩, ⟨rfl, rfl⟩, ⟨rfl, rfl⟩, rW, rO, ⟨rfl, rfl, hd⟩, rV, rC, rX, rM, rK⟩ := id R
  obtain ⟨hc, h1, h2, hn, hne, hsy⟩ := id rW
  have hnn := hc.1
  exact ⟨_, _, rfl, rfl, rE, R⟩
theorem cs_events (R : Rel x0 x1 x2 x3 x4 x5 x6 x7 x8 x9 x10 x11 x13 x14 x15 x16 x17 x18 x19 x20 x21 x37 x38 x59 x60 x61 m1 m2 m6 m7 m8 m9 m10 m11 m12 m13 m19 u0 u1 u2 u3 u7 u8 u9 u10 u11 u12 u13 u14 u15 u16 u17 u18) : ∃ o b, f_Main_events x3 = o ∧ f_M_events m0 u0 = some b ∧ o = b.1 ∧ Rel x0 x1 x2 x3 x4 x5 x6 x7 x8 x9 x10 x11 x13 x14 x15 x16 x17 x18 x19 x20 x21 x37 x38 x59 x60 x61 m1 m2 m6 m7 m8 m9 m10 m11 m12 m13 m19 u0 u1 u2 u3 u7 u8 u9 u10 u11 u12 u13 u14 u15 u16 u17 u18 := by
  obtain ⟨sz, nt, ne, n, no, d, A, rT, rE, ⟨rfl, rfl⟩, ⟨rfl, rfl⟩, ⟨rfl, rfl⟩, ⟨rfl, rfl⟩, rW, rO, ⟨rfl, rfl, hd⟩, rV, rC, rX, rM, rK⟩ := id R
  obtain ⟨hc, h1, h2, hn, hne, hsy⟩ := id rW
  have hnn := hc.1
  exact ⟨_, _, rfl, rfl, rfl, R⟩
theorem cs_tellers (R : Rel x0 x1 x2 x3 x4 x5 x6 x7 x8 x9 x10 x11 x13 x14 x15 x16 x17 x18 x19 x20 x21 x37 x38 x59 x60 x61 m1 m2 m6 m7 m8 m9 m10 m11 m12 m13 m19 u0 u1 u2 u3 u7 u8 u9 u10 u11 u12 u13 u14 u15 u16 u17 u18) : ∃ o b, f_Main_tellers x4 = o ∧ f_M_tellers m0 u1 = some b ∧ o = b.1 ∧ Rel x0 x1 x2 x3 x4 x5 x6 x7 x8 x9 x10 x11 x13 x14 x15 x16 x17 x18 x19 x20 x21 x37 x38 x59 x60 x61 m1 m2 m6 m7 m8 m9 m10 m11 m12 m13 m19 u0 u1 u2 u3 u7 u8 u9 u10 u11 u12 u13 u14 u15 u16 u17 u18 := by
  obtain ⟨sz, nt, ne, n, no, d, A, rT, rE, ⟨rfl, rfl⟩, ⟨rfl, rfl⟩, ⟨rfl, rfl⟩, ⟨rfl, rfl⟩, rW, rO, ⟨rfl, rfl, hd⟩, rV, rC, rX, rM, rK⟩ := id R
  obtain ⟨hc, h1, h2, hn, hne, hsy⟩ := id rW
  have hnn := hc.1
  exact ⟨_, _, rfl, rfl, rfl, R⟩
theorem cs_claims (R : Rel x0 x1 x2 x3 x4 x5 x6 x7 x8 x9 x10 x11 x13 x14 x15 x16 x17 x18 x19 x20 x21 x37 x38 x59 x60 x61 m1 m2 m6 m7 m8 m9 m10 m11 m12 m13 m19 u0 u1 u2 u3 u7 u8 u9 u10 u11 u12 u13 u14 u15 u16 u17 u18) : ∃ o b, f_Main_claims x5 = o ∧ f_M_claims m0 u2 = some b ∧ o = b.1 ∧ Rel x0 x1 x2 x3 x4 x5 x6 x7 x8 x9 x10 x11 x13 x14 x15 x16 x17 x18 x19 x20 x21 x37 x38 x59 x60 x61 m1 m2 m6 m7 m8 m9 m10 m11 m12 m13 m19 u0 u1 u2 u3 u7 u8 u9 u10 u11 u12 u13 u14 u15 u16 u17 u18 := by
  obtain ⟨sz, nt, ne, n, no, d, A, rT, rE, ⟨rfl, rfl⟩, ⟨rfl, rfl⟩, ⟨rfl, rfl⟩, ⟨rfl, rfl⟩, rW, rO, ⟨rfl, rfl, hd⟩, rV, rC, rX, rM, rK⟩ := id R
  obtain ⟨hc, h1, h2, hn, hne, hsy⟩ := id rW
  have hnn := hc.1
  exact ⟨_, _, rfl, rfl, rfl, R⟩
theorem cs_evenings (R : Rel x0 x1 x2 x3 x4 x5 x6 x7 x8 x9 x10 x11 x13 x14 x15 x16 x17 x18 x19 x20 x21 x37 x38 x59 x60 x61 m1 m2 m6 m7 m8 m9 m10 m11 m12 m13 m19 u0 u1 u2 u3 u7 u8 u9 u10 u11 u12 u13 u14 u15 u16 u17 u18) : ∃ o b, f_Main_evenings x60 = o ∧ f_M_evenings m0 m7 = some b ∧ o = b.1 ∧ Rel x0 x1 x2 x3 x4 x5 x6 x7 x8 x9 x10 x11 x13 x14 x15 x16 x17 x18 x19 x20 x21 x37 x38 x59 x60 x61 m1 m2 m6 m7 m8 m9 m10 m11 m12 m13 m19 u0 u1 u2 u3 u7 u8 u9 u10 u11 u12 u13 u14 u15 u16 u17 u18 := by
  obtain ⟨sz, nt, ne, n, no, d, A, rT, rE, ⟨rfl, rfl⟩, ⟨rfl, rfl⟩, ⟨rfl, rfl⟩, ⟨rfl, rfl⟩, rW, rO, ⟨rfl, rfl, hd⟩, rV, rC, rX, rM, rK⟩ := id R
  obtain ⟨hc, h1, h2, hn, hne, hsy⟩ := id rW
  have hnn := hc.1
  exact ⟨_, _, rfl, rfl, rV, R⟩
theorem cs_ordersCarriedOut (R : Rel x0 x1 x2 x3 x4 x5 x6 x7 x8 x9 x10 x11 x13 x14 x15 x16 x17 x18 x19 x20 x21 x37 x38 x59 x60 x61 m1 m2 m6 m7 m8 m9 m10 m11 m12 m13 m19 u0 u1 u2 u3 u7 u8 u9 u10 u11 u12 u13 u14 u15 u16 u17 u18) : ∃ o b, f_Main_ordersCarriedOut x61 = o ∧ f_M_ordersCarriedOut m0 m8 = some b ∧ o = b.1 ∧ Rel x0 x1 x2 x3 x4 x5 x6 x7 x8 x9 x10 x11 x13 x14 x15 x16 x17 x18 x19 x20 x21 x37 x38 x59 x60 x61 m1 m2 m6 m7 m8 m9 m10 m11 m12 m13 m19 u0 u1 u2 u3 u7 u8 u9 u10 u11 u12 u13 u14 u15 u16 u17 u18 := by
  obtain ⟨sz, nt, ne, n, no, d, A, rT, rE, ⟨rfl, rfl⟩, ⟨rfl, rfl⟩, ⟨rfl, rfl⟩, ⟨rfl, rfl⟩, rW, rO, ⟨rfl, rfl, hd⟩, rV, rC, rX, rM, rK⟩ := id R
  obtain ⟨hc, h1, h2, hn, hne, hsy⟩ := id rW
  have hnn := hc.1
  exact ⟨_, _, rfl, rfl, rC, R⟩
theorem cs_tellerOf (R : Rel x0 x1 x2 x3 x4 x5 x6 x7 x8 x9 x10 x11 x13 x14 x15 x16 x17 x18 x19 x20 x21 x37 x38 x59 x60 x61 m1 m2 m6 m7 m8 m9 m10 m11 m12 m13 m19 u0 u1 u2 u3 u7 u8 u9 u10 u11 u12 u13 u14 u15 u16 u17 u18) (out : Nat → Int64) (p1 : Int32) : ∃ o b, f_L_tellerOf x5 x6 out p1 = some o ∧ f_M_tellerOf m0 u2 u8 p1 = some b ∧ agI o.1 o.2 b.1 b.2 ∧ Rel x0 x1 x2 x3 x4 x5 x6 x7 x8 x9 x10 x11 x13 x14 x15 x16 x17 x18 x19 x20 x21 x37 x38 x59 x60 x61 m1 m2 m6 m7 m8 m9 m10 m11 m12 m13 m19 u0 u1 u2 u3 u7 u8 u9 u10 u11 u12 u13 u14 u15 u16 u17 u18 := by
  obtain ⟨sz, nt, ne, n, no, d, A, rT, rE, ⟨rfl, rfl⟩, ⟨rfl, rfl⟩, ⟨rfl, rfl⟩, ⟨rfl, rfl⟩, rW, rO, ⟨rfl, rfl, hd⟩, rV, rC, rX, rM, rK⟩ := id R
  obtain ⟨hc, h1, h2, hn, hne, hsy⟩ := id rW
  have hnn := hc.1
  rcases idx p1 n with ⟨i, hi, rfl⟩ | h9
  · obtain ⟨q1, q2⟩ := cl_in hi (show n < 2 ^ 31 by omega)
    obtain ⟨⟨a1, a2, a3, a4, a5⟩, -⟩ := hc.2 i hi
    unfold f_L_tellerOf f_Main_tellerOf f_M_tellerOf
    simp only [q1, q2, oB_s, Sum.elim_inl, Sum.elim_inr, if_true, if_neg n10, if_neg sIB, if_neg sAB, if_neg sIA, f_M_no, f_M_isNot, f_M_ok, rg (show i < 40 by omega) (show 40 < 2147483648 by decide), ib_nI (show i < 40 by omega) (show 40 < 2147483648 by decide), nI_clamp (show i < 2 ^ 31 by omega)]
    exact ⟨_, _, rfl, rfl, ⟨rfl, fun _ => up1 out a1⟩, R⟩
  · obtain ⟨q1, q2⟩ := cl_out h9 (show n < 2 ^ 31 by omega)
    unfold f_L_tellerOf f_Main_tellerOf f_M_tellerOf
    simp only [q1, q2, oB_s, Sum.elim_inl, Sum.elim_inr, if_true, if_neg n10, if_neg sIB, if_neg sAB, if_neg sIA, f_M_no, f_M_isNot, f_M_ok]
    exact ⟨_, _, rfl, rfl, ⟨rfl, fun h => absurd h n10⟩, R⟩
theorem cs_kindOf (R : Rel x0 x1 x2 x3 x4 x5 x6 x7 x8 x9 x10 x11 x13 x14 x15 x16 x17 x18 x19 x20 x21 x37 x38 x59 x60 x61 m1 m2 m6 m7 m8 m9 m10 m11 m12 m13 m19 u0 u1 u2 u3 u7 u8 u9 u10 u11 u12 u13 u14 u15 u16 u17 u18) (out : Nat → Int64) (p1 : Int32) : ∃ o b, f_L_kindOf x5 x7 out p1 = some o ∧ f_M_kindOf1 m0 u2 u7 p1 = some b ∧ agI o.1 o.2 b.1 b.2 ∧ Rel x0 x1 x2 x3 x4 x5 x6 x7 x8 x9 x10 x11 x13 x14 x15 x16 x17 x18 x19 x20 x21 x37 x38 x59 x60 x61 m1 m2 m6 m7 m8 m9 m10 m11 m12 m13 m19 u0 u1 u2 u3 u7 u8 u9 u10 u11 u12 u13 u14 u15 u16 u17 u18 := by
  obtain ⟨sz, nt, ne, n, no, d, A, rT, rE, ⟨rfl, rfl⟩, ⟨rfl, rfl⟩, ⟨rfl, rfl⟩, ⟨rfl, rfl⟩, rW, rO, ⟨rfl, rfl, hd⟩, rV, rC, rX, rM, rK⟩ := id R
  obtain ⟨hc, h1, h2, hn, hne, hsy⟩ := id rW
  have hnn := hc.1
  rcases idx p1 n with ⟨i, hi, rfl⟩ | h9
  · obtain ⟨q1, q2⟩ := cl_in hi (show n < 2 ^ 31 by omega)
    obtain ⟨⟨a1, a2, a3, a4, a5⟩, -⟩ := hc.2 i hi
    unfold f_L_kindOf f_Main_kindOf f_M_kindOf1
    simp only [q1, q2, oB_s, Sum.elim_inl, Sum.elim_inr, if_true, if_neg n10, if_neg sIB, if_neg sAB, if_neg sIA, f_M_no, f_M_isNot, f_M_ok, rg (show i < 40 by omega) (show 40 < 2147483648 by decide), ib_nI (show i < 40 by omega) (show 40 < 2147483648 by decide), nI_clamp (show i < 2 ^ 31 by omega)]
    exact ⟨_, _, rfl, rfl, ⟨rfl, fun _ => up1 out a2⟩, R⟩
  · obtain ⟨q1, q2⟩ := cl_out h9 (show n < 2 ^ 31 by omega)
    unfold f_L_kindOf f_Main_kindOf f_M_kindOf1
    simp only [q1, q2, oB_s, Sum.elim_inl, Sum.elim_inr, if_true, if_neg n10, if_neg sIB, if_neg sAB, if_neg sIA, f_M_no, f_M_isNot, f_M_ok]
    exact ⟨_, _, rfl, rfl, ⟨rfl, fun h => absurd h n10⟩, R⟩
theorem cs_eventOf (R : Rel x0 x1 x2 x3 x4 x5 x6 x7 x8 x9 x10 x11 x13 x14 x15 x16 x17 x18 x19 x20 x21 x37 x38 x59 x60 x61 m1 m2 m6 m7 m8 m9 m10 m11 m12 m13 m19 u0 u1 u2 u3 u7 u8 u9 u10 u11 u12 u13 u14 u15 u16 u17 u18) (out : Nat → Int64) (p1 : Int32) : ∃ o b, f_L_eventOf x5 x8 out p1 = some o ∧ f_M_eventOf m0 u2 u9 p1 = some b ∧ agI o.1 o.2 b.1 b.2 ∧ Rel x0 x1 x2 x3 x4 x5 x6 x7 x8 x9 x10 x11 x13 x14 x15 x16 x17 x18 x19 x20 x21 x37 x38 x59 x60 x61 m1 m2 m6 m7 m8 m9 m10 m11 m12 m13 m19 u0 u1 u2 u3 u7 u8 u9 u10 u11 u12 u13 u14 u15 u16 u17 u18 := by
  obtain ⟨sz, nt, ne, n, no, d, A, rT, rE, ⟨rfl, rfl⟩, ⟨rfl, rfl⟩, ⟨rfl, rfl⟩, ⟨rfl, rfl⟩, rW, rO, ⟨rfl, rfl, hd⟩, rV, rC, rX, rM, rK⟩ := id R
  obtain ⟨hc, h1, h2, hn, hne, hsy⟩ := id rW
  have hnn := hc.1
  rcases idx p1 n with ⟨i, hi, rfl⟩ | h9
  · obtain ⟨q1, q2⟩ := cl_in hi (show n < 2 ^ 31 by omega)
    obtain ⟨⟨a1, a2, a3, a4, a5⟩, -⟩ := hc.2 i hi
    unfold f_L_eventOf f_Main_eventOf f_M_eventOf
    simp only [q1, q2, oB_s, Sum.elim_inl, Sum.elim_inr, if_true, if_neg n10, if_neg sIB, if_neg sAB, if_neg sIA, f_M_no, f_M_isNot, f_M_ok, rg (show i < 40 by omega) (show 40 < 2147483648 by decide), ib_nI (show i < 40 by omega) (show 40 < 2147483648 by decide), nI_clamp (show i < 2 ^ 31 by omega)]
    exact ⟨_, _, rfl, rfl, ⟨rfl, fun _ => up1 out a3⟩, R⟩
  · obtain ⟨q1, q2⟩ := cl_out h9 (show n < 2 ^ 31 by omega)
    unfold f_L_eventOf f_Main_eventOf f_M_eventOf
    simp only [q1, q2, oB_s, Sum.elim_inl, Sum.elim_inr, if_true, if_neg n10, if_neg sIB, if_neg sAB, if_neg sIA, f_M_no, f_M_isNot, f_M_ok]
    exact ⟨_, _, rfl, rfl, ⟨rfl, fun h => absurd h n10⟩, R⟩
theorem cs_secondEventOf (R : Rel x0 x1 x2 x3 x4 x5 x6 x7 x8 x9 x10 x11 x13 x14 x15 x16 x17 x18 x19 x20 x21 x37 x38 x59 x60 x61 m1 m2 m6 m7 m8 m9 m10 m11 m12 m13 m19 u0 u1 u2 u3 u7 u8 u9 u10 u11 u12 u13 u14 u15 u16 u17 u18) (out : Nat → Int64) (p1 : Int32) : ∃ o b, f_L_secondEventOf x5 x7 x9 out p1 = some o ∧ f_M_secondEventOf m0 u2 u7 u10 p1 = some b ∧ agI o.1 o.2 b.1 b.2 ∧ Rel x0 x1 x2 x3 x4 x5 x6 x7 x8 x9 x10 x11 x13 x14 x15 x16 x17 x18 x19 x20 x21 x37 x38 x59 x60 x61 m1 m2 m6 m7 m8 m9 m10 m11 m12 m13 m19 u0 u1 u2 u3 u7 u8 u9 u10 u11 u12 u13 u14 u15 u16 u17 u18 := by
  obtain ⟨sz, nt, ne, n, no, d, A, rT, rE, ⟨rfl, rfl⟩, ⟨rfl, rfl⟩, ⟨rfl, rfl⟩, ⟨rfl, rfl⟩, rW, rO, ⟨rfl, rfl, hd⟩, rV, rC, rX, rM, rK⟩ := id R
  obtain ⟨hc, h1, h2, hn, hne, hsy⟩ := id rW
  have hnn := hc.1
  rcases idx p1 n with ⟨i, hi, rfl⟩ | h9
  · obtain ⟨q1, q2⟩ := cl_in hi (show n < 2 ^ 31 by omega)
    obtain ⟨⟨a1, a2, a3, a4, a5⟩, -⟩ := hc.2 i hi
    unfold f_L_secondEventOf f_Main_secondEventOf f_M_secondEventOf
    simp only [q1, q2, oB_s, Sum.elim_inl, Sum.elim_inr, if_true, if_neg n10, if_neg sIB, if_neg sAB, if_neg sIA, f_M_no, f_M_isNot, f_M_ok, rg (show i < 40 by omega) (show 40 < 2147483648 by decide), ib_nI (show i < 40 by omega) (show 40 < 2147483648 by decide), nI_clamp (show i < 2 ^ 31 by omega), a2]
    by_cases hk : u7 i = 0
    · simp only [if_pos hk, oB_s, Sum.elim_inl, Sum.elim_inr, if_true, if_neg n10, if_neg sIB, if_neg sAB, if_neg sIA, f_M_no, f_M_isNot, f_M_ok]
      exact ⟨_, _, rfl, rfl, ⟨rfl, fun h => absurd h n20⟩, R⟩
    · simp only [if_neg hk, oB_s, Sum.elim_inl, Sum.elim_inr, if_true, if_neg n10, if_neg sIB, if_neg sAB, if_neg sIA, f_M_no, f_M_isNot, f_M_ok]
      exact ⟨_, _, rfl, rfl, ⟨rfl, fun _ => up1 out a4⟩, R⟩
  · obtain ⟨q1, q2⟩ := cl_out h9 (show n < 2 ^ 31 by omega)
    unfold f_L_secondEventOf f_Main_secondEventOf f_M_secondEventOf
    simp only [q1, q2, oB_s, Sum.elim_inl, Sum.elim_inr, if_true, if_neg n10, if_neg sIB, if_neg sAB, if_neg sIA, f_M_no, f_M_isNot, f_M_ok]
    exact ⟨_, _, rfl, rfl, ⟨rfl, fun h => absurd h n10⟩, R⟩
theorem cs_firstHourOf (R : Rel x0 x1 x2 x3 x4 x5 x6 x7 x8 x9 x10 x11 x13 x14 x15 x16 x17 x18 x19 x20 x21 x37 x38 x59 x60 x61 m1 m2 m6 m7 m8 m9 m10 m11 m12 m13 m19 u0 u1 u2 u3 u7 u8 u9 u10 u11 u12 u13 u14 u15 u16 u17 u18) (out : Nat → Int64) (p1 : Int32) : ∃ o b, f_L_firstHourOf x5 x7 x9 out p1 = some o ∧ f_M_firstHourOf m0 u2 u7 u10 p1 = some b ∧ agI o.1 o.2 b.1 b.2 ∧ Rel x0 x1 x2 x3 x4 x5 x6 x7 x8 x9 x10 x11 x13 x14 x15 x16 x17 x18 x19 x20 x21 x37 x38 x59 x60 x61 m1 m2 m6 m7 m8 m9 m10 m11 m12 m13 m19 u0 u1 u2 u3 u7 u8 u9 u10 u11 u12 u13 u14 u15 u16 u17 u18 := by
  obtain ⟨sz, nt, ne, n, no, d, A, rT, rE, ⟨rfl, rfl⟩, ⟨rfl, rfl⟩, ⟨rfl, rfl⟩, ⟨rfl, rfl⟩, rW, rO, ⟨rfl, rfl, hd⟩, rV, rC, rX, rM, rK⟩ := id R
  obtain ⟨hc, h1, h2, hn, hne, hsy⟩ := id rW
  have hnn := hc.1
  rcases idx p1 n with ⟨i, hi, rfl⟩ | h9
  · obtain ⟨q1, q2⟩ := cl_in hi (show n < 2 ^ 31 by omega)
    obtain ⟨⟨a1, a2, a3, a4, a5⟩, -⟩ := hc.2 i hi
    unfold f_L_firstHourOf f_Main_firstHourOf f_M_firstHourOf f_Main_needHours
    simp only [q1, q2, oB_s, Sum.elim_inl, Sum.elim_inr, if_true, if_neg n10, if_neg sIB, if_neg sAB, if_neg sIA, f_M_no, f_M_isNot, f_M_ok, rg (show i < 40 by omega) (show 40 < 2147483648 by decide), ib_nI (show i < 40 by omega) (show 40 < 2147483648 by decide), nI_clamp (show i < 2 ^ 31 by omega), a2]
    by_cases hk : u7 i = 0
    · simp only [if_pos hk, oB_s, Sum.elim_inl, Sum.elim_inr, if_true, if_neg n10, if_neg sIB, if_neg sAB, if_neg sIA, f_M_no, f_M_isNot, f_M_ok]
      exact ⟨_, _, rfl, rfl, ⟨rfl, fun _ => up1 out a4⟩, R⟩
    · simp only [if_neg hk, oB_s, Sum.elim_inl, Sum.elim_inr, if_true, if_neg n10, if_neg sIB, if_neg sAB, if_neg sIA, f_M_no, f_M_isNot, f_M_ok]
      exact ⟨_, _, rfl, rfl, ⟨rfl, fun h => absurd h n20⟩, R⟩
  · obtain ⟨q1, q2⟩ := cl_out h9 (show n < 2 ^ 31 by omega)
    unfold f_L_firstHourOf f_Main_firstHourOf f_M_firstHourOf
    simp only [q1, q2, oB_s, Sum.elim_inl, Sum.elim_inr, if_true, if_neg n10, if_neg sIB, if_neg sAB, if_neg sIA, f_M_no, f_M_isNot, f_M_ok]
    exact ⟨_, _, rfl, rfl, ⟨rfl, fun h => absurd h n10⟩, R⟩
theorem cs_lastHourOf (R : Rel x0 x1 x2 x3 x4 x5 x6 x7 x8 x9 x10 x11 x13 x14 x15 x16 x17 x18 x19 x20 x21 x37 x38 x59 x60 x61 m1 m2 m6 m7 m8 m9 m10 m11 m12 m13 m19 u0 u1 u2 u3 u7 u8 u9 u10 u11 u12 u13 u14 u15 u16 u17 u18) (out : Nat → Int64) (p1 : Int32) : ∃ o b, f_L_lastHourOf x5 x7 x10 out p1 = some o ∧ f_M_lastHourOf m0 u2 u7 u11 p1 = some b ∧ agI o.1 o.2 b.1 b.2 ∧ Rel x0 x1 x2 x3 x4 x5 x6 x7 x8 x9 x10 x11 x13 x14 x15 x16 x17 x18 x19 x20 x21 x37 x38 x59 x60 x61 m1 m2 m6 m7 m8 m9 m10 m11 m12 m13 m19 u0 u1 u2 u3 u7 u8 u9 u10 u11 u12 u13 u14 u15 u16 u17 u18 := by
  obtain ⟨sz, nt, ne, n, no, d, A, rT, rE, ⟨rfl, rfl⟩, ⟨rfl, rfl⟩, ⟨rfl, rfl⟩, ⟨rfl, rfl⟩, rW, rO, ⟨rfl, rfl, hd⟩, rV, rC, rX, rM, rK⟩ := id R
  obtain ⟨hc, h1, h2, hn, hne, hsy⟩ := id rW
  have hnn := hc.1
  rcases idx p1 n with ⟨i, hi, rfl⟩ | h9
  · obtain ⟨q1, q2⟩ := cl_in hi (show n < 2 ^ 31 by omega)
    obtain ⟨⟨a1, a2, a3, a4, a5⟩, -⟩ := hc.2 i hi
    unfold f_L_lastHourOf f_Main_lastHourOf f_M_lastHourOf f_Main_needHours
    simp only [q1, q2, oB_s, Sum.elim_inl, Sum.elim_inr, if_true, if_neg n10, if_neg sIB, if_neg sAB, if_neg sIA, f_M_no, f_M_isNot, f_M_ok, rg (show i < 40 by omega) (show 40 < 2147483648 by decide), ib_nI (show i < 40 by omega) (show 40 < 2147483648 by decide), nI_clamp (show i < 2 ^ 31 by omega), a2]
    by_cases hk : u7 i = 0
    · simp only [if_pos hk, oB_s, Sum.elim_inl, Sum.elim_inr, if_true, if_neg n10, if_neg sIB, if_neg sAB, if_neg sIA, f_M_no, f_M_isNot, f_M_ok]
      exact ⟨_, _, rfl, rfl, ⟨rfl, fun _ => up1 out a5⟩, R⟩
    · simp only [if_neg hk, oB_s, Sum.elim_inl, Sum.elim_inr, if_true, if_neg n10, if_neg sIB, if_neg sAB, if_neg sIA, f_M_no, f_M_isNot, f_M_ok]
      exact ⟨_, _, rfl, rfl, ⟨rfl, fun h => absurd h n20⟩, R⟩
  · obtain ⟨q1, q2⟩ := cl_out h9 (show n < 2 ^ 31 by omega)
    unfold f_L_lastHourOf f_Main_lastHourOf f_M_lastHourOf
    simp only [q1, q2, oB_s, Sum.elim_inl, Sum.elim_inr, if_true, if_neg n10, if_neg sIB, if_neg sAB, if_neg sIA, f_M_no, f_M_isNot, f_M_ok]
    exact ⟨_, _, rfl, rfl, ⟨rfl, fun h => absurd h n10⟩, R⟩
theorem cs_areContrary (R : Rel x0 x1 x2 x3 x4 x5 x6 x7 x8 x9 x10 x11 x13 x14 x15 x16 x17 x18 x19 x20 x21 x37 x38 x59 x60 x61 m1 m2 m6 m7 m8 m9 m10 m11 m12 m13 m19 u0 u1 u2 u3 u7 u8 u9 u10 u11 u12 u13 u14 u15 u16 u17 u18) {N2 : Nat} (hN2 : 5000 < N2) (out : Nat → Int64) (p1 p2 : Int32) : ∃ o b, f_L_areContrary x5 x7 x8 x9 x10 out p1 p2 = some o ∧ f_M_areContrary N2 m0 u2 u7 u9 u10 u11 p1 p2 = some b ∧ agB o.1 o.2 b.1 b.2 ∧ Rel x0 x1 x2 x3 x4 x5 x6 x7 x8 x9 x10 x11 x13 x14 x15 x16 x17 x18 x19 x20 x21 x37 x38 x59 x60 x61 m1 m2 m6 m7 m8 m9 m10 m11 m12 m13 m19 u0 u1 u2 u3 u7 u8 u9 u10 u11 u12 u13 u14 u15 u16 u17 u18 := by
  obtain ⟨sz, nt, ne, n, no, d, A, rT, rE, ⟨rfl, rfl⟩, ⟨rfl, rfl⟩, ⟨rfl, rfl⟩, ⟨rfl, rfl⟩, rW, rO, ⟨rfl, rfl, hd⟩, rV, rC, rX, rM, rK⟩ := id R
  obtain ⟨hc, h1, h2, hn, hne, hsy⟩ := id rW
  have hnn := hc.1
  rcases idx p1 n with ⟨i, hi, rfl⟩ | h9
  · obtain ⟨q1, q2⟩ := cl_in hi (show n < 2 ^ 31 by omega)
    rcases idx p2 n with ⟨k, hk, rfl⟩ | h9
    · obtain ⟨q3, q4⟩ := cl_in hk (show n < 2 ^ 31 by omega)
      unfold f_L_areContrary f_Main_areContrary f_M_areContrary
      simp only [q1, q2, q3, q4, oB_s, Sum.elim_inl, Sum.elim_inr, if_true, if_neg n10, if_neg sIB, if_neg sAB, if_neg sIA, f_M_no, f_M_isNot, f_M_ok, cr_x hc hi hk, cr_m hc hi hk, bI_zB]
      cases ctU u7 u9 u10 u11 i k with
      | false => exact ⟨_, _, rfl, rfl, ⟨rfl, Or.inl rfl, fun _ => up0 out _⟩, R⟩
      | true => exact ⟨_, _, rfl, rfl, ⟨rfl, Or.inr rfl, fun _ => up0 out _⟩, R⟩
    · obtain ⟨q3, q4⟩ := cl_out h9 (show n < 2 ^ 31 by omega)
      unfold f_L_areContrary f_Main_areContrary f_M_areContrary
      simp only [q1, q2, q3, q4, oB_s, Sum.elim_inl, Sum.elim_inr, if_true, if_neg n10, if_neg sIB, if_neg sAB, if_neg sIA, f_M_no, f_M_isNot, f_M_ok, show zB (0 : Int32) = true from rfl]
      exact ⟨_, _, rfl, rfl, ⟨rfl, Or.inl rfl, fun h => absurd h n10⟩, R⟩
  · obtain ⟨q1, q2⟩ := cl_out h9 (show n < 2 ^ 31 by omega)
    unfold f_L_areContrary f_Main_areContrary f_M_areContrary
    simp only [q1, q2, oB_s, Sum.elim_inl, Sum.elim_inr, if_true, if_neg n10, if_neg sIB, if_neg sAB, if_neg sIA, f_M_no, f_M_isNot, f_M_ok, show zB (0 : Int32) = true from rfl]
    exact ⟨_, _, rfl, rfl, ⟨rfl, Or.inl rfl, fun h => absurd h n10⟩, R⟩
theorem cs_claimsOf (R : Rel x0 x1 x2 x3 x4 x5 x6 x7 x8 x9 x10 x11 x13 x14 x15 x16 x17 x18 x19 x20 x21 x37 x38 x59 x60 x61 m1 m2 m6 m7 m8 m9 m10 m11 m12 m13 m19 u0 u1 u2 u3 u7 u8 u9 u10 u11 u12 u13 u14 u15 u16 u17 u18) {N1 : Nat} (hN1 : 5000 < N1) {N2 : Nat} (hN2 : 5000 < N2) (out : Nat → Int64) (p1 : Int32) : ∃ o b, f_L_claimsOf N1 x4 x5 x6 out p1 = some o ∧ f_M_claimsOf N2 m0 u1 u2 u8 p1 = some b ∧ agI o.1 o.2 b.1 b.2 ∧ Rel x0 x1 x2 x3 x4 x5 x6 x7 x8 x9 x10 x11 x13 x14 x15 x16 x17 x18 x19 x20 x21 x37 x38 x59 x60 x61 m1 m2 m6 m7 m8 m9 m10 m11 m12 m13 m19 u0 u1 u2 u3 u7 u8 u9 u10 u11 u12 u13 u14 u15 u16 u17 u18 := by
  obtain ⟨sz, nt, ne, n, no, d, A, rT, rE, ⟨rfl, rfl⟩, ⟨rfl, rfl⟩, ⟨rfl, rfl⟩, ⟨rfl, rfl⟩, rW, rO, ⟨rfl, rfl, hd⟩, rV, rC, rX, rM, rK⟩ := id R
  obtain ⟨hc, h1, h2, hn, hne, hsy⟩ := id rW
  have hnn := hc.1
  rcases idx p1 nt with ⟨i, hi, rfl⟩ | h9
  · obtain ⟨q1, q2⟩ := te_in hi (show nt < 2 ^ 31 by omega)
    unfold f_L_claimsOf f_Main_claimsOf f_M_claimsOf
    simp only [q1, q2, oB_s, Sum.elim_inl, Sum.elim_inr, if_true, if_neg n10, if_neg sIB, if_neg sAB, if_neg sIA, f_M_no, f_M_isNot, f_M_ok, x_count hc (show 60 < N1 by omega), m_count hc (show 60 < N2 by omega)]
    exact ⟨_, _, rfl, rfl, ⟨rfl, fun _ => up0 out _⟩, R⟩
  · obtain ⟨q1, q2⟩ := te_out h9 (show nt < 2 ^ 31 by omega)
    unfold f_L_claimsOf f_Main_claimsOf f_M_claimsOf
    simp only [q1, q2, oB_s, Sum.elim_inl, Sum.elim_inr, if_true, if_neg n10, if_neg sIB, if_neg sAB, if_neg sIA, f_M_no, f_M_isNot, f_M_ok]
    exact ⟨_, _, rfl, rfl, ⟨rfl, fun h => absurd h n10⟩, R⟩
theorem cs_isDoubted (R : Rel x0 x1 x2 x3 x4 x5 x6 x7 x8 x9 x10 x11 x13 x14 x15 x16 x17 x18 x19 x20 x21 x37 x38 x59 x60 x61 m1 m2 m6 m7 m8 m9 m10 m11 m12 m13 m19 u0 u1 u2 u3 u7 u8 u9 u10 u11 u12 u13 u14 u15 u16 u17 u18) (out : Nat → Int64) (p1 : Int32) : ∃ o b, f_L_isDoubted x4 x59 out p1 = some o ∧ f_M_isDoubted m0 m6 u1 p1 = some b ∧ agB o.1 o.2 b.1 b.2 ∧ Rel x0 x1 x2 x3 x4 x5 x6 x7 x8 x9 x10 x11 x13 x14 x15 x16 x17 x18 x19 x20 x21 x37 x38 x59 x60 x61 m1 m2 m6 m7 m8 m9 m10 m11 m12 m13 m19 u0 u1 u2 u3 u7 u8 u9 u10 u11 u12 u13 u14 u15 u16 u17 u18 := by
  obtain ⟨sz, nt, ne, n, no, d, A, rT, rE, ⟨rfl, rfl⟩, ⟨rfl, rfl⟩, ⟨rfl, rfl⟩, ⟨rfl, rfl⟩, rW, rO, ⟨rfl, rfl, hd⟩, rV, rC, rX, rM, rK⟩ := id R
  obtain ⟨hc, h1, h2, hn, hne, hsy⟩ := id rW
  have hnn := hc.1
  rcases idx p1 nt with ⟨i, hi, rfl⟩ | h9
  · obtain ⟨q1, q2⟩ := te_in hi (show nt < 2 ^ 31 by omega)
    unfold f_L_isDoubted f_Main_isDoubted f_M_isDoubted
    simp only [q1, q2, oB_s, Sum.elim_inl, Sum.elim_inr, if_true, if_neg n10, if_neg sIB, if_neg sAB, if_neg sIA, f_M_no, f_M_isNot, f_M_ok, has_same]
    rcases has01 (nI d) (nI i) with h | h
    · simp only [h, oB_s, Sum.elim_inl, Sum.elim_inr, if_true, if_neg n10, if_neg sIB, if_neg sAB, if_neg sIA, f_M_no, f_M_isNot, f_M_ok]
      exact ⟨_, _, rfl, rfl, ⟨rfl, Or.inl rfl, fun _ => up0 out _⟩, R⟩
    · simp only [h, oB_s, Sum.elim_inl, Sum.elim_inr, if_true, if_neg n10, if_neg sIB, if_neg sAB, if_neg sIA, f_M_no, f_M_isNot, f_M_ok]
      exact ⟨_, _, rfl, rfl, ⟨rfl, Or.inr rfl, fun _ => up0 out _⟩, R⟩
  · obtain ⟨q1, q2⟩ := te_out h9 (show nt < 2 ^ 31 by omega)
    unfold f_L_isDoubted f_Main_isDoubted f_M_isDoubted
    simp only [q1, q2, oB_s, Sum.elim_inl, Sum.elim_inr, if_true, if_neg n10, if_neg sIB, if_neg sAB, if_neg sIA, f_M_no, f_M_isNot, f_M_ok, show zB (0 : Int32) = true from rfl]
    exact ⟨_, _, rfl, rfl, ⟨rfl, Or.inl rfl, fun h => absurd h n10⟩, R⟩
theorem cs_doContradict (R : Rel x0 x1 x2 x3 x4 x5 x6 x7 x8 x9 x10 x11 x13 x14 x15 x16 x17 x18 x19 x20 x21 x37 x38 x59 x60 x61 m1 m2 m6 m7 m8 m9 m10 m11 m12 m13 m19 u0 u1 u2 u3 u7 u8 u9 u10 u11 u12 u13 u14 u15 u16 u17 u18) (out : Nat → Int64) (p1 p2 : Int32) : ∃ o b, f_L_doContradict x4 x21 x59 out p1 p2 = some o ∧ f_M_doContradict m0 m6 m19 u1 p1 p2 = some b ∧ agB o.1 o.2 b.1 b.2 ∧ Rel x0 x1 x2 x3 x4 x5 x6 x7 x8 x9 x10 x11 x13 x14 x15 x16 x17 x18 x19 x20 x21 x37 x38 x59 x60 x61 m1 m2 m6 m7 m8 m9 m10 m11 m12 m13 m19 u0 u1 u2 u3 u7 u8 u9 u10 u11 u12 u13 u14 u15 u16 u17 u18 := by
  obtain ⟨sz, nt, ne, n, no, d, A, rT, rE, ⟨rfl, rfl⟩, ⟨rfl, rfl⟩, ⟨rfl, rfl⟩, ⟨rfl, rfl⟩, rW, rO, ⟨rfl, rfl, hd⟩, rV, rC, rX, rM, rK⟩ := id R
  obtain ⟨hc, h1, h2, hn, hne, hsy⟩ := id rW
  have hnn := hc.1
  rcases idx p1 nt with ⟨i, hi, rfl⟩ | h9
  · obtain ⟨q1, q2⟩ := te_in hi (show nt < 2 ^ 31 by omega)
    rcases idx p2 nt with ⟨k, hk, rfl⟩ | h9
    · obtain ⟨q3, q4⟩ := te_in hk (show nt < 2 ^ 31 by omega)
      obtain ⟨e1, e2⟩ := contra_same h1 h2 (p := i) (q := k) (by omega) (nI d)
      unfold f_L_doContradict f_Main_doContradict f_M_doContradict
      simp only [q1, q2, q3, q4, oB_s, Sum.elim_inl, Sum.elim_inr, if_true, if_neg n10, if_neg sIB, if_neg sAB, if_neg sIA, f_M_no, f_M_isNot, f_M_ok, e1]
      rcases e2 with h | h
      · simp only [h, oB_s, Sum.elim_inl, Sum.elim_inr, if_true, if_neg n10, if_neg sIB, if_neg sAB, if_neg sIA, f_M_no, f_M_isNot, f_M_ok, show zB (0 : Int32) = true from rfl]
        exact ⟨_, _, rfl, rfl, ⟨rfl, Or.inl rfl, fun _ => up0 out _⟩, R⟩
      · simp only [h, oB_s, Sum.elim_inl, Sum.elim_inr, if_true, if_neg n10, if_neg sIB, if_neg sAB, if_neg sIA, f_M_no, f_M_isNot, f_M_ok, show zB (1 : Int32) = true from rfl]
        exact ⟨_, _, rfl, rfl, ⟨rfl, Or.inr rfl, fun _ => up0 out _⟩, R⟩
    · obtain ⟨q3, q4⟩ := te_out h9 (show nt < 2 ^ 31 by omega)
      unfold f_L_doContradict f_Main_doContradict f_M_doContradict
      simp only [q1, q2, q3, q4, oB_s, Sum.elim_inl, Sum.elim_inr, if_true, if_neg n10, if_neg sIB, if_neg sAB, if_neg sIA, f_M_no, f_M_isNot, f_M_ok, show zB (0 : Int32) = true from rfl]
      exact ⟨_, _, rfl, rfl, ⟨rfl, Or.inl rfl, fun h => absurd h n10⟩, R⟩
  · obtain ⟨q1, q2⟩ := te_out h9 (show nt < 2 ^ 31 by omega)
    unfold f_L_doContradict f_Main_doContradict f_M_doContradict
    simp only [q1, q2, oB_s, Sum.elim_inl, Sum.elim_inr, if_true, if_neg n10, if_neg sIB, if_neg sAB, if_neg sIA, f_M_no, f_M_isNot, f_M_ok, show zB (0 : Int32) = true from rfl]
    exact ⟨_, _, rfl, rfl, ⟨rfl, Or.inl rfl, fun h => absurd h n10⟩, R⟩
theorem cs_contraryPairs (R : Rel x0 x1 x2 x3 x4 x5 x6 x7 x8 x9 x10 x11 x13 x14 x15 x16 x17 x18 x19 x20 x21 x37 x38 x59 x60 x61 m1 m2 m6 m7 m8 m9 m10 m11 m12 m13 m19 u0 u1 u2 u3 u7 u8 u9 u10 u11 u12 u13 u14 u15 u16 u17 u18) {N1 : Nat} (hN1 : 5000 < N1) {N2 : Nat} (hN2 : 5000 < N2) (out : Nat → Int64) (p1 p2 : Int32) : ∃ o b, f_L_contraryPairs N1 x4 x5 x6 x7 x8 x9 x10 out p1 p2 = some o ∧ f_M_contraryPairs N2 m0 u1 u2 u7 u8 u9 u10 u11 p1 p2 = some b ∧ agI o.1 o.2 b.1 b.2 ∧ Rel x0 x1 x2 x3 x4 x5 x6 x7 x8 x9 x10 x11 x13 x14 x15 x16 x17 x18 x19 x20 x21 x37 x38 x59 x60 x61 m1 m2 m6 m7 m8 m9 m10 m11 m12 m13 m19 u0 u1 u2 u3 u7 u8 u9 u10 u11 u12 u13 u14 u15 u16 u17 u18 := by
  obtain ⟨sz, nt, ne, n, no, d, A, rT, rE, ⟨rfl, rfl⟩, ⟨rfl, rfl⟩, ⟨rfl, rfl⟩, ⟨rfl, rfl⟩, rW, rO, ⟨rfl, rfl, hd⟩, rV, rC, rX, rM, rK⟩ := id R
  obtain ⟨hc, h1, h2, hn, hne, hsy⟩ := id rW
  have hnn := hc.1
  rcases idx p1 nt with ⟨i, hi, rfl⟩ | h9
  · obtain ⟨q1, q2⟩ := te_in hi (show nt < 2 ^ 31 by omega)
    rcases idx p2 nt with ⟨k, hk, rfl⟩ | h9
    · obtain ⟨q3, q4⟩ := te_in hk (show nt < 2 ^ 31 by omega)
      unfold f_L_contraryPairs f_Main_contraryPairs f_M_contraryPairs
      simp only [q1, q2, q3, q4, oB_s, Sum.elim_inl, Sum.elim_inr, if_true, if_neg n10, if_neg sIB, if_neg sAB, if_neg sIA, f_M_no, f_M_isNot, f_M_ok, x_pairs hc (show 60 < N1 by omega), m_pairs hc (show 60 < N2 by omega), pairs_same]
      exact ⟨_, _, rfl, rfl, ⟨rfl, fun _ => up0 out _⟩, R⟩
    · obtain ⟨q3, q4⟩ := te_out h9 (show nt < 2 ^ 31 by omega)
      unfold f_L_contraryPairs f_Main_contraryPairs f_M_contraryPairs
      simp only [q1, q2, q3, q4, oB_s, Sum.elim_inl, Sum.elim_inr, if_true, if_neg n10, if_neg sIB, if_neg sAB, if_neg sIA, f_M_no, f_M_isNot, f_M_ok]
      exact ⟨_, _, rfl, rfl, ⟨rfl, fun h => absurd h n10⟩, R⟩
  · obtain ⟨q1, q2⟩ := te_out h9 (show nt < 2 ^ 31 by omega)
    unfold f_L_contraryPairs f_Main_contraryPairs f_M_contraryPairs
    simp only [q1, q2, oB_s, Sum.elim_inl, Sum.elim_inr, if_true, if_neg n10, if_neg sIB, if_neg sAB, if_neg sIA, f_M_no, f_M_isNot, f_M_ok]
    exact ⟨_, _, rfl, rfl, ⟨rfl, fun h => absurd h n10⟩, R⟩
theorem cs_contradictions (R : Rel x0 x1 x2 x3 x4 x5 x6 x7 x8 x9 x10 x11 x13 x14 x15 x16 x17 x18 x19 x20 x21 x37 x38 x59 x60 x61 m1 m2 m6 m7 m8 m9 m10 m11 m12 m13 m19 u0 u1 u2 u3 u7 u8 u9 u10 u11 u12 u13 u14 u15 u16 u17 u18) {N1 : Nat} (hN1 : 5000 < N1) {N2 : Nat} (hN2 : 5000 < N2) : ∃ o b, f_Main_contradictions N1 x4 x21 x59 = some o ∧ f_M_contradictions N2 m0 m6 m19 u1 = some b ∧ o = b.1 ∧ Rel x0 x1 x2 x3 x4 x5 x6 x7 x8 x9 x10 x11 x13 x14 x15 x16 x17 x18 x19 x20 x21 x37 x38 x59 x60 x61 m1 m2 m6 m7 m8 m9 m10 m11 m12 m13 m19 u0 u1 u2 u3 u7 u8 u9 u10 u11 u12 u13 u14 u15 u16 u17 u18 := by
  obtain ⟨sz, nt, ne, n, no, d, A, rT, rE, ⟨rfl, rfl⟩, ⟨rfl, rfl⟩, ⟨rfl, rfl⟩, ⟨rfl, rfl⟩, rW, rO, ⟨rfl, rfl, hd⟩, rV, rC, rX, rM, rK⟩ := id R
  obtain ⟨hc, h1, h2, hn, hne, hsy⟩ := id rW
  have hnn := hc.1
  unfold f_Main_contradictions f_M_contradictions
  simp only [oB_s, Sum.elim_inl, Sum.elim_inr, if_true, if_neg n10, if_neg sIB, if_neg sAB, if_neg sIA, f_M_no, f_M_isNot, f_M_ok, x_pn h1 hn (show 60 < N1 by omega), m_bel (show nt < 32 by omega), m_pn h2 hsy hn (show 60 < N2 by omega) (bel_10 hn)]
  exact ⟨_, _, rfl, rfl, rfl, R⟩
theorem cs_liars (R : Rel x0 x1 x2 x3 x4 x5 x6 x7 x8 x9 x10 x11 x13 x14 x15 x16 x17 x18 x19 x20 x21 x37 x38 x59 x60 x61 m1 m2 m6 m7 m8 m9 m10 m11 m12 m13 m19 u0 u1 u2 u3 u7 u8 u9 u10 u11 u12 u13 u14 u15 u16 u17 u18) {N1 : Nat} (hN1 : 5000 < N1) {N2 : Nat} (hN2 : 5000 < N2) : ∃ o b, f_Main_liars N1 x4 x18 x19 x20 x21 x59 = some o ∧ f_M_liars N2 m0 m6 m9 m10 m11 m12 m19 u1 = some b ∧ o.1 = b.1 ∧ Rel x0 x1 x2 x3 x4 x5 x6 x7 x8 x9 x10 x11 x13 x14 x15 x16 x17 o.2.1 o.2.2.1 o.2.2.2 x21 x37 x38 x59 x60 x61 m1 m2 m6 m7 m8 b.2.2.1 b.2.2.2.1 b.2.2.2.2.1 b.2.2.2.2.2 m13 m19 u0 u1 u2 u3 u7 u8 u9 u10 u11 u12 u13 u14 u15 u16 u17 u18 := by
  obtain ⟨sz, nt, ne, n, no, d, A, rT, rE, ⟨rfl, rfl⟩, ⟨rfl, rfl⟩, ⟨rfl, rfl⟩, ⟨rfl, rfl⟩, rW, rO, ⟨rfl, rfl, hd⟩, rV, rC, rX, rM, rK⟩ := id R
  obtain ⟨hc, h1, h2, hn, hne, hsy⟩ := id rW
  have hnn := hc.1
  unfold f_Main_liars f_M_liars
  simp only [oB_s, Sum.elim_inl, Sum.elim_inr, if_true, if_neg n10, if_neg sIB, if_neg sAB, if_neg sIA, f_M_no, f_M_isNot, f_M_ok, x_liar h1 hn hsy hd rX (show 2000 < N1 by omega), m_liars h2 hn hsy hd rM (show 2000 < N2 by omega), q_pc _ (LS_lt (d := d) h1 hn hsy)]
  exact ⟨_, _, rfl, rfl, rfl, ⟨sz, nt, ne, n, no, d, A, rT, rE, ⟨rfl, rfl⟩, ⟨rfl, rfl⟩, ⟨rfl, rfl⟩, ⟨rfl, rfl⟩, rW, rO, ⟨rfl, rfl, hd⟩, rV, rC, xc_at hd, mc_at hd, rK⟩⟩
theorem cs_smallestSets (R : Rel x0 x1 x2 x3 x4 x5 x6 x7 x8 x9 x10 x11 x13 x14 x15 x16 x17 x18 x19 x20 x21 x37 x38 x59 x60 x61 m1 m2 m6 m7 m8 m9 m10 m11 m12 m13 m19 u0 u1 u2 u3 u7 u8 u9 u10 u11 u12 u13 u14 u15 u16 u17 u18) {N1 : Nat} (hN1 : 5000 < N1) {N2 : Nat} (hN2 : 5000 < N2) : ∃ o b, f_Main_smallestSets N1 x4 x18 x19 x20 x21 x59 = some o ∧ f_M_smallestSets N2 m0 m6 m9 m10 m11 m12 m19 u1 = some b ∧ o.1 = b.1 ∧ Rel x0 x1 x2 x3 x4 x5 x6 x7 x8 x9 x10 x11 x13 x14 x15 x16 x17 o.2.1 o.2.2.1 o.2.2.2 x21 x37 x38 x59 x60 x61 m1 m2 m6 m7 m8 b.2.2.1 b.2.2.2.1 b.2.2.2.2.1 b.2.2.2.2.2 m13 m19 u0 u1 u2 u3 u7 u8 u9 u10 u11 u12 u13 u14 u15 u16 u17 u18 := by
  obtain ⟨sz, nt, ne, n, no, d, A, rT, rE, ⟨rfl, rfl⟩, ⟨rfl, rfl⟩, ⟨rfl, rfl⟩, ⟨rfl, rfl⟩, rW, rO, ⟨rfl, rfl, hd⟩, rV, rC, rX, rM, rK⟩ := id R
  obtain ⟨hc, h1, h2, hn, hne, hsy⟩ := id rW
  have hnn := hc.1
  unfold f_Main_smallestSets f_M_smallestSets f_Ve_setCount
  simp only [oB_s, Sum.elim_inl, Sum.elim_inr, if_true, if_neg n10, if_neg sIB, if_neg sAB, if_neg sIA, f_M_no, f_M_isNot, f_M_ok, x_judge h1 hn hsy hd rX (show 2000 < N1 by omega), m_look h2 hn hsy hd rM (show 2000 < N2 by omega)]
  exact ⟨_, _, rfl, rfl, rfl, ⟨sz, nt, ne, n, no, d, A, rT, rE, ⟨rfl, rfl⟩, ⟨rfl, rfl⟩, ⟨rfl, rfl⟩, ⟨rfl, rfl⟩, rW, rO, ⟨rfl, rfl, hd⟩, rV, rC, xc_at hd, mc_at hd, rK⟩⟩
theorem cs_isLiar (R : Rel x0 x1 x2 x3 x4 x5 x6 x7 x8 x9 x10 x11 x13 x14 x15 x16 x17 x18 x19 x20 x21 x37 x38 x59 x60 x61 m1 m2 m6 m7 m8 m9 m10 m11 m12 m13 m19 u0 u1 u2 u3 u7 u8 u9 u10 u11 u12 u13 u14 u15 u16 u17 u18) {N1 : Nat} (hN1 : 5000 < N1) {N2 : Nat} (hN2 : 5000 < N2) (out : Nat → Int64) (p1 : Int32) : ∃ o b, f_L_isLiar N1 x4 x18 x19 x20 x21 x59 out p1 = some o ∧ f_M_isLiar N2 m0 m6 m9 m10 m11 m12 m19 u1 p1 = some b ∧ agB o.1 o.2.2.2.2 b.1 b.2.1 ∧ Rel x0 x1 x2 x3 x4 x5 x6 x7 x8 x9 x10 x11 x13 x14 x15 x16 x17 o.2.1 o.2.2.1 o.2.2.2.1 x21 x37 x38 x59 x60 x61 m1 m2 m6 m7 m8 b.2.2.1 b.2.2.2.1 b.2.2.2.2.1 b.2.2.2.2.2 m13 m19 u0 u1 u2 u3 u7 u8 u9 u10 u11 u12 u13 u14 u15 u16 u17 u18 := by
  obtain ⟨sz, nt, ne, n, no, d, A, rT, rE, ⟨rfl, rfl⟩, ⟨rfl, rfl⟩, ⟨rfl, rfl⟩, ⟨rfl, rfl⟩, rW, rO, ⟨rfl, rfl, hd⟩, rV, rC, rX, rM, rK⟩ := id R
  obtain ⟨hc, h1, h2, hn, hne, hsy⟩ := id rW
  have hnn := hc.1
  rcases idx p1 nt with ⟨i, hi, rfl⟩ | h9
  · obtain ⟨q1, q2⟩ := te_in hi (show nt < 2 ^ 31 by omega)
    unfold f_L_isLiar f_Main_isLiar f_M_isLiar
    simp only [q1, q2, oB_s, Sum.elim_inl, Sum.elim_inr, if_true, if_neg n10, if_neg sIB, if_neg sAB, if_neg sIA, f_M_no, f_M_isNot, f_M_ok, x_liar h1 hn hsy hd rX (show 2000 < N1 by omega), m_lies h2 hn hsy hd rM (show 2000 < N2 by omega), has_same]
    rcases has01 (nI (lsN A nt d)) (nI i) with h | h
    · simp only [h, oB_s, Sum.elim_inl, Sum.elim_inr, if_true, if_neg n10, if_neg sIB, if_neg sAB, if_neg sIA, f_M_no, f_M_isNot, f_M_ok, show zB (0 : Int32) = true from rfl]
      exact ⟨_, _, rfl, rfl, ⟨rfl, Or.inl rfl, fun _ => up0 out _⟩, ⟨sz, nt, ne, n, no, d, A, rT, rE, ⟨rfl, rfl⟩, ⟨rfl, rfl⟩, ⟨rfl, rfl⟩, ⟨rfl, rfl⟩, rW, rO, ⟨rfl, rfl, hd⟩, rV, rC, xc_at hd, mc_at hd, rK⟩⟩
    · simp only [h, oB_s, Sum.elim_inl, Sum.elim_inr, if_true, if_neg n10, if_neg sIB, if_neg sAB, if_neg sIA, f_M_no, f_M_isNot, f_M_ok, show zB (1 : Int32) = true from rfl]
      exact ⟨_, _, rfl, rfl, ⟨rfl, Or.inr rfl, fun _ => up0 out _⟩, ⟨sz, nt, ne, n, no, d, A, rT, rE, ⟨rfl, rfl⟩, ⟨rfl, rfl⟩, ⟨rfl, rfl⟩, ⟨rfl, rfl⟩, rW, rO, ⟨rfl, rfl, hd⟩, rV, rC, xc_at hd, mc_at hd, rK⟩⟩
  · obtain ⟨q1, q2⟩ := te_out h9 (show nt < 2 ^ 31 by omega)
    unfold f_L_isLiar f_Main_isLiar f_M_isLiar
    simp only [q1, q2, oB_s, Sum.elim_inl, Sum.elim_inr, if_true, if_neg n10, if_neg sIB, if_neg sAB, if_neg sIA, f_M_no, f_M_isNot, f_M_ok, show zB (0 : Int32) = true from rfl]
    exact ⟨_, _, rfl, rfl, ⟨rfl, Or.inl rfl, fun h => absurd h n10⟩, R⟩
theorem cs_isAgreed (R : Rel x0 x1 x2 x3 x4 x5 x6 x7 x8 x9 x10 x11 x13 x14 x15 x16 x17 x18 x19 x20 x21 x37 x38 x59 x60 x61 m1 m2 m6 m7 m8 m9 m10 m11 m12 m13 m19 u0 u1 u2 u3 u7 u8 u9 u10 u11 u12 u13 u14 u15 u16 u17 u18) {N1 : Nat} (hN1 : 5000 < N1) {N2 : Nat} (hN2 : 5000 < N2) (out : Nat → Int64) (p1 : Int32) : ∃ o b, f_L_isAgreed N1 x3 x5 x6 x7 x8 x9 x10 x59 out p1 = some o ∧ f_M_isAgreed N2 m0 m6 u0 u2 u7 u8 u9 u10 u11 p1 = some b ∧ agB o.1 o.2 b.1 b.2 ∧ Rel x0 x1 x2 x3 x4 x5 x6 x7 x8 x9 x10 x11 x13 x14 x15 x16 x17 x18 x19 x20 x21 x37 x38 x59 x60 x61 m1 m2 m6 m7 m8 m9 m10 m11 m12 m13 m19 u0 u1 u2 u3 u7 u8 u9 u10 u11 u12 u13 u14 u15 u16 u17 u18 := by
  obtain ⟨sz, nt, ne, n, no, d, A, rT, rE, ⟨rfl, rfl⟩, ⟨rfl, rfl⟩, ⟨rfl, rfl⟩, ⟨rfl, rfl⟩, rW, rO, ⟨rfl, rfl, hd⟩, rV, rC, rX, rM, rK⟩ := id R
  obtain ⟨hc, h1, h2, hn, hne, hsy⟩ := id rW
  have hnn := hc.1
  rcases idx p1 ne with ⟨i, hi, rfl⟩ | h9
  · obtain ⟨q1, q2⟩ := ev_in hi (show ne < 2 ^ 31 by omega)
    unfold f_L_isAgreed f_Main_isAgreed f_M_isAgreed
    simp only [q1, q2, oB_s, Sum.elim_inl, Sum.elim_inr, if_true, if_neg n10, if_neg sIB, if_neg sAB, if_neg sIA, f_M_no, f_M_isNot, f_M_ok, x_hours hc (show 60 < N1 by omega), m_hours hc (show 60 < N2 by omega)]
    by_cases h : wh u7 u8 u9 u10 u11 (nI i) (nI d) n ≤ 0
    · simp only [if_pos h, oB_s, Sum.elim_inl, Sum.elim_inr, if_true, if_neg n10, if_neg sIB, if_neg sAB, if_neg sIA, f_M_no, f_M_isNot, f_M_ok]
      exact ⟨_, _, rfl, rfl, ⟨rfl, Or.inl rfl, fun _ => up0 out _⟩, R⟩
    · simp only [if_neg h, oB_s, Sum.elim_inl, Sum.elim_inr, if_true, if_neg n10, if_neg sIB, if_neg sAB, if_neg sIA, f_M_no, f_M_isNot, f_M_ok]
      exact ⟨_, _, rfl, rfl, ⟨rfl, Or.inr rfl, fun _ => up0 out _⟩, R⟩
  · obtain ⟨q1, q2⟩ := ev_out h9 (show ne < 2 ^ 31 by omega)
    unfold f_L_isAgreed f_Main_isAgreed f_M_isAgreed
    simp only [q1, q2, oB_s, Sum.elim_inl, Sum.elim_inr, if_true, if_neg n10, if_neg sIB, if_neg sAB, if_neg sIA, f_M_no, f_M_isNot, f_M_ok, show zB (0 : Int32) = true from rfl]
    exact ⟨_, _, rfl, rfl, ⟨rfl, Or.inl rfl, fun h => absurd h n10⟩, R⟩
theorem cs_windowFrom (R : Rel x0 x1 x2 x3 x4 x5 x6 x7 x8 x9 x10 x11 x13 x14 x15 x16 x17 x18 x19 x20 x21 x37 x38 x59 x60 x61 m1 m2 m6 m7 m8 m9 m10 m11 m12 m13 m19 u0 u1 u2 u3 u7 u8 u9 u10 u11 u12 u13 u14 u15 u16 u17 u18) {N1 : Nat} (hN1 : 5000 < N1) {N2 : Nat} (hN2 : 5000 < N2) (out : Nat → Int64) (p1 : Int32) : ∃ o b, f_L_windowFrom N1 x3 x5 x6 x7 x8 x9 x10 x59 out p1 = some o ∧ f_M_windowFrom N2 m0 m6 u0 u2 u7 u8 u9 u10 u11 p1 = some b ∧ agI o.1 o.2 b.1 b.2 ∧ Rel x0 x1 x2 x3 x4 x5 x6 x7 x8 x9 x10 x11 x13 x14 x15 x16 x17 x18 x19 x20 x21 x37 x38 x59 x60 x61 m1 m2 m6 m7 m8 m9 m10 m11 m12 m13 m19 u0 u1 u2 u3 u7 u8 u9 u10 u11 u12 u13 u14 u15 u16 u17 u18 := by
  obtain ⟨sz, nt, ne, n, no, d, A, rT, rE, ⟨rfl, rfl⟩, ⟨rfl, rfl⟩, ⟨rfl, rfl⟩, ⟨rfl, rfl⟩, rW, rO, ⟨rfl, rfl, hd⟩, rV, rC, rX, rM, rK⟩ := id R
  obtain ⟨hc, h1, h2, hn, hne, hsy⟩ := id rW
  have hnn := hc.1
  rcases idx p1 ne with ⟨i, hi, rfl⟩ | h9
  · obtain ⟨q1, q2⟩ := ev_in hi (show ne < 2 ^ 31 by omega)
    unfold f_L_windowFrom f_Main_windowFrom f_M_windowFrom
    have hz : wh u7 u8 u9 u10 u11 (nI i) (nI d) n = 0 ↔ wh u7 u8 u9 u10 u11 (nI i) (nI d) n ≤ 0 := max0 _
    simp only [q1, q2, oB_s, Sum.elim_inl, Sum.elim_inr, if_true, if_neg n10, if_neg sIB, if_neg sAB, if_neg sIA, f_M_no, f_M_isNot, f_M_ok, f_Main_needWindow, x_hours hc (show 60 < N1 by omega), m_hours hc (show 60 < N2 by omega), x_first hc (show 60 < N1 by omega), m_begins hc (show 60 < N2 by omega)]
    by_cases h : wh u7 u8 u9 u10 u11 (nI i) (nI d) n ≤ 0
    · simp only [if_pos h, if_pos (hz.mpr h), oB_s, Sum.elim_inl, Sum.elim_inr, if_true, if_neg n10, if_neg sIB, if_neg sAB, if_neg sIA, f_M_no, f_M_isNot, f_M_ok]
      exact ⟨_, _, rfl, rfl, ⟨rfl, fun h => absurd h n20⟩, R⟩
    · simp only [if_neg h, if_neg (fun h3 => h (hz.mp h3)), oB_s, Sum.elim_inl, Sum.elim_inr, if_true, if_neg n10, if_neg sIB, if_neg sAB, if_neg sIA, f_M_no, f_M_isNot, f_M_ok]
      exact ⟨_, _, rfl, rfl, ⟨rfl, fun _ => up0 out _⟩, R⟩
  · obtain ⟨q1, q2⟩ := ev_out h9 (show ne < 2 ^ 31 by omega)
    unfold f_L_windowFrom f_Main_windowFrom f_M_windowFrom
    simp only [q1, q2, oB_s, Sum.elim_inl, Sum.elim_inr, if_true, if_neg n10, if_neg sIB, if_neg sAB, if_neg sIA, f_M_no, f_M_isNot, f_M_ok]
    exact ⟨_, _, rfl, rfl, ⟨rfl, fun h => absurd h n10⟩, R⟩
theorem cs_windowTo (R : Rel x0 x1 x2 x3 x4 x5 x6 x7 x8 x9 x10 x11 x13 x14 x15 x16 x17 x18 x19 x20 x21 x37 x38 x59 x60 x61 m1 m2 m6 m7 m8 m9 m10 m11 m12 m13 m19 u0 u1 u2 u3 u7 u8 u9 u10 u11 u12 u13 u14 u15 u16 u17 u18) {N1 : Nat} (hN1 : 5000 < N1) {N2 : Nat} (hN2 : 5000 < N2) (out : Nat → Int64) (p1 : Int32) : ∃ o b, f_L_windowTo N1 x3 x5 x6 x7 x8 x9 x10 x59 out p1 = some o ∧ f_M_windowTo N2 m0 m6 u0 u2 u7 u8 u9 u10 u11 p1 = some b ∧ agI o.1 o.2 b.1 b.2 ∧ Rel x0 x1 x2 x3 x4 x5 x6 x7 x8 x9 x10 x11 x13 x14 x15 x16 x17 x18 x19 x20 x21 x37 x38 x59 x60 x61 m1 m2 m6 m7 m8 m9 m10 m11 m12 m13 m19 u0 u1 u2 u3 u7 u8 u9 u10 u11 u12 u13 u14 u15 u16 u17 u18 := by
  obtain ⟨sz, nt, ne, n, no, d, A, rT, rE, ⟨rfl, rfl⟩, ⟨rfl, rfl⟩, ⟨rfl, rfl⟩, ⟨rfl, rfl⟩, rW, rO, ⟨rfl, rfl, hd⟩, rV, rC, rX, rM, rK⟩ := id R
  obtain ⟨hc, h1, h2, hn, hne, hsy⟩ := id rW
  have hnn := hc.1
  rcases idx p1 ne with ⟨i, hi, rfl⟩ | h9
  · obtain ⟨q1, q2⟩ := ev_in hi (show ne < 2 ^ 31 by omega)
    unfold f_L_windowTo f_Main_windowTo f_M_windowTo
    have hz : wh u7 u8 u9 u10 u11 (nI i) (nI d) n = 0 ↔ wh u7 u8 u9 u10 u11 (nI i) (nI d) n ≤ 0 := max0 _
    simp only [q1, q2, oB_s, Sum.elim_inl, Sum.elim_inr, if_true, if_neg n10, if_neg sIB, if_neg sAB, if_neg sIA, f_M_no, f_M_isNot, f_M_ok, f_Main_needWindow, x_hours hc (show 60 < N1 by omega), m_hours hc (show 60 < N2 by omega), x_last hc (show 60 < N1 by omega), m_ends hc (show 60 < N2 by omega)]
    by_cases h : wh u7 u8 u9 u10 u11 (nI i) (nI d) n ≤ 0
    · simp only [if_pos h, if_pos (hz.mpr h), oB_s, Sum.elim_inl, Sum.elim_inr, if_true, if_neg n10, if_neg sIB, if_neg sAB, if_neg sIA, f_M_no, f_M_isNot, f_M_ok]
      exact ⟨_, _, rfl, rfl, ⟨rfl, fun h => absurd h n20⟩, R⟩
    · simp only [if_neg h, if_neg (fun h3 => h (hz.mp h3)), oB_s, Sum.elim_inl, Sum.elim_inr, if_true, if_neg n10, if_neg sIB, if_neg sAB, if_neg sIA, f_M_no, f_M_isNot, f_M_ok]
      exact ⟨_, _, rfl, rfl, ⟨rfl, fun _ => up0 out _⟩, R⟩
  · obtain ⟨q1, q2⟩ := ev_out h9 (show ne < 2 ^ 31 by omega)
    unfold f_L_windowTo f_Main_windowTo f_M_windowTo
    simp only [q1, q2, oB_s, Sum.elim_inl, Sum.elim_inr, if_true, if_neg n10, if_neg sIB, if_neg sAB, if_neg sIA, f_M_no, f_M_isNot, f_M_ok]
    exact ⟨_, _, rfl, rfl, ⟨rfl, fun h => absurd h n10⟩, R⟩
theorem cs_hasOrder (R : Rel x0 x1 x2 x3 x4 x5 x6 x7 x8 x9 x10 x11 x13 x14 x15 x16 x17 x18 x19 x20 x21 x37 x38 x59 x60 x61 m1 m2 m6 m7 m8 m9 m10 m11 m12 m13 m19 u0 u1 u2 u3 u7 u8 u9 u10 u11 u12 u13 u14 u15 u16 u17 u18) {N1 : Nat} (hN1 : 5000 < N1) {N2 : Nat} (hN2 : 5000 < N2) : ∃ o b, f_Main_hasOrder N1 x3 x4 x5 x6 x7 x8 x9 x18 x19 x20 x21 x22 x23 x59 = some o ∧ f_M_hasOrder N2 m0 m6 m9 m10 m11 m12 m19 m20 u0 u1 u2 u7 u8 u9 u10 = some b ∧ o.1 = b.1 ∧ Rel x0 x1 x2 x3 x4 x5 x6 x7 x8 x9 x10 x11 x13 x14 x15 x16 x17 o.2.1 o.2.2.1 o.2.2.2.1 x21 x37 x38 x59 x60 x61 m1 m2 m6 m7 m8 b.2.2.1 b.2.2.2.1 b.2.2.2.2.1 b.2.2.2.2.2.1 m13 m19 u0 u1 u2 u3 u7 u8 u9 u10 u11 u12 u13 u14 u15 u16 u17 u18 := by
  obtain ⟨sz, nt, ne, n, no, d, A, rT, rE, ⟨rfl, rfl⟩, ⟨rfl, rfl⟩, ⟨rfl, rfl⟩, ⟨rfl, rfl⟩, rW, rO, ⟨rfl, rfl, hd⟩, rV, rC, rX, rM, rK⟩ := id R
  obtain ⟨hc, h1, h2, hn, hne, hsy⟩ := id rW
  have hnn := hc.1
  obtain ⟨a2, o2, e1, -⟩ := x_arr hc h1 hn hne hsy hd rX (show 2000 < N1 by omega) x22 x23
  obtain ⟨j2, l2, f3, c2, r2, e2, e3, -⟩ := m_ord hc h2 hn hne hsy hd rM (show 2000 < N2 by omega) m20
  unfold f_Main_hasOrder f_M_hasOrder
  simp only [oB_s, Sum.elim_inl, Sum.elim_inr, if_true, if_neg n10, if_neg sIB, if_neg sAB, if_neg sIA, f_M_no, f_M_isNot, f_M_ok, e1, e2, bI_zB]
  exact ⟨_, _, rfl, rfl, rfl, ⟨sz, nt, ne, n, no, d, A, rT, rE, ⟨rfl, rfl⟩, ⟨rfl, rfl⟩, ⟨rfl, rfl⟩, ⟨rfl, rfl⟩, rW, rO, ⟨rfl, rfl, hd⟩, rV, rC, xc_at hd, e3, rK⟩⟩
theorem cs_eventAt (R : Rel x0 x1 x2 x3 x4 x5 x6 x7 x8 x9 x10 x11 x13 x14 x15 x16 x17 x18 x19 x20 x21 x37 x38 x59 x60 x61 m1 m2 m6 m7 m8 m9 m10 m11 m12 m13 m19 u0 u1 u2 u3 u7 u8 u9 u10 u11 u12 u13 u14 u15 u16 u17 u18) {N1 : Nat} (hN1 : 5000 < N1) {N2 : Nat} (hN2 : 5000 < N2) (out : Nat → Int64) (p1 : Int32) : ∃ o b, f_L_eventAt N1 x3 x4 x5 x6 x7 x8 x9 x18 x19 x20 x21 x22 x23 x59 out p1 = some o ∧ f_M_eventAt N2 m0 m6 m9 m10 m11 m12 m19 m20 u0 u1 u2 u7 u8 u9 u10 p1 = some b ∧ agI o.1 o.2.2.2.2.2.2 b.1 b.2.1 ∧ Rel x0 x1 x2 x3 x4 x5 x6 x7 x8 x9 x10 x11 x13 x14 x15 x16 x17 o.2.1 o.2.2.1 o.2.2.2.1 x21 x37 x38 x59 x60 x61 m1 m2 m6 m7 m8 b.2.2.1 b.2.2.2.1 b.2.2.2.2.1 b.2.2.2.2.2.1 m13 m19 u0 u1 u2 u3 u7 u8 u9 u10 u11 u12 u13 u14 u15 u16 u17 u18 := by
  obtain ⟨sz, nt, ne, n, no, d, A, rT, rE, ⟨rfl, rfl⟩, ⟨rfl, rfl⟩, ⟨rfl, rfl⟩, ⟨rfl, rfl⟩, rW, rO, ⟨rfl, rfl, hd⟩, rV, rC, rX, rM, rK⟩ := id R
  obtain ⟨hc, h1, h2, hn, hne, hsy⟩ := id rW
  have hnn := hc.1
  rcases idx p1 ne with ⟨i, hi, rfl⟩ | h9
  · obtain ⟨q1, q2⟩ := ev_in hi (show ne < 2 ^ 31 by omega)
    obtain ⟨a2, o2, e1, e4⟩ := x_arr hc h1 hn hne hsy hd rX (show 2000 < N1 by omega) x22 x23
    obtain ⟨j2, l2, f3, c2, r2, e2, e3, e5⟩ := m_ord hc h2 hn hne hsy hd rM (show 2000 < N2 by omega) m20
    unfold f_L_eventAt f_Main_eventAt f_M_eventAt
    simp only [q2, oB_s, Sum.elim_inl, Sum.elim_inr, if_true, if_neg n10, if_neg sIB, if_neg sAB, if_neg sIA, f_M_no, f_M_isNot, f_M_ok, e1, e2, if_neg (nI_pos (show i < 2 ^ 31 by omega)), if_pos (nI_lt hi (show ne < 2 ^ 31 by omega)), rg (show i < 8 by omega) (show 8 < 2147483648 by decide), ib_nI (show i < 8 by omega) (show 8 < 2147483648 by decide), nI_clamp (show i < 2 ^ 31 by omega)]
    cases ho : og u7 u8 u9 u10 n ne (trN A nt d) ne with
    | none =>
      simp only [Option.isSome, show bI false = 0 from rfl, oB_s, Sum.elim_inl, Sum.elim_inr, if_true, if_neg n10, if_neg sIB, if_neg sAB, if_neg sIA, f_M_no, f_M_isNot, f_M_ok]
      exact ⟨_, _, rfl, rfl, ⟨rfl, fun h => absurd h n20⟩, ⟨sz, nt, ne, n, no, d, A, rT, rE, ⟨rfl, rfl⟩, ⟨rfl, rfl⟩, ⟨rfl, rfl⟩, ⟨rfl, rfl⟩, rW, rO, ⟨rfl, rfl, hd⟩, rV, rC, xc_at hd, e3, rK⟩⟩
    | some q =>
      simp only [Option.isSome, show bI true = 1 from rfl, oB_s, Sum.elim_inl, Sum.elim_inr, if_true, if_neg n10, if_neg sIB, if_neg sAB, if_neg sIA, f_M_no, f_M_isNot, f_M_ok]
      exact ⟨_, _, rfl, rfl, ⟨rfl, fun _ => up1 out ((e4 q ho i hi).trans (e5 q ho i hi).symm)⟩, ⟨sz, nt, ne, n, no, d, A, rT, rE, ⟨rfl, rfl⟩, ⟨rfl, rfl⟩, ⟨rfl, rfl⟩, ⟨rfl, rfl⟩, rW, rO, ⟨rfl, rfl, hd⟩, rV, rC, xc_at hd, e3, rK⟩⟩
  · obtain ⟨q1, q2⟩ := ev_out h9 (show ne < 2 ^ 31 by omega)
    unfold f_L_eventAt f_Main_eventAt f_M_eventAt
    by_cases hp : p1 < 0
    · simp only [q2, if_pos hp, oB_s, Sum.elim_inl, Sum.elim_inr, if_true, if_neg n10, if_neg sIB, if_neg sAB, if_neg sIA, f_M_no, f_M_isNot, f_M_ok]
      exact ⟨_, _, rfl, rfl, ⟨rfl, fun h => absurd h n10⟩, R⟩
    · obtain ⟨j, hj, rfl⟩ := nI_of hp
      have h2 : ne ≤ j := Nat.le_of_not_lt (fun h3 => h9 j h3 rfl)
      simp only [q2, if_neg hp, if_neg (nI_nlt h2 hj), oB_s, Sum.elim_inl, Sum.elim_inr, if_true, if_neg n10, if_neg sIB, if_neg sAB, if_neg sIA, f_M_no, f_M_isNot, f_M_ok]
      exact ⟨_, _, rfl, rfl, ⟨rfl, fun h => absurd h n10⟩, R⟩
end CA
