/-! evenings that pass, or would; whom one had best doubt; the mean -/
theorem ev_cases (p : Int32) : (f_Main_needEvenings p = some (.inr "java/lang/IllegalArgumentException") ∧ f_M_isIn p 1 30 = 0) ∨ ∃ k, k ≤ 30 ∧ p = nI k ∧ f_Main_needEvenings p = some (.inl ()) ∧ f_M_isIn p 1 30 = 1 := by
  unfold f_Main_needEvenings f_M_isIn
  by_cases h1 : p < 1
  · exact Or.inl ⟨by rw [if_pos h1], by rw [if_pos h1]⟩
  · have h0 : ¬ p < 0 := fun h => h1 (Int32.lt_trans h (by decide))
    obtain ⟨k, hk, rfl⟩ := nI_of h0
    by_cases h2 : k ≤ 30
    · have h3 : nI k ≤ 30 := nI_le (b := 30) h2 (by decide)
      exact Or.inr ⟨k, h2, rfl, by rw [if_neg h1, if_pos h3], by rw [if_neg h1, if_neg (Int32.not_lt.mpr h3)]⟩
    · have h3 : ¬ nI k ≤ 30 := nI_ge (a := 30) (by omega) hk
      exact Or.inl ⟨by rw [if_neg h1, if_neg h3], by rw [if_neg h1, if_pos (Int32.not_le.mp h3)]⟩
/-- as lp_two, but the second one may go on for one turn more -/
theorem lp_two2 {S1 T1 S2 T2 : Type} {st1 : S1 → S1 ⊕ T1} {st2 : S2 → S2 ⊕ T2} {g1 : T1} {g2 : T2} (I : Nat → S1 → S2 → Prop) (k : Nat) (R : T1 → T2 → Prop)
    (h1 : ∀ j s1 s2, j < k → I j s1 s2 → (∃ a b, st1 s1 = .inl a ∧ st2 s2 = .inl b ∧ I (j + 1) a b) ∨ (∃ a b, st1 s1 = .inr a ∧ st2 s2 = .inr b ∧ R a b))
    (h2 : ∀ s1 s2, I k s1 s2 → ∃ a b, st1 s1 = .inr a ∧ (∀ m, 1 < m → lpS st2 g2 m s2 = b) ∧ R a b) {n1 n2 : Nat} {s1 : S1} {s2 : S2} (hn1 : k < n1) (hn2 : k + 1 < n2) (h0 : I 0 s1 s2) : ∃ a b, lpS st1 g1 n1 s1 = a ∧ lpS st2 g2 n2 s2 = b ∧ R a b := by
  have key : ∀ m j n1 n2 s1 s2, j + m = k → m < n1 → m + 1 < n2 → I j s1 s2 → ∃ a b, lpS st1 g1 n1 s1 = a ∧ lpS st2 g2 n2 s2 = b ∧ R a b := by
    intro m
    induction m with
    | zero =>
      intro j n1 n2 s1 s2 hj a1 a2 hI
      cases n1 with
      | zero => omega
      | succ n1 =>
        have e : j = k := by omega
        subst e
        obtain ⟨a, b, h3, h4, h5⟩ := h2 s1 s2 hI
        exact ⟨a, b, lp_out h3, h4 n2 (by omega), h5⟩
    | succ m ih =>
      intro j n1 n2 s1 s2 hj a1 a2 hI
      cases n1 with
      | zero => omega
      | succ n1 =>
        cases n2 with
        | zero => omega
        | succ n2 =>
          rcases h1 j s1 s2 (by omega) hI with ⟨a, b, h3, h4, h5⟩ | ⟨a, b, h3, h4, h5⟩
          · rw [lp_in h3, lp_in h4]
            exact ih (j + 1) n1 n2 a b (by omega) (by omega) (by omega) h5
          · exact ⟨a, b, lp_out h3, lp_out h4, h5⟩
  exact key k 0 n1 n2 s1 s2 (by omega) hn1 hn2 h0
section AH
variable {A : Nat → Nat} {nt ne n d : Nat} {xT xK xE xF xL uK uB uO uR uL f1 f2 : Nat → Int32} {no : Nat} {xD xW xEd xSk xSp uD uW uBg uEd uOr uWi uAl : Nat → Int32}
theorem passE (hw : Wd A nt ne n xT xK xE xF xL uK uB uO uR uL f1 f2) (ho : OR nt no xD xW xEd xSk xSp uD uW uBg uEd uOr uWi uAl) (hd : d < 1024) {N1 N2 : Nat} (hN1 : 2000 < N1) (hN2 : 2000 < N2) {j l c mj ml mf mc : Int32} (hx : XC A nt j l c) (hm : MC A nt mj ml mf mc) (ev cr top : Int32) (xs ms : Nat → Int32) {k : Nat} (hk : k ≤ 30) :
    ∃ d2 ev2 cr2 j2 l2 c2 top2 xs2 mj2 ml2 mf2 mc2 ms2, d2 < 1024 ∧ lpS (f_Main_passEvenings_L15 N1 (nI nt) (nI n) xT xK xE xF xL (nI no) xD xW xEd xSk xSp f1 cr (nI k)) none N1 (0, j, l, c, top, nI d, ev, cr, xs) = some (.inl (cr2 - cr, j2, l2, c2, top2, nI d2, ev2, cr2, xs2)) ∧ XC A nt j2 l2 c2 ∧
      f_M_pass N2 (nI d) ev cr mj ml mf mc f2 ms (nI nt) (nI n) (nI no) uK uB uO uR uL uD uW uBg uEd uOr uWi uAl (nI k) = some (cr2 - cr, nI d2, ev2, cr2, mj2, ml2, mf2, mc2, ms2) ∧ MC A nt mj2 ml2 mf2 mc2 := by
  obtain ⟨d2, ev2, cr2, j2, l2, c2, top2, xs2, mj2, ml2, mf2, mc2, ms2, t, q1, q2, q3, q4, q5, q6⟩ := pass_many hw ho hd hN1 hN2 hx hm ev cr top cr xs ms hk (st := f_Main_passEvenings_L15 N1 (nI nt) (nI n) xT xK xE xF xL (nI no) xD xW xEd xSk xSp f1 cr (nI k)) (fail := none) (fun i d j l c top ev2 cr2 xs j2 l2 c2 top2 d2 ev3 cr3 xs2 hi e => by
      unfold f_Main_passEvenings_L15
      simp only [if_neg (nI_ge hi (show k < 2 ^ 31 by omega)), e, oB_s, ← nI_succ]) (fun z t => t = some (.inl (z.2.2.2.2.2.2.2.1 - cr, z.2.1, z.2.2.1, z.2.2.2.1, z.2.2.2.2.1, z.2.2.2.2.2.1, z.2.2.2.2.2.2.1, z.2.2.2.2.2.2.2.1, z.2.2.2.2.2.2.2.2))) (fun d j l c top ev2 cr2 xs _ _ => by
      unfold f_Main_passEvenings_L15
      simp only [if_pos (nI_le (Nat.le_refl k) (show k < 2 ^ 31 by omega))]
      exact ⟨_, rfl, rfl⟩)
  exact ⟨d2, ev2, cr2, j2, l2, c2, top2, xs2, mj2, ml2, mf2, mc2, ms2, q1, by rw [q2, q3], q4, q5, q6⟩
theorem passL (hw : Wd A nt ne n xT xK xE xF xL uK uB uO uR uL f1 f2) (ho : OR nt no xD xW xEd xSk xSp uD uW uBg uEd uOr uWi uAl) (hd : d < 1024) {N1 N2 : Nat} (hN1 : 2000 < N1) (hN2 : 2000 < N2) {j l c mj ml mf mc : Int32} (hx : XC A nt j l c) (hm : MC A nt mj ml mf mc) (ev cr top : Int32) (xs ms : Nat → Int32) {k : Nat} (hk : k ≤ 30) :
    ∃ d2 ev2 cr2 top2 xs2 mj2 ml2 mf2 mc2 ms2, d2 < 1024 ∧ lpS (f_Main_liarsAfter_L18 N1 (nI nt) (nI n) xT xK xE xF xL (nI no) xD xW xEd xSk xSp f1 (nI k)) none N1 (0, j, l, c, top, nI d, ev, cr, xs) = some (.inl (nI (pcN (lsN A nt d2)), nI d2, nI (lsN A nt d2), nI (csN A nt d2), top2, nI d2, ev2, cr2, xs2)) ∧
      f_M_pass N2 (nI d) ev cr mj ml mf mc f2 ms (nI nt) (nI n) (nI no) uK uB uO uR uL uD uW uBg uEd uOr uWi uAl (nI k) = some (cr2 - cr, nI d2, ev2, cr2, mj2, ml2, mf2, mc2, ms2) ∧ MC A nt mj2 ml2 mf2 mc2 := by
  obtain ⟨-, h1, h2, hn, hne, hsy⟩ := id hw
  obtain ⟨d2, ev2, cr2, j2, l2, c2, top2, xs2, mj2, ml2, mf2, mc2, ms2, t, q1, q2, q3, q4, q5, q6⟩ := pass_many hw ho hd hN1 hN2 hx hm ev cr top cr xs ms hk (st := f_Main_liarsAfter_L18 N1 (nI nt) (nI n) xT xK xE xF xL (nI no) xD xW xEd xSk xSp f1 (nI k)) (fail := none) (fun i d j l c top ev2 cr2 xs j2 l2 c2 top2 d2 ev3 cr3 xs2 hi e => by
      unfold f_Main_liarsAfter_L18
      simp only [if_neg (nI_ge hi (show k < 2 ^ 31 by omega)), e, oB_s, ← nI_succ]) (fun z t => ∃ d2, d2 < 1024 ∧ z.2.2.2.2.2.1 = nI d2 ∧ t = some (.inl (nI (pcN (lsN A nt d2)), nI d2, nI (lsN A nt d2), nI (csN A nt d2), z.2.2.2.2.1, z.2.2.2.2.2.1, z.2.2.2.2.2.2.1, z.2.2.2.2.2.2.2.1, z.2.2.2.2.2.2.2.2))) (fun d j l c top ev2 cr2 xs hd2 hx2 => by
      unfold f_Main_liarsAfter_L18
      simp only [if_pos (nI_le (Nat.le_refl k) (show k < 2 ^ 31 by omega)), x_liar h1 hn hsy hd2 hx2 hN1, oB_s, q_pc _ (LS_lt (d := d) h1 hn hsy)]
      exact ⟨_, rfl, d, hd2, rfl, rfl⟩)
  obtain ⟨d3, q7, q8, q9⟩ := q3
  have q8' : nI d2 = nI d3 := q8
  have := (nI_eq (by omega) (by omega)).mp q8'
  subst this
  exact ⟨d2, ev2, cr2, top2, xs2, mj2, ml2, mf2, mc2, ms2, q1, by rw [q2, q9], q5, q6⟩
theorem pc0 : ∀ s, s < 1024 → (pcN s = 0 ↔ s = 0) := by decide +kernel
theorem pass1 {N2 : Nat} {d3 d4 : Int32} {ev3 cr3 cr4 mj ml mf mc mj4 ml4 mf4 mc4 : Int32} {ms ms4 : Nat → Int32}
    (r2 : lpS (f_M_pass_L15 N2 f2 (nI nt) (nI n) (nI no) uK uB uO uR uL uD uW uBg uEd uOr uWi uAl 0 ev3) (.inr none) N2 (0, d3, cr3, mj, ml, mf, mc, ms) = .inl (0 + 1, d4, ev3 + 1, cr4, mj4, ml4, mf4, mc4, ms4)) (hN : 2 < N2) :
    f_M_pass N2 d3 ev3 cr3 mj ml mf mc f2 ms (nI nt) (nI n) (nI no) uK uB uO uR uL uD uW uBg uEd uOr uWi uAl 1 = some (cr4 - cr3, d4, ev3 + 1, cr4, mj4, ml4, mf4, mc4, ms4) := by
  unfold f_M_pass
  obtain ⟨M, hM⟩ : ∃ M, N2 = M + 1 + 1 := ⟨N2 - 2, by omega⟩
  have s1 : f_M_pass_L7 N2 cr3 f2 (nI nt) (nI n) (nI no) uK uB uO uR uL uD uW uBg uEd uOr uWi uAl 1 (0, d3, ev3, cr3, mj, ml, mf, mc, ms) = .inl (0 + 1, d4, ev3 + 1, cr4, mj4, ml4, mf4, mc4, ms4) := by
    unfold f_M_pass_L7
    rw [if_neg (show ¬ (1 : Int32) ≤ 0 by decide)]
    exact r2
  have s2 : f_M_pass_L7 N2 cr3 f2 (nI nt) (nI n) (nI no) uK uB uO uR uL uD uW uBg uEd uOr uWi uAl 1 (0 + 1, d4, ev3 + 1, cr4, mj4, ml4, mf4, mc4, ms4) = .inr (some (cr4 - cr3, d4, ev3 + 1, cr4, mj4, ml4, mf4, mc4, ms4)) := by
    unfold f_M_pass_L7
    rw [if_pos (show (1 : Int32) ≤ 0 + 1 by decide)]
  generalize hg : f_M_pass_L7 N2 cr3 f2 (nI nt) (nI n) (nI no) uK uB uO uR uL uD uW uBg uEd uOr uWi uAl 1 = stp at s1 s2 ⊢
  rw [hM, lp_in s1, lp_out s2]
theorem untilS (hw : Wd A nt ne n xT xK xE xF xL uK uB uO uR uL f1 f2) (ho : OR nt no xD xW xEd xSk xSp uD uW uBg uEd uOr uWi uAl) (hd : d < 1024) {N1 N2 : Nat} (hN1 : 2000 < N1) (hN2 : 2000 < N2) {j l c mj ml mf mc : Int32} (hx : XC A nt j l c) (hm : MC A nt mj ml mf mc) (ev cr top d0 e0 c0 th : Int32) (xs ms : Nat → Int32) :
    ∃ v j2 l2 c2 top2 d2 ev2 cr2 xs2 mj2 ml2 mf2 mc2 ms2, f_Main_eveningsUntilOneStory N1 (nI nt) (nI n) xT xK xE xF xL (nI no) xD xW xEd xSk xSp j l c f1 (nI d) ev cr top d0 e0 c0 xs = some (v, j2, l2, c2, top2, d2, ev2, cr2, xs2) ∧ XC A nt j2 l2 c2 ∧
      f_M_eveningsUntilOneStory N2 th (nI d) ev cr mj ml mf mc f2 ms (nI nt) (nI n) (nI no) uK uB uO uR uL uD uW uBg uEd uOr uWi uAl = some (v, 0, nI d, ev, cr, mj2, ml2, mf2, mc2, ms2) ∧ MC A nt mj2 ml2 mf2 mc2 := by
  obtain ⟨-, h1, h2, hn, hne, hsy⟩ := id hw
  unfold f_Main_eveningsUntilOneStory f_M_eveningsUntilOneStory f_Co_copyFrom
  rw [oB_s]
  have key := lp_two2 (st1 := f_Main_eveningsUntilOneStory_L13 N1 (nI nt) (nI n) xT xK xE xF xL (nI no) xD xW xEd xSk xSp f1) (st2 := f_M_eveningsUntilOneStory_L32 N2 f2 (nI nt) (nI n) (nI no) uK uB uO uR uL uD uW uBg uEd uOr uWi uAl (upd (upd (upd (fun _ => (0 : Int32)) (0 : Int32).toNatClampNeg (nI d)) (1 : Int32).toNatClampNeg ev) (2 : Int32).toNatClampNeg cr)) (g1 := none) (g2 := none)
    (fun i z1 z2 => ∃ d3 ev3 cr3 j l c top xs mj ml mf mc ms, d3 < 1024 ∧ z1 = (nI i, j, l, c, top, nI d3, ev3, cr3, xs) ∧ z2 = (nI i, nI d3, ev3, cr3, mj, ml, mf, mc, ms) ∧ XC A nt j l c ∧ MC A nt mj ml mf mc) 30
    (fun t1 t2 => ∃ v j2 l2 c2 top2 d2 ev2 cr2 xs2 mj2 ml2 mf2 mc2 ms2, t1 = some (v, j2, l2, c2, top2, d2, ev2, cr2, xs2) ∧ XC A nt j2 l2 c2 ∧ t2 = some (v, 0, nI d, ev, cr, mj2, ml2, mf2, mc2, ms2) ∧ MC A nt mj2 ml2 mf2 mc2)
    ?_ ?_ (n1 := N1) (n2 := N2) (s1 := (0, j, l, c, top, nI d, ev, cr, xs)) (s2 := (0, nI d, ev, cr, mj, ml, mf, mc, ms)) (by omega) (by omega) ⟨d, ev, cr, j, l, c, top, xs, mj, ml, mf, mc, ms, hd, rfl, rfl, hx, hm⟩
  · obtain ⟨a, b, q1, q2, v, j2, l2, c2, top2, d2, ev2, cr2, xs2, mj2, ml2, mf2, mc2, ms2, rfl, q3, rfl, q4⟩ := key
    exact ⟨v, j2, l2, c2, top2, d2, ev2, cr2, xs2, mj2, ml2, mf2, mc2, ms2, q1, q3, q2, q4⟩
  · rintro i z1 z2 hi ⟨d3, ev3, cr3, j, l, c, top, xs, mj, ml, mf, mc, ms, hd3, rfl, rfl, hx3, hm3⟩
    have g1 : ¬ (30 : Int32) ≤ nI i := nI_ge (b := 30) hi (by decide)
    have g2 : ¬ (30 : Int32) < nI i := fun h => g1 (Int32.le_of_lt h)
    have g3 : nI i ≤ 30 := nI_le (b := 30) (by omega) (by decide)
    have hl := LS_lt (d := d3) h1 hn hsy
    have hp := pcN_le _ hl
    by_cases hz : lsN A nt d3 = 0
    · right
      have z1 : nI (lsN A nt d3) = 0 := by rw [hz]; rfl
      have z2 : nI (pcN (lsN A nt d3)) ≤ 0 := by rw [(pc0 _ hl).mpr hz]; decide
      refine ⟨_, _, ?_, ?_, nI i, nI d3, nI (lsN A nt d3), nI (csN A nt d3), top, nI d3, ev3, cr3, xs, nI d3, nI (lsN A nt d3), nI (pcN (lsN A nt d3)), nI (csN A nt d3), ms, rfl, xc_at hd3, rfl, mc_at hd3⟩
      · unfold f_Main_eveningsUntilOneStory_L13
        simp only [if_neg g1, x_liar h1 hn hsy hd3 hx3 hN1, oB_s, if_pos z1]
      · unfold f_M_eveningsUntilOneStory_L32 f_M_goBack
        simp only [if_neg g2, m_liars h2 hn hsy hd3 hm3 hN2, oB_s, if_pos z2, if_pos g3]
        rfl
    · left
      have z1 : ¬ nI (lsN A nt d3) = 0 := fun h => hz ((q_0 (by omega)).mp h)
      have z2 : ¬ nI (pcN (lsN A nt d3)) ≤ 0 := nI_nle (by have : ¬ pcN (lsN A nt d3) = 0 := fun h => hz ((pc0 _ hl).mp h); omega) (by omega)
      obtain ⟨d4, cr4, j4, l4, c4, top4, xs4, mj4, ml4, mf4, mc4, ms4, h9, r1, r2, r3, r4⟩ := pass_one hw ho hd3 hN1 hN2 (xc_at hd3) (mc_at hd3) ev3 cr3 top 0 xs ms
      refine ⟨(nI (i + 1), j4, l4, c4, top4, nI d4, ev3 + 1, cr4, xs4), (nI (i + 1), nI d4, ev3 + 1, cr4, mj4, ml4, mf4, mc4, ms4), ?_, ?_, d4, ev3 + 1, cr4, j4, l4, c4, top4, xs4, mj4, ml4, mf4, mc4, ms4, h9, rfl, rfl, r3, r4⟩
      · unfold f_Main_eveningsUntilOneStory_L13
        simp only [if_neg g1, x_liar h1 hn hsy hd3 hx3 hN1, oB_s, if_neg z1, r1, ← nI_succ]
      · have e9 := pass1 r2 (by omega)
        unfold f_M_eveningsUntilOneStory_L32
        simp only [if_neg g2, m_liars h2 hn hsy hd3 hm3 hN2, oB_s, if_neg z2, e9, ← nI_succ]
  · rintro z1 z2 ⟨d3, ev3, cr3, j, l, c, top, xs, mj, ml, mf, mc, ms, hd3, rfl, rfl, hx3, hm3⟩
    have hl := LS_lt (d := d3) h1 hn hsy
    have hp := pcN_le _ hl
    have g1 : (30 : Int32) ≤ nI 30 := by decide
    have g2 : ¬ (30 : Int32) < nI 30 := by decide
    have g3 : nI 30 ≤ 30 := by decide
    by_cases hz : lsN A nt d3 = 0
    · have z1 : nI (lsN A nt d3) = 0 := by rw [hz]; rfl
      have z2 : nI (pcN (lsN A nt d3)) ≤ 0 := by rw [(pc0 _ hl).mpr hz]; decide
      refine ⟨_, some (30, 0, nI d, ev, cr, nI d3, nI (lsN A nt d3), nI (pcN (lsN A nt d3)), nI (csN A nt d3), ms), ?_, fun m hm => ?_, 30, nI d3, nI (lsN A nt d3), nI (csN A nt d3), top, nI d3, ev3, cr3, xs, nI d3, nI (lsN A nt d3), nI (pcN (lsN A nt d3)), nI (csN A nt d3), ms, rfl, xc_at hd3, rfl, mc_at hd3⟩
      · unfold f_Main_eveningsUntilOneStory_L13
        simp only [if_pos g1, x_liar h1 hn hsy hd3 hx3 hN1, oB_s, if_pos z1]
      · obtain ⟨M, rfl⟩ : ∃ M, m = M + 1 := ⟨m - 1, by omega⟩
        apply lp_out
        unfold f_M_eveningsUntilOneStory_L32 f_M_goBack
        simp only [if_neg g2, m_liars h2 hn hsy hd3 hm3 hN2, oB_s, if_pos z2, if_pos g3]
        rfl
    · have z1 : ¬ nI (lsN A nt d3) = 0 := fun h => hz ((q_0 (by omega)).mp h)
      have z2 : ¬ nI (pcN (lsN A nt d3)) ≤ 0 := nI_nle (by have : ¬ pcN (lsN A nt d3) = 0 := fun h => hz ((pc0 _ hl).mp h); omega) (by omega)
      obtain ⟨d4, cr4, j4, l4, c4, top4, xs4, mj4, ml4, mf4, mc4, ms4, h9, r1, r2, r3, r4⟩ := pass_one hw ho hd3 hN1 hN2 (xc_at hd3) (mc_at hd3) ev3 cr3 top 0 xs ms
      have e9 := pass1 r2 (by omega)
      refine ⟨_, some (-1, 0, nI d, ev, cr, mj4, ml4, mf4, mc4, ms4), ?_, fun m hm => ?_, -1, nI d3, nI (lsN A nt d3), nI (csN A nt d3), top, nI d3, ev3, cr3, xs, mj4, ml4, mf4, mc4, ms4, rfl, xc_at hd3, rfl, r4⟩
      · unfold f_Main_eveningsUntilOneStory_L13
        simp only [if_pos g1, x_liar h1 hn hsy hd3 hx3 hN1, oB_s, if_neg z1]
      · obtain ⟨M, rfl⟩ : ∃ M, m = M + 1 + 1 := ⟨m - 2, by omega⟩
        have s1 : f_M_eveningsUntilOneStory_L32 N2 f2 (nI nt) (nI n) (nI no) uK uB uO uR uL uD uW uBg uEd uOr uWi uAl (upd (upd (upd (fun _ => (0 : Int32)) (0 : Int32).toNatClampNeg (nI d)) (1 : Int32).toNatClampNeg ev) (2 : Int32).toNatClampNeg cr) (nI 30, nI d3, ev3, cr3, mj, ml, mf, mc, ms) = .inl (nI 31, nI d4, ev3 + 1, cr4, mj4, ml4, mf4, mc4, ms4) := by
          unfold f_M_eveningsUntilOneStory_L32
          simp only [if_neg g2, m_liars h2 hn hsy hd3 hm3 hN2, oB_s, if_neg z2, e9, ← nI_succ]
        rw [lp_in s1]
        apply lp_out
        unfold f_M_eveningsUntilOneStory_L32 f_M_goBack
        simp only [if_pos (show (30 : Int32) < nI 31 by decide), oB_s, if_neg (show ¬ nI 31 ≤ (30 : Int32) by decide)]
        rfl
/-- whom one had best doubt -/
theorem bel_or {nt d t : Nat} : belN nt (d ||| 2 ^ t) = dif (belN nt d) (2 ^ t) := by
  apply Nat.eq_of_testBit_eq
  intro k
  rw [bel_bit, dif_bit, bel_bit, Nat.testBit_or]
  cases decide (k < nt) <;> cases d.testBit k <;> cases (2 ^ t).testBit k <;> rfl
theorem bestS (h1 : Ag A f1) (h2 : Ag A f2) (hn : nt ≤ 10) (hsy : symA A) {N1 N2 : Nat} (hN1 : 2000 < N1) (hN2 : 2000 < N2) (th : Int32) : ∃ v, f_Main_bestToDoubt N1 (nI nt) f1 (nI d) = some v ∧ f_M_bestToDoubt N2 th (nI d) f2 (nI nt) = some (v, 0) := by
  unfold f_Main_bestToDoubt f_M_bestToDoubt
  rw [x_pn h1 hn (show 60 < N1 by omega), m_bel (show nt < 32 by omega), m_pn h2 hsy hn (show 60 < N2 by omega) (bel_10 (d := d) hn), oB_s, oB_s]
  have key := lp_two (st1 := f_Main_bestToDoubt_L19 N1 (nI nt) f1 (nI d)) (st2 := f_M_bestToDoubt_L18 N2 (nI d) f2 (nI nt)) (g1 := none) (g2 := none) (fun i z1 z2 => ∃ a b, z1 = (a, b, nI i) ∧ z2 = (a, b, nI i)) nt (fun t1 t2 => ∃ v, t1 = some v ∧ t2 = some (v, 0)) ?_ ?_ (n1 := N1) (n2 := N2) (s1 := (-1, nI (pnT A (belN nt d) nt), 0)) (s2 := (-1, nI (pnT A (belN nt d) nt), 0)) (by omega) (by omega) ⟨_, _, rfl, rfl⟩
  · obtain ⟨a, b, q1, q2, v, rfl, rfl⟩ := key
    exact ⟨v, q1, q2⟩
  · rintro i z1 z2 hi ⟨a, b, rfl, rfl⟩
    left
    have e1 : f_Ve_pairCount N1 (nI nt) f1 (nI (d ||| 2 ^ i)) = some (nI (pnT A (dif (belN nt d) (2 ^ i)) nt)) := by rw [x_pn h1 hn (show 60 < N1 by omega), bel_or]
    have e2 : f_M_pairsNow N2 f2 (nI nt) (nI (dif (belN nt d) (2 ^ i))) = some (nI (pnT A (dif (belN nt d) (2 ^ i)) nt)) := m_pn h2 hsy hn (show 60 < N2 by omega) (dif_lt (n := 10) (bel_10 (d := d) hn))
    by_cases h : nI (pnT A (dif (belN nt d) (2 ^ i)) nt) < b
    · refine ⟨_, _, ?_, ?_, nI i, nI (pnT A (dif (belN nt d) (2 ^ i)) nt), rfl, rfl⟩
      · unfold f_Main_bestToDoubt_L19
        simp only [if_neg (nI_ge hi (show nt < 2 ^ 31 by omega)), q_bit i (show i < 32 by omega), q_or, e1, oB_s, if_neg (Int32.not_le.mpr h), ← nI_succ]
      · unfold f_M_bestToDoubt_L18
        simp only [if_neg (nI_ge hi (show nt < 2 ^ 31 by omega)), m_bel (show nt < 32 by omega), q_bit i (show i < 32 by omega), q_dif, e2, oB_s, if_pos h, ← nI_succ]
    · refine ⟨_, _, ?_, ?_, a, b, rfl, rfl⟩
      · unfold f_Main_bestToDoubt_L19
        simp only [if_neg (nI_ge hi (show nt < 2 ^ 31 by omega)), q_bit i (show i < 32 by omega), q_or, e1, oB_s, if_pos (Int32.not_lt.mp h), ← nI_succ]
      · unfold f_M_bestToDoubt_L18
        simp only [if_neg (nI_ge hi (show nt < 2 ^ 31 by omega)), m_bel (show nt < 32 by omega), q_bit i (show i < 32 by omega), q_dif, e2, oB_s, if_neg h, ← nI_succ]
  · rintro z1 z2 ⟨a, b, rfl, rfl⟩
    refine ⟨_, _, ?_, ?_, a, rfl, rfl⟩
    · unfold f_Main_bestToDoubt_L19
      simp only [if_pos (nI_le (Nat.le_refl nt) (show nt < 2 ^ 31 by omega))]
    · unfold f_M_bestToDoubt_L18
      simp only [if_pos (nI_le (Nat.le_refl nt) (show nt < 2 ^ 31 by omega))]
end AH
theorem mean_ok : ∀ t, t < 11 → 0 < t → ∀ n, n < 41 → nfB (FP.ddiv (FP.i2d (nI n)) (FP.i2d (nI t))) = true := by decide +kernel
