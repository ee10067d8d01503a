/-! evenings -/
section PA
variable {A : Nat → Nat} {nt ne n d : Nat} {xT xK xE xF xL uK uB uO uR uL f1 f2 : Nat → Int32} {no : Nat} {xD xW xEd xSk xSp uD uW uBg uEd uOr uWi uAl : Nat → Int32}
theorem add0 (x : Int32) : x + 0 = x := Int32.add_zero x
theorem pass_one (hw : Wd A nt ne n xT xK xE xF xL uK uB uO uR uL f1 f2) (ho : OR nt no xD xW xEd xSk xSp uD uW uBg uEd uOr uWi uAl) (hd : d < 1024) {N1 N2 : Nat} (hN1 : 2000 < N1) (hN2 : 2000 < N2) {j l c mj ml mf mc : Int32} (hx : XC A nt j l c) (hm : MC A nt mj ml mf mc) (ev cr top l3 : Int32) (xs ms : Nat → Int32) :
    ∃ d2 cr2 j2 l2 c2 top2 xs2 mj2 ml2 mf2 mc2 ms2, d2 < 1024 ∧ f_Co_passOne N1 (nI nt) (nI n) xT xK xE xF xL (nI no) xD xW xEd xSk xSp j l c f1 top (nI d) ev cr xs = some (j2, l2, c2, top2, nI d2, ev + 1, cr2, xs2) ∧
      lpS (f_M_pass_L15 N2 f2 (nI nt) (nI n) (nI no) uK uB uO uR uL uD uW uBg uEd uOr uWi uAl l3 ev) (.inr none) N2 (0, nI d, cr, mj, ml, mf, mc, ms) = .inl (l3 + 1, nI d2, ev + 1, cr2, mj2, ml2, mf2, mc2, ms2) ∧ XC A nt j2 l2 c2 ∧ MC A nt mj2 ml2 mf2 mc2 := by
  have hno := ho.1
  obtain ⟨E, hE⟩ := ho.2
  have hn : nt ≤ 10 := hw.2.2.2.1
  unfold f_Co_passOne
  have key := lp_two (st1 := f_Co_passOne_L2 N1 (nI nt) (nI n) xT xK xE xF xL (nI no) xD xW xEd xSk xSp f1 ev) (st2 := f_M_pass_L15 N2 f2 (nI nt) (nI n) (nI no) uK uB uO uR uL uD uW uBg uEd uOr uWi uAl l3 ev) (g1 := none) (g2 := .inr none)
    (fun i z1 z2 => ∃ d j l c top cr xs mj ml mf mc ms, d < 1024 ∧ z1 = (nI i, j, l, c, top, nI d, cr, xs) ∧ z2 = (nI i, nI d, cr, mj, ml, mf, mc, ms) ∧ XC A nt j l c ∧ MC A nt mj ml mf mc) no
    (fun t1 t2 => ∃ d2 cr2 j2 l2 c2 top2 xs2 mj2 ml2 mf2 mc2 ms2, d2 < 1024 ∧ t1 = some (j2, l2, c2, top2, nI d2, ev + 1, cr2, xs2) ∧ t2 = .inl (l3 + 1, nI d2, ev + 1, cr2, mj2, ml2, mf2, mc2, ms2) ∧ XC A nt j2 l2 c2 ∧ MC A nt mj2 ml2 mf2 mc2)
    ?_ ?_ (n1 := N1) (n2 := N2) (s1 := (0, j, l, c, top, nI d, cr, xs)) (s2 := (0, nI d, cr, mj, ml, mf, mc, ms)) (by omega) (by omega) ⟨d, j, l, c, top, cr, xs, mj, ml, mf, mc, ms, hd, rfl, rfl, hx, hm⟩
  · obtain ⟨a, b, q1, q2, q3⟩ := key
    obtain ⟨d2, cr2, j2, l2, c2, top2, xs2, mj2, ml2, mf2, mc2, ms2, h9, rfl, rfl, q4, q5⟩ := q3
    exact ⟨d2, cr2, j2, l2, c2, top2, xs2, mj2, ml2, mf2, mc2, ms2, h9, q1, q2, q4, q5⟩
  · rintro i z1 z2 hi ⟨d, j, l, c, top, cr, xs, mj, ml, mf, mc, ms, hd, rfl, rfl, hx, hm⟩
    left
    obtain ⟨b, j2, l2, c2, top2, xs2, mj2, ml2, mf2, mc2, ms2, r1, r2, r3, r4⟩ := holds_same hw hd hN1 hN2 ho hi hx hm ev top xs ms
    obtain ⟨-, -, -, -, -, -, e7, ⟨t, ht, e8, e9⟩, -⟩ := hE i hi
    have g1 : ib (nI i) 16 = true := ib_nI (by omega) (by decide)
    have g2 : (nI i).toNatClampNeg = i := nI_clamp (by omega)
    have g3 : ¬ nI no ≤ nI i := nI_ge hi (by omega)
    have g4 : ∀ f, rget 16 f (nI i) = f i := fun f => rg (by omega) (by decide)
    have hp : 2 ^ t < 1024 := (Nat.pow_lt_pow_right (by decide) (show t < 10 by omega) : 2 ^ t < 2 ^ 10)
    have ho2 : d ||| 2 ^ t < 1024 := or_lt (n := 10) hd hp
    have hd2 : dif d (2 ^ t) < 1024 := dif_lt (n := 10) hd
    cases b with
    | false =>
      refine ⟨(nI (i + 1), j2, l2, c2, top2, nI d, cr, xs2), (nI (i + 1), nI d, cr, mj2, ml2, mf2, mc2, ms2), ?_, ?_, d, j2, l2, c2, top2, cr, xs2, mj2, ml2, mf2, mc2, ms2, hd, rfl, rfl, r3, r4⟩
      · unfold f_Co_passOne_L2
        simp only [if_neg g3, r1, oB_s, ← nI_succ]
        rfl
      · unfold f_M_pass_L15
        simp only [if_neg g3, r2, oB_s, ← nI_succ]
        rfl
    | true =>
      have n1 : ¬ bI true = 0 := by decide
      by_cases h7 : uD i = 7
      · rw [if_pos h7] at e7
        by_cases h8 : nI (d ||| 2 ^ t) = nI d
        · have h9 : d ||| 2 ^ t = d := (nI_eq (by omega) (by omega)).mp h8
          refine ⟨(nI (i + 1), j2, l2, c2, top2, nI d, cr, xs2), (nI (i + 1), nI d, cr, mj2, ml2, mf2, mc2, ms2), ?_, ?_, d, j2, l2, c2, top2, cr, xs2, mj2, ml2, mf2, mc2, ms2, hd, rfl, rfl, r3, r4⟩
          · unfold f_Co_passOne_L2 f_Co_carryOut
            simp only [if_neg g3, r1, oB_s, if_neg n1, g4, e7, e8, if_neg one_ne, q_bit t (show t < 32 by omega), q_or, if_pos h8, ← nI_succ]
          · unfold f_M_pass_L15
            simp only [if_neg g3, r2, oB_s, if_neg n1, g1, g2, if_true, if_pos h7, e9, q_bit t (show t < 32 by omega), q_or, if_pos h8, h8, add0, ← nI_succ]
        · refine ⟨(nI (i + 1), j2, l2, c2, top2, nI (d ||| 2 ^ t), cr + 1, xs2), (nI (i + 1), nI (d ||| 2 ^ t), cr + 1, mj2, ml2, mf2, mc2, ms2), ?_, ?_, d ||| 2 ^ t, j2, l2, c2, top2, cr + 1, xs2, mj2, ml2, mf2, mc2, ms2, ho2, rfl, rfl, r3, r4⟩
          · unfold f_Co_passOne_L2 f_Co_carryOut
            simp only [if_neg g3, r1, oB_s, if_neg n1, g4, e7, e8, if_neg one_ne, q_bit t (show t < 32 by omega), q_or, if_neg h8, ← nI_succ]
          · unfold f_M_pass_L15
            simp only [if_neg g3, r2, oB_s, if_neg n1, g1, g2, if_true, if_pos h7, e9, q_bit t (show t < 32 by omega), q_or, if_neg h8, ← nI_succ]
      · rw [if_neg h7] at e7
        by_cases h8 : nI (dif d (2 ^ t)) = nI d
        · refine ⟨(nI (i + 1), j2, l2, c2, top2, nI d, cr, xs2), (nI (i + 1), nI d, cr, mj2, ml2, mf2, mc2, ms2), ?_, ?_, d, j2, l2, c2, top2, cr, xs2, mj2, ml2, mf2, mc2, ms2, hd, rfl, rfl, r3, r4⟩
          · unfold f_Co_passOne_L2 f_Co_carryOut
            simp only [if_neg g3, r1, oB_s, if_neg n1, g4, e7, e8, if_true, q_bit t (show t < 32 by omega), q_dif, if_pos h8, ← nI_succ]
          · unfold f_M_pass_L15
            simp only [if_neg g3, r2, oB_s, if_neg n1, g1, g2, if_true, if_neg h7, e9, q_bit t (show t < 32 by omega), q_dif, if_pos h8, h8, add0, ← nI_succ]
        · refine ⟨(nI (i + 1), j2, l2, c2, top2, nI (dif d (2 ^ t)), cr + 1, xs2), (nI (i + 1), nI (dif d (2 ^ t)), cr + 1, mj2, ml2, mf2, mc2, ms2), ?_, ?_, dif d (2 ^ t), j2, l2, c2, top2, cr + 1, xs2, mj2, ml2, mf2, mc2, ms2, hd2, rfl, rfl, r3, r4⟩
          · unfold f_Co_passOne_L2 f_Co_carryOut
            simp only [if_neg g3, r1, oB_s, if_neg n1, g4, e7, e8, if_true, q_bit t (show t < 32 by omega), q_dif, if_neg h8, ← nI_succ]
          · unfold f_M_pass_L15
            simp only [if_neg g3, r2, oB_s, if_neg n1, g1, g2, if_true, if_neg h7, e9, q_bit t (show t < 32 by omega), q_dif, if_neg h8, ← nI_succ]
  · rintro z1 z2 ⟨d, j, l, c, top, cr, xs, mj, ml, mf, mc, ms, hd, rfl, rfl, hx, hm⟩
    refine ⟨some (j, l, c, top, nI d, ev + 1, cr, xs), .inl (l3 + 1, nI d, ev + 1, cr, mj, ml, mf, mc, ms), ?_, ?_, d, cr, j, l, c, top, xs, mj, ml, mf, mc, ms, hd, rfl, rfl, hx, hm⟩
    · unfold f_Co_passOne_L2
      simp only [if_pos (nI_le (Nat.le_refl no) (show no < 2 ^ 31 by omega))]
    · unfold f_M_pass_L15
      simp only [if_pos (nI_le (Nat.le_refl no) (show no < 2 ^ 31 by omega))]
/-- so many evenings, on the model's side, for any loop of the class's that passes one after the other -/
theorem pass_many (hw : Wd A nt ne n xT xK xE xF xL uK uB uO uR uL f1 f2) (ho : OR nt no xD xW xEd xSk xSp uD uW uBg uEd uOr uWi uAl) (hd : d < 1024) {N1 N2 : Nat} (hN1 : 2000 < N1) (hN2 : 2000 < N2) {j l c mj ml mf mc : Int32} (hx : XC A nt j l c) (hm : MC A nt mj ml mf mc) (ev cr top cr0 : Int32) (xs ms : Nat → Int32) {k : Nat} (hk : k ≤ 30)
    {T : Type} {st : Int32 × Int32 × Int32 × Int32 × Int32 × Int32 × Int32 × Int32 × (Nat → Int32) → (Int32 × Int32 × Int32 × Int32 × Int32 × Int32 × Int32 × Int32 × (Nat → Int32)) ⊕ T} {fail : T}
    (hst : ∀ i d j l c top ev cr xs j2 l2 c2 top2 d2 ev2 cr2 xs2, i < k → f_Co_passOne N1 (nI nt) (nI n) xT xK xE xF xL (nI no) xD xW xEd xSk xSp j l c f1 top d ev cr xs = some (j2, l2, c2, top2, d2, ev2, cr2, xs2) → st (nI i, j, l, c, top, d, ev, cr, xs) = .inl (nI (i + 1), j2, l2, c2, top2, d2, ev2, cr2, xs2))
    (Fin : Int32 × Int32 × Int32 × Int32 × Int32 × Int32 × Int32 × Int32 × (Nat → Int32) → T → Prop)
    (hfin : ∀ d j l c top ev cr xs, d < 1024 → XC A nt j l c → ∃ t, st (nI k, j, l, c, top, nI d, ev, cr, xs) = .inr t ∧ Fin (nI k, j, l, c, top, nI d, ev, cr, xs) t) :
    ∃ d2 ev2 cr2 j2 l2 c2 top2 xs2 mj2 ml2 mf2 mc2 ms2 t, d2 < 1024 ∧ lpS st fail N1 (0, j, l, c, top, nI d, ev, cr, xs) = t ∧ Fin (nI k, j2, l2, c2, top2, nI d2, ev2, cr2, xs2) t ∧ XC A nt j2 l2 c2 ∧
      lpS (f_M_pass_L7 N2 cr0 f2 (nI nt) (nI n) (nI no) uK uB uO uR uL uD uW uBg uEd uOr uWi uAl (nI k)) none N2 (0, nI d, ev, cr, mj, ml, mf, mc, ms) = some (cr2 - cr0, nI d2, ev2, cr2, mj2, ml2, mf2, mc2, ms2) ∧ MC A nt mj2 ml2 mf2 mc2 := by
  have key := lp_two (st1 := st) (st2 := f_M_pass_L7 N2 cr0 f2 (nI nt) (nI n) (nI no) uK uB uO uR uL uD uW uBg uEd uOr uWi uAl (nI k)) (g1 := fail) (g2 := none)
    (fun i z1 z2 => ∃ d ev cr j l c top xs mj ml mf mc ms, d < 1024 ∧ z1 = (nI i, j, l, c, top, nI d, ev, cr, xs) ∧ z2 = (nI i, nI d, ev, cr, mj, ml, mf, mc, ms) ∧ XC A nt j l c ∧ MC A nt mj ml mf mc) k
    (fun t1 t2 => ∃ d2 ev2 cr2 j2 l2 c2 top2 xs2 mj2 ml2 mf2 mc2 ms2, d2 < 1024 ∧ Fin (nI k, j2, l2, c2, top2, nI d2, ev2, cr2, xs2) t1 ∧ t2 = some (cr2 - cr0, nI d2, ev2, cr2, mj2, ml2, mf2, mc2, ms2) ∧ XC A nt j2 l2 c2 ∧ MC A nt mj2 ml2 mf2 mc2)
    ?_ ?_ (n1 := N1) (n2 := N2) (s1 := (0, j, l, c, top, nI d, ev, cr, xs)) (s2 := (0, nI d, ev, cr, mj, ml, mf, mc, ms)) (by omega) (by omega) ⟨d, ev, cr, j, l, c, top, xs, mj, ml, mf, mc, ms, hd, rfl, rfl, hx, hm⟩
  · obtain ⟨a, b, q1, q2, q3⟩ := key
    obtain ⟨d2, ev2, cr2, j2, l2, c2, top2, xs2, mj2, ml2, mf2, mc2, ms2, h9, q4, rfl, q5, q6⟩ := q3
    exact ⟨d2, ev2, cr2, j2, l2, c2, top2, xs2, mj2, ml2, mf2, mc2, ms2, a, h9, q1, q4, q5, q2, q6⟩
  · rintro i z1 z2 hi ⟨d, ev, cr, j, l, c, top, xs, mj, ml, mf, mc, ms, hd, rfl, rfl, hx, hm⟩
    obtain ⟨d2, cr2, j2, l2, c2, top2, xs2, mj2, ml2, mf2, mc2, ms2, h9, r1, r2, r3, r4⟩ := pass_one hw ho hd hN1 hN2 hx hm ev cr top (nI i) xs ms
    refine Or.inl ⟨_, (nI (i + 1), nI d2, ev + 1, cr2, mj2, ml2, mf2, mc2, ms2), hst i _ _ _ _ _ _ _ _ _ _ _ _ _ _ _ _ hi r1, ?_, d2, ev + 1, cr2, j2, l2, c2, top2, xs2, mj2, ml2, mf2, mc2, ms2, h9, rfl, rfl, r3, r4⟩
    unfold f_M_pass_L7
    simp only [if_neg (nI_ge hi (show k < 2 ^ 31 by omega)), r2, ← nI_succ]
  · rintro z1 z2 ⟨d, ev, cr, j, l, c, top, xs, mj, ml, mf, mc, ms, hd, rfl, rfl, hx, hm⟩
    obtain ⟨t, t1, t2⟩ := hfin d j l c top ev cr xs hd hx
    refine ⟨t, _, t1, ?_, d, ev, cr, j, l, c, top, xs, mj, ml, mf, mc, ms, hd, t2, rfl, hx, hm⟩
    unfold f_M_pass_L7
    simp only [if_pos (nI_le (Nat.le_refl k) (show k < 2 ^ 31 by omega))]
end PA
