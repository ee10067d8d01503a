/-! whether an order's test holds -/
def Wd (A : Nat → Nat) (nt ne n : Nat) (xT xK xE xF xL uK uB uO uR uL f1 f2 : Nat → Int32) : Prop :=
  CR nt ne n xT xK xE xF xL uK uB uO uR uL ∧ Ag A f1 ∧ Ag A f2 ∧ nt ≤ 10 ∧ ne ≤ 8 ∧ symA A
section HO
variable {A : Nat → Nat} {nt ne n d : Nat} {xT xK xE xF xL uK uB uO uR uL f1 f2 : Nat → Int32}
theorem contra_same (h1 : Ag A f1) (h2 : Ag A f2) {p q : Nat} (hp : p < 10) (D : Int32) : f_M_doContradictNow D f2 (nI p) (nI q) = some (f_Ve_tellersContradict f1 (nI p) (nI q) D) ∧ z01 (f_Ve_tellersContradict f1 (nI p) (nI q) D) := by
  unfold f_M_doContradictNow f_Ve_tellersContradict
  rw [has_same, has_same, has_same, rg hp (by decide), if_pos (ib_nI hp (by decide)), nI_clamp (by omega), (h1 p hp).1, (h2 p hp).1]
  by_cases a1 : f_M_has D (nI p) = 0
  · rw [if_pos a1, if_pos a1]
    by_cases a2 : f_M_has D (nI q) = 0
    · rw [if_pos a2, if_pos a2]
      by_cases a3 : f_M_has (nI (A p)) (nI q) = 0
      · rw [if_pos a3, if_pos a3]; exact ⟨rfl, Or.inl rfl⟩
      · rw [if_neg a3, if_neg a3]; exact ⟨rfl, Or.inr rfl⟩
    · rw [if_neg a2, if_neg a2]; exact ⟨rfl, Or.inl rfl⟩
  · rw [if_neg a1, if_neg a1]; exact ⟨rfl, Or.inl rfl⟩
theorem z01_one {x : Int32} (h : z01 x) : f_Main_one x = x := by rcases h with rfl | rfl <;> rfl
theorem part_hi : ∀ p, p < 10 → ∀ q, q < 10 → nI (16 * p + q) >>> ((4 : Int32) &&& 31) = nI p := by decide +kernel
theorem part_lo : ∀ p, p < 10 → ∀ q, q < 10 → nI (16 * p + q) &&& 15 = nI q := by decide +kernel
def isFB (K : Int32) : Prop := K = 213 ∨ K = 217 ∨ K = 218 ∨ K = 219
theorem fact_same (hw : Wd A nt ne n xT xK xE xF xL uK uB uO uR uL f1 f2) (hd : d < 1024) {N1 N2 : Nat} (hN1 : 2000 < N1) (hN2 : 2000 < N2) {j l c mj ml mf mc : Int32} (hx : XC A nt j l c) (hm : MC A nt mj ml mf mc) {K P o w a : Int32} (hs : SF nt K P o w a) (ev : Int32) :
    ∃ v j2 l2 c2 mj2 ml2 mf2 mc2, f_Co_fact N1 (nI nt) (nI n) xT xK xE xF xL j l c f1 (nI d) ev K P = some (v, j2, l2, c2) ∧ f_M_ask N2 (nI d) ev mj ml mf mc f2 (nI nt) (nI n) uK uB uO uR uL o w a = some (v, mj2, ml2, mf2, mc2) ∧ XC A nt j2 l2 c2 ∧ MC A nt mj2 ml2 mf2 mc2 ∧ (isFB K → z01 v) := by
  obtain ⟨hc, h1, h2, hn, hne, hsy⟩ := hw
  have nb : ∀ {K : Int32} {v : Int32}, (¬ (K = 213 ∨ K = 217 ∨ K = 218 ∨ K = 219)) → isFB K → z01 v := fun h h9 => absurd h9 h
  rcases hs with ⟨rfl, rfl, rfl⟩ | ⟨rfl, rfl⟩ | ⟨rfl, rfl⟩ | ⟨rfl, rfl⟩ | ⟨rfl, rfl, rfl⟩ | ⟨rfl, rfl, rfl⟩ | ⟨rfl, rfl, rfl⟩ | ⟨rfl, rfl, p, q, hp, hq, rfl, rfl, rfl⟩ | ⟨rfl, rfl, rfl⟩ | ⟨rfl, rfl, rfl⟩
  · exact ⟨w, j, l, c, mj, ml, mf, mc, rfl, rfl, hx, hm, nb (by decide)⟩
  · exact ⟨ev, j, l, c, mj, ml, mf, mc, rfl, rfl, hx, hm, nb (by decide)⟩
  · refine ⟨nI (pcN (lsN A nt d)), _, _, _, _, _, _, _, ?_, ?_, xc_at hd, mc_at hd, nb (by decide)⟩
    · show oB none (f_Ve_liarSet N1 (nI nt) j l c f1 (nI d)) _ = _
      rw [x_liar h1 hn hsy hd hx hN1, oB_s, q_pc _ (LS_lt h1 hn hsy)]
    · show oB none (f_M_liarsNow N2 (nI d) mj ml mf mc f2 (nI nt)) _ = _
      rw [m_liars h2 hn hsy hd hm hN2, oB_s]
  · refine ⟨nI (pnT A (belN nt d) nt), j, l, c, mj, ml, mf, mc, ?_, ?_, hx, hm, nb (by decide)⟩
    · show oB none (f_Ve_pairCount N1 (nI nt) f1 (nI d)) _ = _
      rw [x_pn h1 hn (by omega), oB_s]
    · show oB none (f_M_pairsNow N2 f2 (nI nt) (f_M_believed (nI d) (nI nt))) _ = _
      rw [m_bel (by omega), m_pn h2 hsy hn (by omega) (bel_10 hn), oB_s]
  · refine ⟨f_Main_one (f_Main_has (nI d) w), j, l, c, mj, ml, mf, mc, rfl, ?_, hx, hm, fun _ => one01 _⟩
    show some (f_M_one (f_M_has (nI d) w), mj, ml, mf, mc) = _
    rw [has_same, oneM]
  · refine ⟨nI (sm n (fun j => b1 (decide (uB j = w)))), j, l, c, mj, ml, mf, mc, ?_, ?_, hx, hm, nb (by decide)⟩
    · show oB none (f_Cl_countOf N1 (nI n) xT w) _ = _
      rw [x_count hc (by omega), oB_s]
    · show oB none (f_M_claimsBy N2 (nI n) uB w) _ = _
      rw [m_count hc (by omega), oB_s]
  · refine ⟨wh uK uB uO uR uL w (nI d) n, j, l, c, mj, ml, mf, mc, ?_, ?_, hx, hm, nb (by decide)⟩
    · show oB none (f_Ve_windowHours N1 (nI n) xT xK xE xF xL w (nI d)) _ = _
      rw [x_hours hc (by omega), oB_s]
    · show oB none (f_M_hours N2 (nI d) (nI n) uK uB uO uR uL w) _ = _
      rw [m_hours hc (by omega), oB_s]
  · obtain ⟨e1, e2⟩ := contra_same h1 h2 (p := p) (q := q) (by omega) (nI d)
    refine ⟨f_Ve_tellersContradict f1 (nI p) (nI q) (nI d), j, l, c, mj, ml, mf, mc, ?_, ?_, hx, hm, fun _ => e2⟩
    · show some (f_Main_one (f_Ve_tellersContradict f1 (nI (16 * p + q) >>> ((4 : Int32) &&& 31)) (nI (16 * p + q) &&& 15) (nI d)), j, l, c) = _
      rw [part_hi p (by omega) q (by omega), part_lo p (by omega) q (by omega), z01_one e2]
    · show oB none (f_M_doContradictNow (nI d) f2 (nI p) (nI q)) _ = _
      rw [e1, oB_s, oneM, z01_one e2]
  · refine ⟨f_Main_one (f_Main_has (nI (lsN A nt d)) w), _, _, _, _, _, _, _, ?_, ?_, xc_at hd, mc_at hd, fun _ => one01 _⟩
    · show oB none (f_Ve_liarSet N1 (nI nt) j l c f1 (nI d)) _ = _
      rw [x_liar h1 hn hsy hd hx hN1, oB_s]
    · show oB none (f_M_lies N2 (nI d) mj ml mf mc f2 (nI nt) w) _ = _
      rw [m_lies h2 hn hsy hd hm hN2, oB_s, has_same, oneM]
  · refine ⟨if wh uK uB uO uR uL w (nI d) n ≤ 0 then 0 else 1, j, l, c, mj, ml, mf, mc, ?_, ?_, hx, hm, fun _ => by split <;> first | exact Or.inl rfl | exact Or.inr rfl⟩
    · show oB none (f_Ve_windowHours N1 (nI n) xT xK xE xF xL w (nI d)) _ = _
      rw [x_hours hc (by omega), oB_s]
      split <;> rfl
    · show oB none (f_M_hours N2 (nI d) (nI n) uK uB uO uR uL w) _ = _
      rw [m_hours hc (by omega), oB_s]
      split <;> rfl
/-- the orders of both sides -/
def stE (E : Nat → Nat) (k : Nat) : Nat := if k = 0 then 0 else E (k - 1)
def OR (nt no : Nat) (xD xW xEd xSk xSp uD uW uBg uEd uOr uWi uAl : Nat → Int32) : Prop :=
  no ≤ 16 ∧ ∃ E : Nat → Nat, ∀ k, k < no → xEd k = nI (E k) ∧ uEd k = nI (E k) ∧ uBg k = nI (stE E k) ∧ stE E k ≤ E k ∧ E k ≤ 400 ∧ (stE E k = E k ∨ tyP xSk (stE E k) (E k - stE E k) = some [true]) ∧
    (xD k = if uD k = 7 then 1 else 0) ∧ (∃ t, t < nt ∧ xW k = nI t ∧ uW k = nI t) ∧ ∀ s, stE E k ≤ s → s < E k → SR nt (xSk s) (xSp s) (uOr s) (uWi s) (uAl s)
theorem ty134 (l : List Bool) : tyS 134 l = (match l with | _ :: l => some (false :: l) | [] => none) := rfl
theorem ty220 (l : List Bool) : tyS 220 l = (match l with | true :: l => some (true :: l) | _ => none) := rfl
theorem ty_fact {K : Int32} {nt : Nat} {P o w a : Int32} {l l2 : List Bool} (h : SF nt K P o w a) (h2 : tyS K l = some l2) : ∃ b, l2 = b :: l ∧ (b = true → isFB K) := by
  rcases h with ⟨rfl, -⟩ | ⟨rfl, -⟩ | ⟨rfl, -⟩ | ⟨rfl, -⟩ | ⟨rfl, -⟩ | ⟨rfl, -⟩ | ⟨rfl, -⟩ | ⟨rfl, -⟩ | ⟨rfl, -⟩ | ⟨rfl, -⟩
  · have h3 : some (false :: l) = some l2 := h2
    cases h3; exact ⟨false, rfl, fun h => nomatch h⟩
  · have h3 : some (false :: l) = some l2 := h2
    cases h3; exact ⟨false, rfl, fun h => nomatch h⟩
  · have h3 : some (false :: l) = some l2 := h2
    cases h3; exact ⟨false, rfl, fun h => nomatch h⟩
  · have h3 : some (false :: l) = some l2 := h2
    cases h3; exact ⟨false, rfl, fun h => nomatch h⟩
  · have h3 : some (true :: l) = some l2 := h2
    cases h3; exact ⟨true, rfl, fun _ => Or.inl rfl⟩
  · have h3 : some (false :: l) = some l2 := h2
    cases h3; exact ⟨false, rfl, fun h => nomatch h⟩
  · have h3 : some (false :: l) = some l2 := h2
    cases h3; exact ⟨false, rfl, fun h => nomatch h⟩
  · have h3 : some (true :: l) = some l2 := h2
    cases h3; exact ⟨true, rfl, fun _ => Or.inr (Or.inl rfl)⟩
  · have h3 : some (true :: l) = some l2 := h2
    cases h3; exact ⟨true, rfl, fun _ => Or.inr (Or.inr (Or.inl rfl))⟩
  · have h3 : some (true :: l) = some l2 := h2
    cases h3; exact ⟨true, rfl, fun _ => Or.inr (Or.inr (Or.inr rfl))⟩
theorem ty_len {nt : Nat} {K P o w a : Int32} {l l2 : List Bool} (h : SR nt K P o w a) (h2 : tyS K l = some l2) : l2.length ≤ l.length + 1 := by
  rcases h with h | ⟨rfl, -⟩ | ⟨rfl, -⟩ | h
  · obtain ⟨b, rfl, -⟩ := ty_fact h h2
    exact Nat.le_refl _
  · have h3 := (ty134 l).symm.trans h2
    rcases l with _ | ⟨b, l⟩
    · cases h3
    · cases h3; show l.length + 1 ≤ l.length + 1 + 1; omega
  · have h3 := (ty220 l).symm.trans h2
    rcases l with _ | ⟨_ | _, l⟩
    · cases h3
    · cases h3
    · cases h3; show l.length + 1 ≤ l.length + 1 + 1; omega
  · obtain ⟨b1, b2, l3, b, rfl, rfl, -⟩ := bin_ty h h2 (xs := fun _ => 0) (ms := fun _ => 0) (by
      have : ∀ l : List Bool, StkR l (fun _ => 0) (fun _ => 0) := by
        intro l
        induction l with
        | nil => exact trivial
        | cons b l ih => exact ⟨rfl, fun _ => Or.inl rfl, ih⟩
      exact this l)
    show l3.length + 1 ≤ l3.length + 1 + 1 + 1; omega
/-- one step of a test, on both sides -/
theorem step_same (hw : Wd A nt ne n xT xK xE xF xL uK uB uO uR uL f1 f2) (hd : d < 1024) {N1 N2 : Nat} (hN1 : 2000 < N1) (hN2 : 2000 < N2) {xSk xSp uEd uOr uWi uAl : Nat → Int32} {ev : Int32} {k s e : Nat} (hk : k < 16) (hse : s < e) (he : e ≤ 400) (hue : uEd k = nI e)
    (hsr : SR nt (xSk s) (xSp s) (uOr s) (uWi s) (uAl s)) {l l2 : List Bool} (hty : tyS (xSk s) l = some l2) (hl : l.length < 400) {j1 l1 c1 mj ml mf mc : Int32} (hx : XC A nt j1 l1 c1) (hm : MC A nt mj ml mf mc) {xs ms : Nat → Int32} (hst : StkR l xs ms) :
    ∃ j3 l3 c3 xs3 mj3 ml3 mf3 mc3 ms3, f_Co_holds_L42 N1 (nI nt) (nI n) xT xK xE xF xL xSk xSp f1 (nI d) ev (nI e) (nI s, j1, l1, c1, nI l.length, xs) = .inl (nI (s + 1), j3, l3, c3, nI l2.length, xs3) ∧
      f_M_holds_L12 N2 (nI d) ev f2 (nI nt) (nI n) uK uB uO uR uL uEd uOr uWi uAl (nI k) (nI l.length, nI s, mj, ml, mf, mc, ms) = .inl (nI l2.length, nI (s + 1), mj3, ml3, mf3, mc3, ms3) ∧ XC A nt j3 l3 c3 ∧ MC A nt mj3 ml3 mf3 mc3 ∧ StkR l2 xs3 ms3 := by
  have g1 : ib (nI k) 16 = true := ib_nI hk (by decide)
  have g2 : (nI k).toNatClampNeg = k := nI_clamp (by omega)
  have g3 : ib (nI s) 800 = true := ib_nI (by omega) (by decide)
  have g4 : (nI s).toNatClampNeg = s := nI_clamp (by omega)
  have g5 : ¬ nI e ≤ nI s := nI_ge hse (by omega)
  have g6 : ∀ f, rget 400 f (nI s) = f s := fun f => rg (by omega) (by decide)
  rcases hsr with hf | ⟨hK, ho⟩ | ⟨hK, ho⟩ | hb
  · obtain ⟨b, rfl, hb⟩ := ty_fact hf hty
    obtain ⟨v, j3, l3, c3, mj3, ml3, mf3, mc3, q1, q2, q3, q4, q5⟩ := fact_same hw hd hN1 hN2 hx hm hf ev
    obtain ⟨t1, t2⟩ := sf_ne hf
    refine ⟨j3, l3, c3, upd xs l.length v, mj3, ml3, mf3, mc3, upd ms l.length v, ?_, ?_, q3, q4, stk_push hst (fun h => q5 (hb h))⟩
    · unfold f_Co_holds_L42 f_Co_push
      show (if nI e ≤ nI s then _ else (if rget 400 xSk (nI s) = 131 then _ else _)) = _
      rw [if_neg g5]
      simp only [g6, q1, oB_s, rs hl (show 400 < 2147483648 by decide), ← nI_succ]
      rcases t1 with t1 | ⟨t1, t3⟩
      · rw [if_pos t1]; rfl
      · by_cases t4 : xSk s = 131
        · rw [if_pos t4]; rfl
        · rw [if_neg t4, if_neg t1, if_neg t3]; rfl
    · unfold f_M_holds_L12
      have n1 : ¬ (1 : Int32) = 0 := by decide
      simp only [g1, g2, g3, g4, hue, if_true, if_neg g5, t2, if_neg n1, q2, oB_s, ib_nI (show l.length < 800 by omega) (show 800 < 2147483648 by decide), nI_clamp (show l.length < 2 ^ 31 by omega), ← nI_succ]
      rfl
  · have h3 := (ty134 l).symm.trans (hK ▸ hty)
    rcases l with _ | ⟨b, l⟩
    · cases h3
    · cases h3
      have hl2 : l.length + 1 < 400 := hl
      refine ⟨j1, l1, c1, upd xs l.length (-(xs l.length)), mj, ml, mf, mc, upd ms l.length (-(ms l.length)), ?_, ?_, hx, hm, ?_⟩
      · unfold f_Co_holds_L42
        have n1 : ¬ (134 : Int32) = 131 := by decide
        have n2 : (134 : Int32) < 210 := by decide
        have e1 : f_Co_reckon (nI (b :: l).length) xs 134 = some (nI (l.length + 1), upd xs l.length (-(xs l.length))) := x_un (by omega) xs
        simp only [g6, if_neg g5, hK, if_neg n1, if_pos n2, e1, oB_s, ← nI_succ]
        rfl
      · unfold f_M_holds_L12
        have n1 : f_M_isAsked 105 = 0 := by decide
        have e1 : nI (b :: l).length - 1 = nI l.length := nI_pred _
        simp only [g1, g2, g3, g4, hue, if_true, if_neg g5, ho, n1, e1, ib_nI (show l.length < 800 by omega) (show 800 < 2147483648 by decide), nI_clamp (show l.length < 2 ^ 31 by omega), ← nI_succ]
        rfl
      · obtain ⟨a1, a2, a3⟩ := hst
        rw [a1]
        exact stk_push a3 (fun h => nomatch h)
  · have h3 := (ty220 l).symm.trans (hK ▸ hty)
    rcases l with _ | ⟨_ | _, l⟩
    · cases h3
    · cases h3
    · cases h3
      have hl2 : l.length + 1 < 400 := hl
      obtain ⟨a1, a2, a3⟩ := hst
      have a4 := a2 rfl
      have e9 : (if xs l.length = 0 then (1 : Int32) else 0) = 1 - ms l.length := by
        rw [← a1]
        rcases a4 with h | h <;> rw [h] <;> rfl
      refine ⟨j1, l1, c1, upd xs l.length (if xs l.length = 0 then 1 else 0), mj, ml, mf, mc, upd ms l.length (1 - ms l.length), ?_, ?_, hx, hm, ?_⟩
      · unfold f_Co_holds_L42
        have n1 : ¬ (220 : Int32) = 131 := by decide
        have n2 : ¬ (220 : Int32) < 210 := by decide
        have n3 : (219 : Int32) < 220 := by decide
        have e1 : f_Co_reckon (nI (true :: l).length) xs 220 = some (nI (l.length + 1), upd xs l.length (if xs l.length = 0 then 1 else 0)) := x_not (by omega) xs
        simp only [g6, if_neg g5, hK, if_neg n1, if_neg n2, if_pos n3, e1, oB_s, ← nI_succ]
        rfl
      · unfold f_M_holds_L12
        have n1 : f_M_isAsked 20 = 0 := by decide
        have n2 : ¬ (20 : Int32) = 105 := by decide
        have e1 : nI (true :: l).length - 1 = nI l.length := nI_pred _
        simp only [g1, g2, g3, g4, hue, if_true, if_neg g5, ho, n1, if_neg n2, e1, ib_nI (show l.length < 800 by omega) (show 800 < 2147483648 by decide), nI_clamp (show l.length < 2 ^ 31 by omega), ← nI_succ]
      · rw [e9]
        exact stk_push a3 (fun _ => by rw [← e9]; split <;> first | exact Or.inl rfl | exact Or.inr rfl)
  · obtain ⟨b1, b2, l3, b, rfl, rfl, hz⟩ := bin_ty hb hty hst
    obtain ⟨n1, n2, n3, n4, n5, n6, n7⟩ := sb_ne hb
    have hl2 : l3.length + 1 + 1 < 400 := hl
    obtain ⟨a1, a2, a3, a4, a5⟩ := hst
    have a1' : xs (l3.length + 1) = ms (l3.length + 1) := a1
    refine ⟨j1, l1, c1, upd xs l3.length (f_Co_combine (xSk s) (xs l3.length) (xs (l3.length + 1))), mj, ml, mf, mc, upd ms l3.length (f_M_reckon (uOr s) (ms l3.length) (ms (l3.length + 1))), ?_, ?_, hx, hm, ?_⟩
    · unfold f_Co_holds_L42
      have e1 : f_Co_reckon (nI (b1 :: b2 :: l3).length) xs (xSk s) = some (nI (l3.length + 1), upd xs l3.length (f_Co_combine (xSk s) (xs l3.length) (xs (l3.length + 1)))) := x_bin (by omega) xs n1 n2
      simp only [g6, if_neg g5, if_neg n3, e1, oB_s, ← nI_succ]
      rcases n4 with n4 | n4
      · rw [if_pos n4]; rfl
      · by_cases n8 : xSk s < 210
        · rw [if_pos n8]; rfl
        · rw [if_neg n8, if_pos n4]; rfl
    · unfold f_M_holds_L12
      have e1 : nI (b1 :: b2 :: l3).length + (-1) = nI (l3.length + 1) := by
        show nI (l3.length + 1 + 1) + (-1) = _
        rw [← Int32.sub_eq_add_neg]
        exact nI_pred _
      simp only [g1, g2, g3, g4, hue, if_true, if_neg g5, n5, if_neg n6, if_neg n7, e1, nI_pred, ib_nI (show l3.length < 800 by omega) (show 800 < 2147483648 by decide), ib_nI (show l3.length + 1 < 800 by omega) (show 800 < 2147483648 by decide), nI_clamp (show l3.length < 2 ^ 31 by omega), nI_clamp (show l3.length + 1 < 2 ^ 31 by omega), ← nI_succ]
      rfl
    · rw [← comb hb, ← a1', ← a3]
      exact stk_push a5 hz
theorem holds_same (hw : Wd A nt ne n xT xK xE xF xL uK uB uO uR uL f1 f2) (hd : d < 1024) {N1 N2 : Nat} (hN1 : 2000 < N1) (hN2 : 2000 < N2) {no : Nat} {xD xW xEd xSk xSp uD uW uBg uEd uOr uWi uAl : Nat → Int32} (ho : OR nt no xD xW xEd xSk xSp uD uW uBg uEd uOr uWi uAl) {k : Nat} (hk : k < no) {j l c mj ml mf mc : Int32} (hx : XC A nt j l c) (hm : MC A nt mj ml mf mc) (ev top : Int32) (xs ms : Nat → Int32) :
    ∃ (b : Bool) (j2 l2 c2 top2 : Int32) (xs2 : Nat → Int32) (mj2 ml2 mf2 mc2 : Int32) (ms2 : Nat → Int32), f_Co_holds N1 (nI nt) (nI n) xT xK xE xF xL xEd xSk xSp j l c f1 top (nI d) ev xs (nI k) = some (bI b, j2, l2, c2, top2, xs2) ∧
      f_M_holds N2 (nI d) ev mj ml mf mc f2 ms (nI nt) (nI n) uK uB uO uR uL uBg uEd uOr uWi uAl (nI k) = some (bI b, mj2, ml2, mf2, mc2, ms2) ∧ XC A nt j2 l2 c2 ∧ MC A nt mj2 ml2 mf2 mc2 := by
  obtain ⟨hno, E, hE⟩ := ho
  obtain ⟨e1, e2, e3, e4, e5, e6, -, -, e9⟩ := hE k hk
  have es : f_Or_startOf xEd (nI k) = nI (stE E k) := by
    unfold f_Or_startOf stE
    cases k with
    | zero => rfl
    | succ k =>
      rw [if_neg (nI_nle (by omega) (by omega)), if_neg (by omega), nI_pred, rg (by omega) (by decide)]
      exact (hE k (by omega)).1
  have ee : rget 16 xEd (nI k) = nI (E k) := by rw [rg (by omega) (by decide), e1]
  have g1 : ib (nI k) 16 = true := ib_nI (by omega) (by decide)
  have g2 : (nI k).toNatClampNeg = k := nI_clamp (by omega)
  unfold f_Co_holds f_M_holds
  rw [es, ee, if_pos g1, g2, e3]
  rcases Nat.lt_or_ge (stE E k) (E k) with hlt | hge
  · rw [if_pos (nI_lt hlt (by omega))]
    have ty : tyP xSk (stE E k) (E k - stE E k) = some [true] := by
      rcases e6 with e6 | e6
      · omega
      · exact e6
    have tyl : ∀ i, i ≤ E k - stE E k → ∃ l, tyP xSk (stE E k) i = some l := by
      intro i hi
      cases h9 : tyP xSk (stE E k) i with
      | some l => exact ⟨l, rfl⟩
      | none => rw [tyP_none h9 _ hi] at ty; cases ty
    have key := lp_two (st1 := f_Co_holds_L42 N1 (nI nt) (nI n) xT xK xE xF xL xSk xSp f1 (nI d) ev (nI (E k))) (st2 := f_M_holds_L12 N2 (nI d) ev f2 (nI nt) (nI n) uK uB uO uR uL uEd uOr uWi uAl (nI k)) (g1 := none) (g2 := none)
      (fun i z1 z2 => ∃ ts j l c xs mj ml mf mc ms, tyP xSk (stE E k) i = some ts ∧ ts.length ≤ i ∧ z1 = (nI (stE E k + i), j, l, c, nI ts.length, xs) ∧ z2 = (nI ts.length, nI (stE E k + i), mj, ml, mf, mc, ms) ∧ XC A nt j l c ∧ MC A nt mj ml mf mc ∧ StkR ts xs ms) (E k - stE E k)
      (fun t1 t2 => ∃ (b : Bool) (j2 l2 c2 top2 : Int32) (xs2 : Nat → Int32) (mj2 ml2 mf2 mc2 : Int32) (ms2 : Nat → Int32), t1 = some (bI b, j2, l2, c2, top2, xs2) ∧ t2 = some (bI b, mj2, ml2, mf2, mc2, ms2) ∧ XC A nt j2 l2 c2 ∧ MC A nt mj2 ml2 mf2 mc2)
      ?_ ?_ (n1 := N1) (n2 := N2) (s1 := (nI (stE E k), j, l, c, 0, xs)) (s2 := (0, nI (stE E k), mj, ml, mf, mc, ms)) (by omega) (by omega) ⟨[], j, l, c, xs, mj, ml, mf, mc, ms, rfl, Nat.le_refl _, rfl, rfl, hx, hm, trivial⟩
    · obtain ⟨a, b, q1, q2, q3⟩ := key
      obtain ⟨bb, j2, l2, c2, top2, xs2, mj2, ml2, mf2, mc2, ms2, rfl, rfl, q4, q5⟩ := q3
      exact ⟨bb, j2, l2, c2, top2, xs2, mj2, ml2, mf2, mc2, ms2, q1, q2, q4, q5⟩
    · rintro i z1 z2 hi ⟨ts, j, l, c, xs, mj, ml, mf, mc, ms, t1, t2, rfl, rfl, t3, t4, t5⟩
      obtain ⟨ts2, t6⟩ := tyl (i + 1) (by omega)
      have t7 : tyS (xSk (stE E k + i)) ts = some ts2 := by
        have : (match tyP xSk (stE E k) i with | none => none | some l => tyS (xSk (stE E k + i)) l) = some ts2 := t6
        rw [t1] at this
        exact this
      have hsr := e9 (stE E k + i) (by omega) (by omega)
      obtain ⟨j3, l3, c3, xs3, mj3, ml3, mf3, mc3, ms3, r1, r2, r3, r4, r5⟩ := step_same (ev := ev) (k := k) hw hd hN1 hN2 (by omega) (show stE E k + i < E k by omega) e5 e2 hsr t7 (by omega) t3 t4 t5
      have hlen := ty_len hsr t7
      exact Or.inl ⟨_, _, r1, r2, ts2, j3, l3, c3, xs3, mj3, ml3, mf3, mc3, ms3, t6, by omega, rfl, rfl, r3, r4, r5⟩
    · rintro z1 z2 ⟨ts, j, l, c, xs, mj, ml, mf, mc, ms, t1, t2, rfl, rfl, t3, t4, t5⟩
      rw [ty] at t1
      cases t1
      obtain ⟨a1, a2, -⟩ := t5
      have a1' : xs 0 = ms 0 := a1
      have a2' : z01 (xs 0) := a2 rfl
      have e0 : stE E k + (E k - stE E k) = E k := by omega
      rw [e0]
      refine ⟨some (bI (decide (xs 0 = 1)), j, l, c, nI 0, xs), some (bI (decide (xs 0 = 1)), mj, ml, mf, mc, ms), ?_, ?_, decide (xs 0 = 1), j, l, c, nI 0, xs, mj, ml, mf, mc, ms, rfl, rfl, t3, t4⟩
      · unfold f_Co_holds_L42 f_Co_pop
        have p1 : nI ([true] : List Bool).length - 1 = nI 0 := nI_pred 0
        simp only [if_pos (nI_le (Nat.le_refl (E k)) (show E k < 2 ^ 31 by omega)), oB_s, p1, rg (show 0 < 400 by decide) (show 400 < 2147483648 by decide)]
        rcases a2' with h | h
        · rw [if_pos h, h]; rfl
        · rw [h, if_neg (by decide)]; rfl
      · unfold f_M_holds_L12
        have p1 : ¬ nI ([true] : List Bool).length = 0 := by decide
        have p2 : (0 : Int32).toNatClampNeg = 0 := by decide
        simp only [g1, g2, e2, if_true, if_pos (nI_le (Nat.le_refl (E k)) (show E k < 2 ^ 31 by omega)), if_neg p1, p2, ← a1']
        rcases a2' with h | h
        · rw [h, if_neg (by decide)]; rfl
        · rw [h, if_pos rfl]; rfl
  · have e0 : stE E k = E k := by omega
    rw [if_neg (nI_nlt (by omega) (by omega))]
    refine ⟨true, j, l, c, top, xs, mj, ml, mf, mc, ms, rfl, ?_, hx, hm⟩
    cases N2 with
    | zero => omega
    | succ N2 =>
      apply lp_out
      unfold f_M_holds_L12
      simp only [g1, g2, e2, e0, if_true, if_pos (nI_le (Nat.le_refl (E k)) (show E k < 2 ^ 31 by omega))]
      rfl
end HO
