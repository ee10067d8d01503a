/-! what the class's methods give, in the Sim's own words -/
abbrev LIs (cl : List (Nat → Int32)) (d nt : Nat) : Nat × Nat × Nat := dcd cl d nt nt 0 (0, 0, 99)
def trS (cl : List (Nat → Int32)) (d nt : Nat) : Nat := dif (belN nt d) (LIs cl d nt).1
theorem trS_TrS (cl : List (Nat → Int32)) (d nt : Nat) : TrS nt d (LIs cl d nt).1 (trS cl d nt) := by
  intro j hj
  unfold trS
  rw [dif_bit, bel_bit, decide_eq_true hj, Bool.true_and]
theorem nd_t {m i : Nat} (h : i < m) (hm : m < 2 ^ 31) : f_Main_needTeller (nI m) (nI i) = some (.inl ()) := need_in h hm
theorem nd_e {m i : Nat} (h : i < m) (hm : m < 2 ^ 31) : f_Main_needEvent (nI m) (nI i) = some (.inl ()) := need_in h hm
theorem has_db {s k : Nat} (hs : s < 2 ^ 31) (hk : k < 31) : f_Main_has (nI s) (nI k) = dbF s k := q_has hs hk
theorem dbF_bI (s k : Nat) : dbF s k = bI (s.testBit k) := rfl
theorem sm_pos {f : Nat → Nat} : ∀ n, 0 < sm n f ↔ ∃ i, i < n ∧ 0 < f i
  | 0 => ⟨fun h => absurd h (Nat.lt_irrefl 0), fun ⟨i, h, _⟩ => absurd h (Nat.not_lt_zero i)⟩
  | n + 1 => by
    show 0 < sm n f + f n ↔ _
    constructor
    · intro h
      by_cases h1 : 0 < f n
      · exact ⟨n, by omega, h1⟩
      · obtain ⟨i, hi, h2⟩ := (sm_pos (f := f) n).mp (by omega)
        exact ⟨i, by omega, h2⟩
    · rintro ⟨i, hi, h⟩
      by_cases h1 : i = n
      · subst h1
        omega
      · have := (sm_pos n).mpr ⟨i, by omega, h⟩
        omega
theorem b1_pos {b : Bool} : 0 < b1 b ↔ b = true := by cases b <;> decide
theorem cfS_iff {cl : List (Nat → Int32)} {t s : Nat} : cfS cl t s = true ↔ ∃ a b, a < b ∧ b < cl.length ∧ pP (rwK cl 1) (nI t) (nI s) a b = true ∧ ctF (rw5 cl a) (rw5 cl b) = true := by
  unfold cfS prsS pinS
  rw [decide_eq_true_eq, sm_pos]
  constructor
  · rintro ⟨a, ha, h⟩
    obtain ⟨b, hb, h2⟩ := (sm_pos _).mp h
    rw [b1_pos, Bool.and_eq_true, Bool.and_eq_true, decide_eq_true_eq] at h2
    exact ⟨a, b, h2.1.1, hb, h2.1.2, h2.2⟩
  · rintro ⟨a, b, h1, h2, h3, h4⟩
    refine ⟨a, by omega, (sm_pos _).mpr ⟨b, h2, ?_⟩⟩
    rw [b1_pos, Bool.and_eq_true, Bool.and_eq_true, decide_eq_true_eq]
    exact ⟨⟨h1, h3⟩, h4⟩
theorem AcS_of {cl : List (Nat → Int32)} {f : Nat → Int32} {ne nt : Nat} (hV : ∀ k, k < cl.length → CV1 ne nt (rw5 cl k)) (hn : nt ≤ 10) (h : AgS (prs (fun c d => c < d ∧ d < cl.length) (ctU (rwK cl 0) (rwK cl 2) (rwK cl 3) (rwK cl 4)) (tN (rwK cl 1))) f) : ∃ A, Ag A f ∧ AcS cl A := by
  obtain ⟨A, h1, h2⟩ := h
  refine ⟨A, h1, fun t s ht hs => ?_⟩
  have hT : ∀ k, k < cl.length → ∀ p, p < 10 → (rwK cl 1 k = nI p ↔ tN (rwK cl 1) k = p) := by
    intro k hk p hp
    obtain ⟨-, ⟨w, hw, e⟩, -⟩ := hV k hk
    have e1 : rwK cl 1 k = nI w := e
    have e2 : tN (rwK cl 1) k = w := by unfold tN; rw [e1, nI_clamp (by omega)]
    rw [e1, e2]
    exact nI_eq (by omega) (by omega)
  rw [Bool.eq_iff_iff, h2 t ht s, cfS_iff]
  constructor
  · rintro ⟨c, e, ⟨hce, hen⟩, hct, hts⟩
    refine ⟨c, e, hce, hen, ?_, hct⟩
    unfold pP
    rw [Bool.or_eq_true, Bool.and_eq_true, Bool.and_eq_true, decide_eq_true_eq, decide_eq_true_eq, decide_eq_true_eq, decide_eq_true_eq]
    rcases hts with ⟨g1, g2⟩ | ⟨g1, g2⟩
    · exact Or.inl ⟨(hT c (by omega) t ht).mpr g1.symm, (hT e hen s hs).mpr g2.symm⟩
    · exact Or.inr ⟨(hT c (by omega) s hs).mpr g2.symm, (hT e hen t ht).mpr g1.symm⟩
  · rintro ⟨a, b, hab, hb, hp, hct⟩
    refine ⟨a, b, ⟨hab, hb⟩, hct, ?_⟩
    unfold pP at hp
    rw [Bool.or_eq_true, Bool.and_eq_true, Bool.and_eq_true, decide_eq_true_eq, decide_eq_true_eq, decide_eq_true_eq, decide_eq_true_eq] at hp
    rcases hp with ⟨g1, g2⟩ | ⟨g1, g2⟩
    · exact Or.inl ⟨((hT a (by omega) t ht).mp g1).symm, ((hT b hb s hs).mp g2).symm⟩
    · exact Or.inr ⟨((hT b hb t ht).mp g2).symm, ((hT a (by omega) s hs).mp g1).symm⟩
/-- hours: what is within the claims heard -/
theorem win_go {cl : List (Nat → Int32)} {d e x y : Nat} (hok : ∀ h, h < 100 → okH cl d e h cl.length = (decide (x ≤ h) && decide (h ≤ y))) : ∀ H, H ≤ 100 → winS cl d e H = if x < H ∧ x ≤ y then (nI x, nI (min y (H - 1)), min (y + 1) H - x) else (-1, -1, 0)
  | 0, _ => by rw [if_neg (by omega)]; rfl
  | H + 1, h => by
    have ih := win_go hok H (by omega)
    rw [winS, hok H (by omega)]
    by_cases h1 : x ≤ H
    · by_cases h2 : H ≤ y
      · rw [decide_eq_true h1, decide_eq_true h2, if_pos (show (true && true) = true from rfl), if_pos (show x < H + 1 ∧ x ≤ y from ⟨by omega, by omega⟩)]
        by_cases h3 : x < H
        · have i2 : winS cl d e H = (nI x, nI (min y (H - 1)), min (y + 1) H - x) := by rw [ih, if_pos ⟨h3, by omega⟩]
          rw [i2]
          show ((if min (y + 1) H - x = 0 then nI H else nI x), nI H, min (y + 1) H - x + 1) = _
          rw [if_neg (by omega), show min y (H + 1 - 1) = H by omega, show min (y + 1) (H + 1) - x = min (y + 1) H - x + 1 by omega]
        · have i2 : winS cl d e H = (-1, -1, 0) := by rw [ih, if_neg (by omega)]
          rw [i2]
          have e : x = H := by omega
          subst e
          show ((if 0 = 0 then nI x else -1), nI x, 0 + 1) = _
          rw [if_pos rfl, show min y (x + 1 - 1) = x by omega, show min (y + 1) (x + 1) - x = 1 by omega]
      · rw [decide_eq_true h1, decide_eq_false h2, if_neg (by decide), ih]
        by_cases h3 : x ≤ y
        · rw [if_pos ⟨by omega, h3⟩, if_pos ⟨by omega, h3⟩, show min y (H - 1) = min y (H + 1 - 1) by omega, show min (y + 1) H - x = min (y + 1) (H + 1) - x by omega]
        · rw [if_neg (by omega), if_neg (by omega)]
    · rw [decide_eq_false h1, Bool.false_and, if_neg (by decide), ih, if_neg (by omega), if_neg (by omega)]
theorem win_100 {cl : List (Nat → Int32)} {d e x y : Nat} (hy : y ≤ 99) (hok : ∀ h, h < 100 → okH cl d e h cl.length = (decide (x ≤ h) && decide (h ≤ y))) : winS cl d e 100 = if x ≤ y then (nI x, nI y, y + 1 - x) else (-1, -1, 0) := by
  rw [win_go hok 100 (Nat.le_refl _)]
  by_cases h : x ≤ y
  · rw [if_pos ⟨by omega, h⟩, if_pos h, show min y (100 - 1) = y by omega, show min (y + 1) 100 - x = y + 1 - x by omega]
  · rw [if_neg (by omega), if_neg h]
theorem mx_n {a b : Nat} (ha : a < 1000) (hb : b < 1000) : f_J9_max_7cf53 (nI a) (nI b) = nI (max a b) := mx_nI (by omega) (by omega)
theorem heard {cl : List (Nat → Int32)} {ne nt d e : Nat} (hV : ∀ k, k < cl.length → CV1 ne nt (rw5 cl k)) (hn : nt ≤ 10) (hd : d < 1024) : ∀ n, n ≤ cl.length → ∃ x y : Nat, x ≤ 99 ∧ y ≤ 99 ∧ wb (rwK cl 0) (rwK cl 1) (rwK cl 2) (rwK cl 3) (nI e) (nI d) n = nI x ∧ we (rwK cl 0) (rwK cl 1) (rwK cl 2) (rwK cl 4) (nI e) (nI d) n = nI y ∧ (∀ h, h < 100 → okH cl d e h n = (decide (x ≤ h) && decide (h ≤ y))) ∧ (∀ c, c < n → rw5 cl c 0 = 0 → rw5 cl c 2 = nI e → d.testBit (tN (rwK cl 1) c) = false → ∃ u v, u ≤ v ∧ v < 100 ∧ rw5 cl c 3 = nI u ∧ rw5 cl c 4 = nI v ∧ u ≤ x ∧ y ≤ v)
  | 0, _ => ⟨0, 99, by decide, by decide, rfl, rfl, fun h hh => by rw [decide_eq_true (Nat.zero_le h), decide_eq_true (by omega)]; rfl, fun c hc => absurd hc (Nat.not_lt_zero c)⟩
  | n + 1, hn1 => by
    obtain ⟨x, y, hx, hy, e1, e2, e3, e4⟩ := heard (e := e) hV hn hd n (by omega)
    obtain ⟨k3', ⟨w, hw, ew⟩, -, -, h40⟩ := hV n (by omega)
    have et : tN (rwK cl 1) n = w := by unfold tN; rw [show rwK cl 1 n = nI w from ew, nI_clamp (by omega)]
    have ehB : hB (rwK cl 0) (rwK cl 1) (rwK cl 2) (nI e) (nI d) n = (decide (rw5 cl n 0 = 0) && decide (rw5 cl n 2 = nI e) && !d.testBit w) := by
      unfold hB
      rw [show rwK cl 1 n = nI w from ew, has_db (by omega) (by omega)]
      congr 1
      cases h9 : d.testBit w with
      | false => rw [dbF_f h9]; rfl
      | true => rw [dbF_t h9]; rfl
    have hok : ∀ h, okH cl d e h (n + 1) = (okH cl d e h n && (decide (0 < rw5 cl n 0) || !decide (rw5 cl n 2 = nI e) || d.testBit w || (!decide (nI h < rw5 cl n 3) && !decide (rw5 cl n 4 < nI h)))) := fun h => by rw [okH, et]
    by_cases c0 : rw5 cl n 0 = 0 ∧ rw5 cl n 2 = nI e ∧ d.testBit w = false
    · obtain ⟨g0, g1, g2⟩ := c0
      obtain ⟨u, v, huv, hv, eu, ev⟩ := h40 g0
      have hb : hB (rwK cl 0) (rwK cl 1) (rwK cl 2) (nI e) (nI d) n = true := by rw [ehB, decide_eq_true g0, decide_eq_true g1, g2]; rfl
      refine ⟨max x u, min y v, by omega, by omega, ?_, ?_, fun h hh => ?_, fun c hc k1 k2 k3 => ?_⟩
      · show (if hB _ _ _ _ _ n = true then f_J9_max_7cf53 (wb _ _ _ _ _ _ n) (rwK cl 3 n) else _) = _
        rw [if_pos hb, e1, show rwK cl 3 n = nI u from eu, mx_nI (by omega) (by omega)]
      · show (if hB _ _ _ _ _ n = true then f_J9_min_7cf53 (we _ _ _ _ _ _ n) (rwK cl 4 n) else _) = _
        rw [if_pos hb, e2, show rwK cl 4 n = nI v from ev, mn_nI (by omega) (by omega)]
      · have q1 : decide (nI h < nI u) = decide (h < u) := decide_eq_decide.mpr (nI_ltI (by omega) (by omega))
        have q2 : decide (nI v < nI h) = decide (v < h) := decide_eq_decide.mpr (nI_ltI (by omega) (by omega))
        have q3 : decide (nI e = nI e) = true := decide_eq_true rfl
        rw [hok h, e3 h hh, g0, g2, g1, eu, ev, decide_eq_false (show ¬ (0 : Int32) < 0 by decide), q3, q1, q2, Bool.eq_iff_iff]
        simp only [Bool.and_eq_true, Bool.or_eq_true, decide_eq_true_eq, Bool.not_eq_true', decide_eq_false_iff_not, Bool.not_true, Bool.false_or, Bool.or_false]
        omega
      · by_cases hcn : c < n
        · obtain ⟨u2, v2, a1, a2, a3, a4, a5, a6⟩ := e4 c hcn k1 k2 k3
          exact ⟨u2, v2, a1, a2, a3, a4, by omega, by omega⟩
        · have e9 : c = n := by omega
          subst e9
          exact ⟨u, v, huv, hv, eu, ev, by omega, by omega⟩
    · have hb : ¬ hB (rwK cl 0) (rwK cl 1) (rwK cl 2) (nI e) (nI d) n = true := by
        rw [ehB, Bool.and_eq_true, Bool.and_eq_true, decide_eq_true_eq, decide_eq_true_eq, Bool.not_eq_true']
        exact fun ⟨⟨g0, g1⟩, g2⟩ => c0 ⟨g0, g1, g2⟩
      refine ⟨x, y, hx, hy, ?_, ?_, fun h hh => ?_, fun c hc k1 k2 k3 => ?_⟩
      · show (if hB _ _ _ _ _ n = true then _ else wb _ _ _ _ _ _ n) = _
        rw [if_neg hb, e1]
      · show (if hB _ _ _ _ _ n = true then _ else we _ _ _ _ _ _ n) = _
        rw [if_neg hb, e2]
      · rw [hok h, e3 h hh]
        have : (decide (0 < rw5 cl n 0) || !decide (rw5 cl n 2 = nI e) || d.testBit w || (!decide (nI h < rw5 cl n 3) && !decide (rw5 cl n 4 < nI h))) = true := by
          by_cases g0 : rw5 cl n 0 = 0
          · by_cases g1 : rw5 cl n 2 = nI e
            · cases g2 : d.testBit w with
              | false => exact absurd ⟨g0, g1, g2⟩ c0
              | true => simp
            · rw [decide_eq_false g1]
              simp
          · have : (0 : Int32) < rw5 cl n 0 := by
              rcases k3' with h9 | h9 | h9
              · exact absurd h9 g0
              · rw [h9]; decide
              · rw [h9]; decide
            rw [decide_eq_true this]
            simp
        rw [this, Bool.and_true]
      · by_cases hcn : c < n
        · exact e4 c hcn k1 k2 k3
        · have e9 : c = n := by omega
          subst e9
          exact absurd ⟨k1, k2, by rw [et] at k3; exact k3⟩ c0
theorem wh_n : ∀ y, y < 100 → ∀ x, x < 100 → f_J9_max_7cf53 0 ((nI y - nI x) + 1) = nI (y + 1 - x) := by decide +kernel
/-- a window in one: first, last and number, as the class has them -/
theorem win_all {cl : List (Nat → Int32)} {ne nt d e : Nat} (hV : ∀ k, k < cl.length → CV1 ne nt (rw5 cl k)) (hn : nt ≤ 10) (hd : d < 1024) : wh (rwK cl 0) (rwK cl 1) (rwK cl 2) (rwK cl 3) (rwK cl 4) (nI e) (nI d) cl.length = nI (winS cl d e 100).2.2 ∧ (0 < (winS cl d e 100).2.2 → wb (rwK cl 0) (rwK cl 1) (rwK cl 2) (rwK cl 3) (nI e) (nI d) cl.length = (winS cl d e 100).1 ∧ we (rwK cl 0) (rwK cl 1) (rwK cl 2) (rwK cl 4) (nI e) (nI d) cl.length = (winS cl d e 100).2.1) := by
  obtain ⟨x, y, hx, hy, e1, e2, e3, -⟩ := heard (e := e) hV hn hd cl.length (Nat.le_refl _)
  rw [win_100 hy e3]
  unfold wh
  rw [e1, e2, wh_n y (by omega) x (by omega)]
  by_cases h : x ≤ y
  · rw [if_pos h]
    exact ⟨rfl, fun _ => ⟨rfl, rfl⟩⟩
  · rw [if_neg h]
    exact ⟨by rw [show y + 1 - x = 0 by omega], fun h9 => absurd h9 (Nat.lt_irrefl 0)⟩
/-- the class's rows hold the claims, and who is against whom -/
def WS (A : Nat → Nat) (ne nt : Nat) (cl : List (Nat → Int32)) (x6 x7 x8 x9 x10 x21 : Nat → Int32) : Prop :=
  Wd A nt ne cl.length x6 x7 x8 x9 x10 (rwK cl 0) (rwK cl 1) (rwK cl 2) (rwK cl 3) (rwK cl 4) x21 x21 ∧ AcS cl A ∧ (∀ k, k < cl.length → CV1 ne nt (rw5 cl k)) ∧ CD cl
section AV
variable {A : Nat → Nat} {ne nt d : Nat} {cl : List (Nat → Int32)} {x6 x7 x8 x9 x10 x21 : Nat → Int32} {x18 x19 x20 : Int32} {N : Nat}
theorem li_eq (hw : WS A ne nt cl x6 x7 x8 x9 x10 x21) : lsN A nt d = (LIs cl d nt).1 ∧ csN A nt d = (LIs cl d nt).2.1 ∧ pcN (lsN A nt d) = (LIs cl d nt).2.2 := by
  have h := (dcd_same (d := d) hw.2.1 hw.1.2.2.2.1).1
  show lsN A nt d = (dcd cl d nt nt 0 (0, 0, 99)).1 ∧ csN A nt d = (dcd cl d nt nt 0 (0, 0, 99)).2.1 ∧ pcN (lsN A nt d) = (dcd cl d nt nt 0 (0, 0, 99)).2.2
  rw [h]
  exact ⟨rfl, rfl, rfl⟩
theorem li_lt (hw : WS A ne nt cl x6 x7 x8 x9 x10 x21) : (LIs cl d nt).1 < 1024 := by
  rw [← (li_eq (d := d) hw).1]
  exact LS_lt hw.1.2.1 hw.1.2.2.2.1 hw.1.2.2.2.2.2
theorem v_tc (hw : WS A ne nt cl x6 x7 x8 x9 x10 x21) (hd : d < 1024) {a b : Nat} (ha : a < 10) (hb : b < 10) : f_Ve_tellersContradict x21 (nI a) (nI b) (nI d) = bI (conS cl d a b) := by
  obtain ⟨⟨hc, h1, -, hn, hne, hsy⟩, hA, -, -⟩ := hw
  unfold f_Ve_tellersContradict
  rw [rg ha (by decide), (h1 a ha).1, has_db (by omega) (by omega), has_db (by omega) (by omega), has_db (by have := (h1 a ha).2; omega) (by omega), conS_cf]
  rw [show dbF (A a) b = bI (cfS cl a b) by rw [dbF_bI, hA a b ha hb], dbF_bI, dbF_bI]
  cases d.testBit a <;> cases d.testBit b <;> cases cfS cl a b <;> rfl
theorem v_doContradict (hw : WS A ne nt cl x6 x7 x8 x9 x10 x21) (hd : d < 1024) {a b : Nat} (ha : a < nt) (hb : b < nt) : f_Main_doContradict (nI nt) x21 (nI d) (nI a) (nI b) = some (.inl (bI (conS cl d a b))) := by
  have hn := hw.1.2.2.2.1
  unfold f_Main_doContradict
  simp only [nd_t ha (show nt < 2 ^ 31 by omega), nd_t hb (show nt < 2 ^ 31 by omega), oB_s, Sum.elim_inl, v_tc hw hd (show a < 10 by omega) (show b < 10 by omega), bI_zB, if_true]
theorem v_isDoubted (hn : nt ≤ 10) (hd : d < 1024) {a : Nat} (ha : a < nt) : f_Main_isDoubted (nI nt) (nI d) (nI a) = some (.inl (dbF d a)) := by
  unfold f_Main_isDoubted
  simp only [nd_t ha (show nt < 2 ^ 31 by omega), oB_s, Sum.elim_inl, has_db (show d < 2 ^ 31 by omega) (show a < 31 by omega), dbF_bI, bI_zB, if_true]
theorem v_isLiar (hw : WS A ne nt cl x6 x7 x8 x9 x10 x21) (hd : d < 1024) (hx : XC A nt x18 x19 x20) (hN : 2000 < N) {a : Nat} (ha : a < nt) : f_Main_isLiar N (nI nt) x18 x19 x20 x21 (nI d) (nI a) = some (.inl (dbF (LIs cl d nt).1 a, nI d, nI (lsN A nt d), nI (csN A nt d))) := by
  have hl := li_lt (d := d) hw
  obtain ⟨e1, -, -⟩ := li_eq (d := d) hw
  obtain ⟨⟨hc, h1, -, hn, hne, hsy⟩, hA, -, -⟩ := hw
  unfold f_Main_isLiar
  simp only [nd_t ha (show nt < 2 ^ 31 by omega), oB_s, Sum.elim_inl, x_liar h1 hn hsy hd hx hN]
  rw [e1]
  simp only [has_db (show (LIs cl d nt).1 < 2 ^ 31 by omega) (show a < 31 by omega), dbF_bI, bI_zB, if_true]
theorem v_liars (hw : WS A ne nt cl x6 x7 x8 x9 x10 x21) (hd : d < 1024) (hx : XC A nt x18 x19 x20) (hN : 2000 < N) : f_Main_liars N (nI nt) x18 x19 x20 x21 (nI d) = some (nI (LIs cl d nt).2.2, nI d, nI (lsN A nt d), nI (csN A nt d)) := by
  have hl := li_lt (d := d) hw
  obtain ⟨e1, -, e3⟩ := li_eq (d := d) hw
  obtain ⟨⟨hc, h1, -, hn, hne, hsy⟩, hA, -, -⟩ := hw
  unfold f_Main_liars
  simp only [oB_s, x_liar h1 hn hsy hd hx hN]
  rw [q_pc _ (by rw [e1]; exact hl), e3]
theorem v_sets (hw : WS A ne nt cl x6 x7 x8 x9 x10 x21) (hd : d < 1024) (hx : XC A nt x18 x19 x20) (hN : 2000 < N) : f_Main_smallestSets N (nI nt) x18 x19 x20 x21 (nI d) = some (nI (LIs cl d nt).2.1, nI d, nI (lsN A nt d), nI (csN A nt d)) := by
  obtain ⟨-, e2, -⟩ := li_eq (d := d) hw
  obtain ⟨⟨hc, h1, -, hn, hne, hsy⟩, hA, -, -⟩ := hw
  unfold f_Main_smallestSets f_Ve_setCount
  simp only [oB_s, x_judge h1 hn hsy hd hx hN]
  rw [e2]
theorem pn_eq (hw : WS A ne nt cl x6 x7 x8 x9 x10 x21) : pnT A (belN nt d) nt = pnS cl d nt nt := by
  have hn := hw.1.2.2.2.1
  unfold pnT pnS pnIn
  refine sm_congr _ fun a ha => sm_congr _ fun b hb => ?_
  rw [bel_bit, bel_bit, decide_eq_true ha, decide_eq_true hb, hw.2.1 a b (by omega) (by omega), conS_cf]
  cases d.testBit a <;> cases d.testBit b <;> cases decide (a < b) <;> cases cfS cl a b <;> rfl
theorem v_pn (hw : WS A ne nt cl x6 x7 x8 x9 x10 x21) (hN : 60 < N) : f_Ve_pairCount N (nI nt) x21 (nI d) = some (nI (pnS cl d nt nt)) := by
  rw [x_pn hw.1.2.1 hw.1.2.2.2.1 hN d, pn_eq hw]
theorem v_contradictions (hw : WS A ne nt cl x6 x7 x8 x9 x10 x21) (hN : 60 < N) : f_Main_contradictions N (nI nt) x21 (nI d) = some (nI (pnS cl d nt nt)) := by
  unfold f_Main_contradictions
  simp only [v_pn (d := d) hw hN, oB_s]
theorem v_claimsOf (hw : WS A ne nt cl x6 x7 x8 x9 x10 x21) (hN : 60 < N) {a : Nat} (ha : a < nt) : f_Main_claimsOf N (nI nt) (nI cl.length) x6 (nI a) = some (.inl (nI (cntS cl (nI a) cl.length))) := by
  have hn := hw.1.2.2.2.1
  unfold f_Main_claimsOf
  simp only [nd_t ha (show nt < 2 ^ 31 by omega), oB_s, Sum.elim_inl, x_count hw.1.1 hN]
  rfl
theorem v_contraryPairs (hw : WS A ne nt cl x6 x7 x8 x9 x10 x21) (hN : 60 < N) {a b : Nat} (ha : a < nt) (hb : b < nt) : f_Main_contraryPairs N (nI nt) (nI cl.length) x6 x7 x8 x9 x10 (nI a) (nI b) = some (.inl (nI (prsS cl (nI a) (nI b) cl.length))) := by
  have hn := hw.1.2.2.2.1
  unfold f_Main_contraryPairs
  simp only [nd_t ha (show nt < 2 ^ 31 by omega), nd_t hb (show nt < 2 ^ 31 by omega), oB_s, Sum.elim_inl, x_pairs hw.1.1 hN]
  rfl
theorem v_hours (hw : WS A ne nt cl x6 x7 x8 x9 x10 x21) (hd : d < 1024) (hN : 60 < N) (e : Nat) : f_Ve_windowHours N (nI cl.length) x6 x7 x8 x9 x10 (nI e) (nI d) = some (nI (winS cl d e 100).2.2) := by
  rw [x_hours hw.1.1 hN, (win_all hw.2.2.1 hw.1.2.2.2.1 hd).1]
theorem win_le0 {cl : List (Nat → Int32)} {d e : Nat} : nI (winS cl d e 100).2.2 ≤ 0 ↔ (winS cl d e 100).2.2 = 0 := by
  have h := win_le cl d e 100
  have := nI_leI (a := (winS cl d e 100).2.2) (b := 0) (by omega) (by decide)
  constructor
  · intro h2
    have := this.mp h2
    omega
  · intro h2
    exact this.mpr (by omega)
theorem v_isAgreed (hw : WS A ne nt cl x6 x7 x8 x9 x10 x21) (hd : d < 1024) (hN : 60 < N) {e : Nat} (he : e < ne) : f_Main_isAgreed N (nI ne) (nI cl.length) x6 x7 x8 x9 x10 (nI d) (nI e) = some (.inl (bI (decide (0 < (winS cl d e 100).2.2)))) := by
  have hne := hw.1.2.2.2.2.1
  unfold f_Main_isAgreed
  simp only [nd_e he (show ne < 2 ^ 31 by omega), oB_s, Sum.elim_inl, v_hours hw hd hN e]
  by_cases h : (winS cl d e 100).2.2 = 0
  · simp only [if_pos (win_le0.mpr h)]
    rw [h]
    rfl
  · simp only [if_neg (fun h2 => h (win_le0.mp h2))]
    rw [decide_eq_true (by omega)]
    rfl
theorem v_needW (hw : WS A ne nt cl x6 x7 x8 x9 x10 x21) (hd : d < 1024) (hN : 60 < N) {e : Nat} (hp : 0 < (winS cl d e 100).2.2) : f_Main_needWindow N (nI cl.length) x6 x7 x8 x9 x10 (nI d) (nI e) = some (.inl ()) := by
  have h := win_le cl d e 100
  unfold f_Main_needWindow
  simp only [v_hours hw hd hN e, oB_s]
  rw [if_neg (fun h9 => by have := (nI_eq (a := (winS cl d e 100).2.2) (b := 0) (by omega) (by decide)).mp h9; omega)]
theorem v_windowFrom (hw : WS A ne nt cl x6 x7 x8 x9 x10 x21) (hd : d < 1024) (hN : 60 < N) {e : Nat} (he : e < ne) (hp : 0 < (winS cl d e 100).2.2) : f_Main_windowFrom N (nI ne) (nI cl.length) x6 x7 x8 x9 x10 (nI d) (nI e) = some (.inl (winS cl d e 100).1) := by
  have hne := hw.1.2.2.2.2.1
  unfold f_Main_windowFrom
  simp only [nd_e he (show ne < 2 ^ 31 by omega), oB_s, Sum.elim_inl, v_needW hw hd hN hp, x_first hw.1.1 hN, ((win_all hw.2.2.1 hw.1.2.2.2.1 hd).2 hp).1]
theorem v_windowTo (hw : WS A ne nt cl x6 x7 x8 x9 x10 x21) (hd : d < 1024) (hN : 60 < N) {e : Nat} (he : e < ne) (hp : 0 < (winS cl d e 100).2.2) : f_Main_windowTo N (nI ne) (nI cl.length) x6 x7 x8 x9 x10 (nI d) (nI e) = some (.inl (winS cl d e 100).2.1) := by
  have hne := hw.1.2.2.2.2.1
  unfold f_Main_windowTo
  simp only [nd_e he (show ne < 2 ^ 31 by omega), oB_s, Sum.elim_inl, v_needW hw hd hN hp, x_last hw.1.1 hN, ((win_all hw.2.2.1 hw.1.2.2.2.1 hd).2 hp).2]
/-- the claims' numbers -/
theorem cl_row (hw : WS A ne nt cl x6 x7 x8 x9 x10 x21) {c : Nat} (hc : c < cl.length) : rget 40 x6 (nI c) = rw5 cl c 1 ∧ rget 40 x7 (nI c) = rw5 cl c 0 ∧ rget 40 x8 (nI c) = rw5 cl c 2 ∧ rget 40 x9 (nI c) = rw5 cl c 3 ∧ rget 40 x10 (nI c) = rw5 cl c 4 := by
  have h40 := hw.1.1.1
  obtain ⟨⟨a1, a2, a3, a4, a5⟩, -⟩ := hw.1.1.2 c hc
  rw [rg (show c < 40 by omega) (by decide), rg (show c < 40 by omega) (by decide), rg (show c < 40 by omega) (by decide), rg (show c < 40 by omega) (by decide), rg (show c < 40 by omega) (by decide)]
  exact ⟨a1, a2, a3, a4, a5⟩
theorem v_tellerOf (hw : WS A ne nt cl x6 x7 x8 x9 x10 x21) {c : Nat} (hc : c < cl.length) : f_Main_tellerOf (nI cl.length) x6 (nI c) = some (.inl (rw5 cl c 1)) := by
  have h40 := hw.1.1.1
  unfold f_Main_tellerOf
  simp only [need_in hc (show cl.length < 2 ^ 31 by omega), oB_s, Sum.elim_inl, (cl_row hw hc).1]
theorem v_kindOf (hw : WS A ne nt cl x6 x7 x8 x9 x10 x21) {c : Nat} (hc : c < cl.length) : f_Main_kindOf (nI cl.length) x7 (nI c) = some (.inl (rw5 cl c 0)) := by
  have h40 := hw.1.1.1
  unfold f_Main_kindOf
  simp only [need_in hc (show cl.length < 2 ^ 31 by omega), oB_s, Sum.elim_inl, (cl_row hw hc).2.1]
theorem v_eventOf (hw : WS A ne nt cl x6 x7 x8 x9 x10 x21) {c : Nat} (hc : c < cl.length) : f_Main_eventOf (nI cl.length) x8 (nI c) = some (.inl (rw5 cl c 2)) := by
  have h40 := hw.1.1.1
  unfold f_Main_eventOf
  simp only [need_in hc (show cl.length < 2 ^ 31 by omega), oB_s, Sum.elim_inl, (cl_row hw hc).2.2.1]
theorem v_second (hw : WS A ne nt cl x6 x7 x8 x9 x10 x21) {c : Nat} (hc : c < cl.length) (hk : ¬ rw5 cl c 0 = 0) : f_Main_secondEventOf (nI cl.length) x7 x9 (nI c) = some (.inl (rw5 cl c 3)) := by
  have h40 := hw.1.1.1
  unfold f_Main_secondEventOf
  simp only [need_in hc (show cl.length < 2 ^ 31 by omega), oB_s, Sum.elim_inl, (cl_row hw hc).2.1, (cl_row hw hc).2.2.2.1, if_neg hk]
theorem v_needH (hw : WS A ne nt cl x6 x7 x8 x9 x10 x21) {c : Nat} (hc : c < cl.length) (hk : rw5 cl c 0 = 0) : f_Main_needHours x7 (nI c) = some (.inl ()) := by
  unfold f_Main_needHours
  simp only [(cl_row hw hc).2.1, if_pos hk]
theorem v_firstHour (hw : WS A ne nt cl x6 x7 x8 x9 x10 x21) {c : Nat} (hc : c < cl.length) (hk : rw5 cl c 0 = 0) : f_Main_firstHourOf (nI cl.length) x7 x9 (nI c) = some (.inl (rw5 cl c 3)) := by
  have h40 := hw.1.1.1
  unfold f_Main_firstHourOf
  simp only [need_in hc (show cl.length < 2 ^ 31 by omega), oB_s, Sum.elim_inl, v_needH hw hc hk, (cl_row hw hc).2.2.2.1]
theorem v_lastHour (hw : WS A ne nt cl x6 x7 x8 x9 x10 x21) {c : Nat} (hc : c < cl.length) (hk : rw5 cl c 0 = 0) : f_Main_lastHourOf (nI cl.length) x7 x10 (nI c) = some (.inl (rw5 cl c 4)) := by
  have h40 := hw.1.1.1
  unfold f_Main_lastHourOf
  simp only [need_in hc (show cl.length < 2 ^ 31 by omega), oB_s, Sum.elim_inl, v_needH hw hc hk, (cl_row hw hc).2.2.2.2]
theorem v_areContrary (hw : WS A ne nt cl x6 x7 x8 x9 x10 x21) {a b : Nat} (ha : a < cl.length) (hb : b < cl.length) : f_Main_areContrary (nI cl.length) x7 x8 x9 x10 (nI a) (nI b) = some (.inl (bI (ctF (rw5 cl a) (rw5 cl b)))) := by
  have h40 := hw.1.1.1
  unfold f_Main_areContrary
  simp only [need_in ha (show cl.length < 2 ^ 31 by omega), need_in hb (show cl.length < 2 ^ 31 by omega), oB_s, Sum.elim_inl, cr_x hw.1.1 ha hb, bI_zB, if_true]
  rfl
/-- the order -/
theorem v_arrange (hw : WS A ne nt cl x6 x7 x8 x9 x10 x21) (hd : d < 1024) (hx : XC A nt x18 x19 x20) (hN : 2000 < N) (a0 o0 : Nat → Int32) : ∃ a2 o2, f_Ve_arrange N (nI ne) (nI nt) (nI cl.length) x6 x7 x8 x9 x18 x19 x20 x21 a0 o0 (nI d) = some (bI (ogS cl ne (trS cl d nt) ne).isSome, nI d, nI (lsN A nt d), nI (csN A nt d), a2, o2) ∧ ∀ q, ogS cl ne (trS cl d nt) ne = some q → ∀ i, i < ne → o2 i = nI (q.2 i) := by
  have e1 := (li_eq (d := d) hw).1
  obtain ⟨⟨hc, h1, -, hn, hne, hsy⟩, hA, -, -⟩ := hw
  have h := x_arr hc h1 hn hne hsy hd hx hN a0 o0
  have e2 : trN A nt d = trS cl d nt := by unfold trN trS; rw [e1]
  rw [e2] at h
  exact h
theorem v_hasOrder (hw : WS A ne nt cl x6 x7 x8 x9 x10 x21) (hd : d < 1024) (hx : XC A nt x18 x19 x20) (hN : 2000 < N) (a0 o0 : Nat → Int32) : ∃ a2 o2, f_Main_hasOrder N (nI ne) (nI nt) (nI cl.length) x6 x7 x8 x9 x18 x19 x20 x21 a0 o0 (nI d) = some (bI (ogS cl ne (trS cl d nt) ne).isSome, nI d, nI (lsN A nt d), nI (csN A nt d), a2, o2) := by
  obtain ⟨a2, o2, h, -⟩ := v_arrange hw hd hx hN a0 o0
  refine ⟨a2, o2, ?_⟩
  unfold f_Main_hasOrder
  simp only [h, oB_s, bI_zB, if_true]
theorem v_eventAt (hw : WS A ne nt cl x6 x7 x8 x9 x10 x21) (hd : d < 1024) (hx : XC A nt x18 x19 x20) (hN : 2000 < N) (a0 o0 : Nat → Int32) {q : Nat × (Nat → Nat)} (hq : ogS cl ne (trS cl d nt) ne = some q) {e : Nat} (he : e < ne) : ∃ a2 o2, f_Main_eventAt N (nI ne) (nI nt) (nI cl.length) x6 x7 x8 x9 x18 x19 x20 x21 a0 o0 (nI d) (nI e) = some (.inl (nI (q.2 e), nI d, nI (lsN A nt d), nI (csN A nt d), a2, o2)) := by
  have hne := hw.1.2.2.2.2.1
  obtain ⟨a2, o2, h, h2⟩ := v_arrange hw hd hx hN a0 o0
  refine ⟨a2, o2, ?_⟩
  unfold f_Main_eventAt
  rw [if_neg (nI_pos (by omega)), if_pos (nI_lt he (by omega)), h, oB_s, hq]
  show (if bI true = 0 then _ else _) = _
  rw [if_neg (by decide)]
  show some (Sum.inl (rget 8 o2 (nI e), nI d, nI (lsN A nt d), nI (csN A nt d), a2, o2)) = _
  rw [rg (show e < 8 by omega) (by decide), h2 q hq e he]
/-- whom one had best doubt -/
def bsS (cl : List (Nat → Int32)) (d nt : Nat) : Nat → Int32 × Nat
  | 0 => (-1, pnS cl d nt nt)
  | k + 1 => if (bsS cl d nt k).2 ≤ pnS cl (d ||| 2 ^ k) nt nt then bsS cl d nt k else (nI k, pnS cl (d ||| 2 ^ k) nt nt)
theorem bsS_le (cl : List (Nat → Int32)) (d nt : Nat) : ∀ k, (bsS cl d nt k).2 ≤ nt * nt
  | 0 => pnS_le cl d nt nt
  | k + 1 => by
    rw [bsS]
    split
    · exact bsS_le cl d nt k
    · exact pnS_le cl _ nt nt
theorem v_best (hw : WS A ne nt cl x6 x7 x8 x9 x10 x21) (hN : 60 < N) : f_Main_bestToDoubt N (nI nt) x21 (nI d) = some (bsS cl d nt nt).1 := by
  have hn := hw.1.2.2.2.1
  have hnn : nt * nt ≤ 100 := Nat.mul_le_mul hn hn
  unfold f_Main_bestToDoubt
  simp only [v_pn (d := d) hw hN, oB_s]
  refine lp_0 (fun k => ((bsS cl d nt k).1, nI (bsS cl d nt k).2, nI k)) nt rfl ?_ ?_ (by omega)
  · intro k hk
    have h1 := bsS_le cl d nt k
    have h2 := pnS_le cl (d ||| 2 ^ k) nt nt
    unfold f_Main_bestToDoubt_L19
    simp only [if_neg (nI_ge hk (show nt < 2 ^ 31 by omega)), q_bit k (show k < 32 by omega), q_or, v_pn (d := d ||| 2 ^ k) hw hN, oB_s, ← nI_succ]
    show _ = Sum.inl ((bsS cl d nt (k + 1)).1, nI (bsS cl d nt (k + 1)).2, nI (k + 1))
    rw [bsS]
    by_cases h : (bsS cl d nt k).2 ≤ pnS cl (d ||| 2 ^ k) nt nt
    · rw [if_pos h, if_pos ((nI_leI (by omega) (by omega)).mpr h)]
    · rw [if_neg h, if_neg (fun h9 => h ((nI_leI (by omega) (by omega)).mp h9))]
  · unfold f_Main_bestToDoubt_L19
    simp only [if_pos (nI_le (Nat.le_refl nt) (show nt < 2 ^ 31 by omega))]
theorem v_turn (hn : nt ≤ 10) (hd : d < 1024) {a : Nat} (ha : a < nt) : f_Main_turnDoubt (nI nt) (nI d) (nI a) = some (.inl (bI (!d.testBit a), nI (d ^^^ 2 ^ a))) := by
  have hp : 2 ^ a < 1024 := (Nat.pow_lt_pow_right (by decide) (by omega) : 2 ^ a < 2 ^ 10)
  unfold f_Main_turnDoubt
  simp only [nd_t ha (show nt < 2 ^ 31 by omega), oB_s, Sum.elim_inl, q_bit a (show a < 32 by omega), q_xor]
  rw [has_db (by have := xor_lt (n := 10) hd hp; omega) (by omega), dbF_bI, Nat.testBit_xor, Nat.testBit_two_pow_self, Bool.xor_true]
end AV
