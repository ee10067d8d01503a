/-! orders at evenings -/
def cdO (o : OT) : List (Int32 × Int32) := match o.2.2 with
  | none => []
  | some T => cdT 4 T
def ccm (os : List OT) : Nat → Nat
  | 0 => 0
  | k + 1 => ccm os k + (cdO (oG os k)).length
theorem ccm_le {os : List OT} {k : Nat} : ∀ m, k ≤ m → ccm os k ≤ ccm os m
  | 0, h => by rw [show k = 0 by omega]; exact Nat.le_refl _
  | m + 1, h => by
    by_cases e : k = m + 1
    · rw [e]
      exact Nat.le_refl _
    · have := ccm_le (os := os) (k := k) m (by omega)
      show ccm os k ≤ ccm os m + _
      omega
/-- the class's orders -/
def OrI (ne nt : Nat) (os : List OT) (x11 : Int32) (x13 x14 x15 x16 x17 : Nat → Int32) : Prop :=
  x11 = nI os.length ∧ os.length ≤ 4 ∧ ccm os os.length ≤ 400 ∧ ∀ k, k < os.length → x13 k = bI (oG os k).1 ∧ x14 k = nI (oG os k).2.1 ∧ (oG os k).2.1 < nt ∧ x15 k = nI (ccm os (k + 1)) ∧ At x16 x17 (ccm os k) (cdO (oG os k)) ∧ ∀ T, (oG os k).2.2 = some T → TB ne nt 4 T
theorem cd_pos {ne nt : Nat} : ∀ k T, (TE ne nt k T ∨ TB ne nt k T) → 0 < (cdT k T).length
  | 0, T, _ => nomatch T
  | k + 1, ((a, kd, n, o), ta, tb), hT => by
    have hap : ∀ (L : List (Int32 × Int32)) (p : Int32 × Int32), 0 < (L ++ [p]).length := fun L p => by rw [List.length_append]; exact Nat.succ_pos _
    rcases tr_kids hT with ⟨rfl, hb⟩ | rfl | rfl | rfl | ⟨rfl, hb⟩ | ⟨rfl, hb⟩ | ⟨hk1, x, rfl, hx⟩ | ⟨hk2, x, y, rfl, rfl, hx, hy⟩ | ⟨rfl, hb, hb2⟩ | ⟨rfl, hb⟩ | ⟨rfl, hb⟩ | ⟨rfl, hb⟩
    · exact Nat.one_pos
    · exact Nat.one_pos
    · exact Nat.one_pos
    · exact Nat.one_pos
    · exact Nat.one_pos
    · exact Nat.one_pos
    · rcases hk1 with rfl | rfl
      · exact hap _ _
      · exact hap _ _
    · rcases hk2 with rfl | rfl | rfl | rfl | rfl | rfl | rfl | rfl | rfl | rfl | rfl | rfl | rfl <;> exact hap _ _
    · exact Nat.one_pos
    · exact Nat.one_pos
    · exact Nat.one_pos
    · exact Nat.one_pos
theorem dif_off {d w : Nat} (h : d.testBit w = false) : dif d (2 ^ w) = d := by
  refine Nat.eq_of_testBit_eq fun j => ?_
  rw [dif_bit, Nat.testBit_two_pow]
  by_cases e : w = j
  · rw [← e, h]
    rfl
  · rw [decide_eq_false e]
    simp
theorem dif_on {d w : Nat} (h : d.testBit w = true) : dif d (2 ^ w) = d ^^^ 2 ^ w ∧ ¬ dif d (2 ^ w) = d := by
  refine ⟨Nat.eq_of_testBit_eq fun j => ?_, fun e => ?_⟩
  · rw [dif_bit, Nat.testBit_xor, Nat.testBit_two_pow]
    by_cases e : w = j
    · rw [← e, h, decide_eq_true rfl]
      rfl
    · rw [decide_eq_false e]
      simp
  · have := dif_bit d (2 ^ w) w
    rw [e, h, Nat.testBit_two_pow_self] at this
    exact absurd this (by decide)
theorem or_on {d w : Nat} (h : d.testBit w = true) : d ||| 2 ^ w = d := by
  refine Nat.eq_of_testBit_eq fun j => ?_
  rw [bit_or]
  by_cases e : w = j
  · rw [← e, h]
    rfl
  · rw [decide_eq_false e, Bool.or_false]
theorem or_off {d w : Nat} (h : d.testBit w = false) : d ||| 2 ^ w = d ^^^ 2 ^ w ∧ ¬ d ||| 2 ^ w = d := by
  refine ⟨Nat.eq_of_testBit_eq fun j => ?_, fun e => ?_⟩
  · rw [bit_or, Nat.testBit_xor, Nat.testBit_two_pow]
    by_cases e : w = j
    · rw [← e, h, decide_eq_true rfl]
      rfl
    · rw [decide_eq_false e]
      simp
  · have := bit_or (s := d) (t := w) w
    rw [e, h, decide_eq_true rfl] at this
    exact absurd this (by decide)
/-- evenings, one after the other -/
def evS (cl : List (Nat → Int32)) (nt : Nat) (os : List OT) : Nat → Nat × Int32 × Int32 → Nat × Int32 × Int32
  | 0, q => q
  | n + 1, q => ((psO cl nt (evS cl nt os n q).2.1 os os.length ((evS cl nt os n q).1, (evS cl nt os n q).2.2)).1, (evS cl nt os n q).2.1 + 1, (psO cl nt (evS cl nt os n q).2.1 os os.length ((evS cl nt os n q).1, (evS cl nt os n q).2.2)).2)
section EV
variable {A : Nat → Nat} {ne nt d : Nat} {cl : List (Nat → Int32)} {os : List OT} {x6 x7 x8 x9 x10 x21 x13 x14 x15 x16 x17 : Nat → Int32} {x11 : Int32} {N : Nat} {ev : Int32}
theorem v_start (ho : OrI ne nt os x11 x13 x14 x15 x16 x17) {k : Nat} (hk : k < os.length) : f_Or_startOf x15 (nI k) = nI (ccm os k) := by
  obtain ⟨-, h4, -, h⟩ := ho
  unfold f_Or_startOf
  cases k with
  | zero => rw [if_pos (by decide)]; rfl
  | succ k =>
    rw [if_neg (fun h9 => by have := (nI_leI (a := k + 1) (b := 0) (by omega) (by decide)).mp h9; omega), nI_pred, rg (show k < 16 by omega) (by decide)]
    exact (h k (by omega)).2.2.2.1
theorem v_holds (hw : WS A ne nt cl x6 x7 x8 x9 x10 x21) (ho : OrI ne nt os x11 x13 x14 x15 x16 x17) (hn6 : nt ≤ 6) (hd : d < 1024) (hN : 2000 < N) {k : Nat} (hk : k < os.length) {j l c : Int32} (hx : XC A nt j l c) (top : Int32) (xs : Nat → Int32) : ∃ j2 l2 c2 tp xs2, XC A nt j2 l2 c2 ∧ f_Co_holds N (nI nt) (nI cl.length) x6 x7 x8 x9 x10 x15 x16 x17 j l c x21 top (nI d) ev xs (nI k) = some (bI (goesO cl d nt ev (oG os k)), j2, l2, c2, tp, xs2) := by
  have hs := v_start ho hk
  obtain ⟨-, h4, h400, h⟩ := ho
  obtain ⟨-, -, -, he, hat, htb⟩ := h k hk
  have hle := ccm_le (os := os) (k := k + 1) os.length (by omega)
  unfold f_Co_holds
  rw [hs, rg (show k < 16 by omega) (by decide), he]
  cases ht : (oG os k).2.2 with
  | none =>
    have e0 : ccm os (k + 1) = ccm os k := by
      show ccm os k + (cdO (oG os k)).length = ccm os k
      unfold cdO
      rw [ht]
      rfl
    rw [e0, if_neg (nI_nlt (Nat.le_refl _) (by omega))]
    refine ⟨j, l, c, top, xs, hx, ?_⟩
    unfold goesO
    rw [ht]
    rfl
  | some T =>
    have eL : cdO (oG os k) = cdT 4 T := by
      unfold cdO
      rw [ht]
    have hT := htb T ht
    have e0 : ccm os (k + 1) = ccm os k + (cdT 4 T).length := by
      show ccm os k + (cdO (oG os k)).length = _
      rw [eL]
    have hp := cd_pos (ne := ne) (nt := nt) 4 T (Or.inr hT)
    rw [eL] at hat
    rw [if_pos (nI_lt (by omega) (by omega))]
    have hne8 := hw.1.2.2.2.2.1
    obtain ⟨xs2, j2, l2, c2, g1, g2, -, g4⟩ := run_T (ev := ev) hw hd hN (E := ccm os (k + 1)) (by omega) hn6 hne8 4 T (ccm os k) 0 (Or.inr hT) hat (by omega) (by omega) xs j l c hx
    have g5 := g4 (N - (cdT 4 T).length)
    rw [show (cdT 4 T).length + (N - (cdT 4 T).length) = N by omega] at g5
    have g6 : f_Co_holds_L42 N (nI nt) (nI cl.length) x6 x7 x8 x9 x10 x16 x17 x21 (nI d) ev (nI (ccm os (k + 1))) (nI (ccm os k + (cdT 4 T).length), j2, l2, c2, nI (0 + 1), xs2) = .inr (some (bI (goesO cl d nt ev (oG os k)), j2, l2, c2, nI 0, xs2)) := by
      have hle9 : nI (ccm os (k + 1)) ≤ nI (ccm os k + (cdT 4 T).length) := nI_le (by omega) (by omega)
      have e7 : nI 1 - 1 = nI 0 := nI_pred 0
      unfold f_Co_holds_L42 f_Co_pop
      simp only [if_pos hle9, oB_s, Nat.zero_add, e7, rg (show 0 < 400 by decide) (show 400 < 2147483648 by decide), g2]
      have eg : goesO cl d nt ev (oG os k) = decide (vlE cl d nt ev 4 T = 1) := by
        unfold goesO
        rw [ht]
      rw [eg]
      rcases vl_01 (cl := cl) (d := d) (ev := ev) 4 T hT with g | g
      · rw [g, if_pos rfl]
        rfl
      · rw [g, if_neg (by decide)]
        rfl
    refine ⟨j2, l2, c2, nI 0, xs2, g1, ?_⟩
    refine g5.trans ?_
    obtain ⟨M, hM⟩ : ∃ M, N - (cdT 4 T).length = M + 1 := ⟨N - (cdT 4 T).length - 1, by omega⟩
    rw [hM]
    exact lp_out g6
theorem v_carry (ho : OrI ne nt os x11 x13 x14 x15 x16 x17) (hn : nt ≤ 10) {q : Nat × Int32} (hd : q.1 < 1024) {k : Nat} (hk : k < os.length) : f_Co_carryOut x13 x14 (nI q.1) q.2 (nI k) = some (nI (if q.1.testBit (oG os k).2.1 = (oG os k).1 then q else (q.1 ^^^ 2 ^ (oG os k).2.1, q.2 + 1)).1, (if q.1.testBit (oG os k).2.1 = (oG os k).1 then q else (q.1 ^^^ 2 ^ (oG os k).2.1, q.2 + 1)).2) := by
  obtain ⟨-, h4, h400, h⟩ := ho
  obtain ⟨h1, h2, h3, -⟩ := h k hk
  generalize oG os k = o at h1 h2 h3 ⊢
  obtain ⟨b, w, ot⟩ := o
  have h3' : w < nt := h3
  have hp : 2 ^ w < 1024 := (Nat.pow_lt_pow_right (by decide) (by omega) : 2 ^ w < 2 ^ 10)
  unfold f_Co_carryOut
  rw [rg (show k < 16 by omega) (by decide), rg (show k < 16 by omega) (by decide), h1, h2]
  show (if bI b = 0 then _ else _) = some (nI (if q.1.testBit w = b then q else (q.1 ^^^ 2 ^ w, q.2 + 1)).1, (if q.1.testBit w = b then q else (q.1 ^^^ 2 ^ w, q.2 + 1)).2)
  have ho' : nI q.1 ||| ((1 : Int32) <<< (nI w &&& 31)) = nI (q.1 ||| 2 ^ w) := by rw [q_bit w (by omega), q_or]
  show (if bI b = 0 then (if (nI q.1 &&& (((1 : Int32) <<< (nI w &&& 31)) ^^^ (-1 : Int32))) = nI q.1 then some (nI q.1, q.2) else some (nI q.1 &&& (((1 : Int32) <<< (nI w &&& 31)) ^^^ (-1 : Int32)), q.2 + 1)) else (if (nI q.1 ||| ((1 : Int32) <<< (nI w &&& 31))) = nI q.1 then some (nI q.1, q.2) else some (nI q.1 ||| ((1 : Int32) <<< (nI w &&& 31)), q.2 + 1))) = _
  rw [q_dif1 (by omega), ho']
  have l1 : dif q.1 (2 ^ w) < 1024 := dif_lt (n := 10) hd
  have l2 : q.1 ||| 2 ^ w < 1024 := or_lt (n := 10) hd hp
  cases b with
  | false =>
    rw [if_pos (show bI false = 0 from rfl)]
    cases hb : q.1.testBit w with
    | false => rw [dif_off hb, if_pos rfl, if_pos rfl]
    | true =>
      rw [if_neg (fun e => (dif_on hb).2 ((nI_eq (by omega) (by omega)).mp e)), if_neg (by decide), (dif_on hb).1]
  | true =>
    rw [if_neg (show ¬ bI true = 0 by decide)]
    cases hb : q.1.testBit w with
    | true => rw [or_on hb, if_pos rfl, if_pos rfl]
    | false =>
      rw [if_neg (fun e => (or_off hb).2 ((nI_eq (by omega) (by omega)).mp e)), if_neg (by decide), (or_off hb).1]
theorem v_one (hw : WS A ne nt cl x6 x7 x8 x9 x10 x21) (ho : OrI ne nt os x11 x13 x14 x15 x16 x17) (hn6 : nt ≤ 6) (hd : d < 1024) (hN : 2000 < N) {j l c : Int32} (hx : XC A nt j l c) (top cr : Int32) (xs : Nat → Int32) : ∃ j2 l2 c2 tp xs2, XC A nt j2 l2 c2 ∧ f_Co_passOne N (nI nt) (nI cl.length) x6 x7 x8 x9 x10 x11 x13 x14 x15 x16 x17 j l c x21 top (nI d) ev cr xs = some (j2, l2, c2, tp, nI (psO cl nt ev os os.length (d, cr)).1, ev + 1, (psO cl nt ev os os.length (d, cr)).2, xs2) := by
  have h4 := ho.2.1
  have hw10 : ∀ i, i < os.length → (oG os i).2.1 < 10 := fun i hi => by have := (ho.2.2.2 i hi).2.2.1; omega
  unfold f_Co_passOne
  rw [ho.1]
  have key := lp_inv (step := f_Co_passOne_L2 N (nI nt) (nI cl.length) x6 x7 x8 x9 x10 (nI os.length) x13 x14 x15 x16 x17 x21 ev) (fail := none)
    (fun k z => ∃ j l c tp xs, XC A nt j l c ∧ z = (nI k, j, l, c, tp, nI (psO cl nt ev os k (d, cr)).1, (psO cl nt ev os k (d, cr)).2, xs)) os.length
    (fun t => ∃ j2 l2 c2 tp xs2, XC A nt j2 l2 c2 ∧ t = some (j2, l2, c2, tp, nI (psO cl nt ev os os.length (d, cr)).1, ev + 1, (psO cl nt ev os os.length (d, cr)).2, xs2)) ?_ ?_ (n := N) (s := (0, j, l, c, top, nI d, cr, xs)) (by omega) ⟨j, l, c, top, xs, hx, rfl⟩
  · obtain ⟨t, h1, j2, l2, c2, tp, xs2, h2, rfl⟩ := key
    exact ⟨j2, l2, c2, tp, xs2, h2, h1⟩
  · rintro k z hk ⟨j, l, c, tp, xs, hx, rfl⟩
    have hlt : (psO cl nt ev os k (d, cr)).1 < 1024 := psO_lt k (d, cr) (fun i hi => hw10 i (by omega)) hd
    obtain ⟨j2, l2, c2, tp2, xs2, g1, g2⟩ := v_holds (ev := ev) hw ho hn6 hlt hN hk hx tp xs
    have hc := v_carry ho (show nt ≤ 10 by omega) hlt hk
    have es : psO cl nt ev os (k + 1) (d, cr) = (if goesO cl (psO cl nt ev os k (d, cr)).1 nt ev (oG os k) = true then (if (psO cl nt ev os k (d, cr)).1.testBit (oG os k).2.1 = (oG os k).1 then (psO cl nt ev os k (d, cr)) else ((psO cl nt ev os k (d, cr)).1 ^^^ 2 ^ (oG os k).2.1, (psO cl nt ev os k (d, cr)).2 + 1)) else (psO cl nt ev os k (d, cr))) := rfl
    unfold f_Co_passOne_L2
    simp only [if_neg (nI_ge hk (show os.length < 2 ^ 31 by omega)), g2, oB_s, ← nI_succ]
    cases hg : goesO cl (psO cl nt ev os k (d, cr)).1 nt ev (oG os k) with
    | false =>
      rw [hg, if_neg (by decide)] at es
      rw [if_pos (show bI false = 0 from rfl)]
      exact ⟨_, rfl, j2, l2, c2, tp2, xs2, g1, by rw [es]⟩
    | true =>
      rw [hg, if_pos rfl] at es
      rw [if_neg (show ¬ bI true = 0 by decide), hc, oB_s]
      exact ⟨_, rfl, j2, l2, c2, tp2, xs2, g1, by rw [es]⟩
  · rintro z ⟨j, l, c, tp, xs, hx, rfl⟩
    unfold f_Co_passOne_L2
    simp only [if_pos (nI_le (Nat.le_refl os.length) (show os.length < 2 ^ 31 by omega))]
    exact ⟨_, rfl, j, l, c, tp, xs, hx, rfl⟩
theorem evS_lt (ho : OrI ne nt os x11 x13 x14 x15 x16 x17) (hn : nt ≤ 10) : ∀ n q, q.1 < 1024 → (evS cl nt os n q).1 < 1024
  | 0, _, h => h
  | n + 1, q, h => psO_lt os.length ((evS cl nt os n q).1, (evS cl nt os n q).2.2) (fun i hi => by have := (ho.2.2.2 i hi).2.2.1; omega) (evS_lt ho hn n q h)
theorem v_pass (hw : WS A ne nt cl x6 x7 x8 x9 x10 x21) (ho : OrI ne nt os x11 x13 x14 x15 x16 x17) (hn6 : nt ≤ 6) (hd : d < 1024) (hN : 2000 < N) {j l c : Int32} (hx : XC A nt j l c) (top cr : Int32) (xs : Nat → Int32) {k : Nat} (hk1 : 1 ≤ k) (hk : k ≤ 30) : ∃ j2 l2 c2 tp xs2, XC A nt j2 l2 c2 ∧ f_Main_passEvenings N (nI nt) (nI cl.length) x6 x7 x8 x9 x10 x11 x13 x14 x15 x16 x17 j l c x21 top (nI d) ev cr xs (nI k) = some (.inl ((evS cl nt os k (d, ev, cr)).2.2 - cr, j2, l2, c2, tp, nI (evS cl nt os k (d, ev, cr)).1, (evS cl nt os k (d, ev, cr)).2.1, (evS cl nt os k (d, ev, cr)).2.2, xs2)) := by
  have hnE : f_Main_needEvenings (nI k) = some (.inl ()) := by
    unfold f_Main_needEvenings
    rw [if_neg (fun h => by have := (nI_ltI (a := k) (b := 1) (by omega) (by decide)).mp h; omega), if_pos (show nI k ≤ (30 : Int32) from (nI_leI (a := k) (b := 30) (by omega) (by decide)).mpr hk)]
  unfold f_Main_passEvenings
  simp only [hnE, oB_s, Sum.elim_inl]
  have key := lp_inv (step := f_Main_passEvenings_L15 N (nI nt) (nI cl.length) x6 x7 x8 x9 x10 x11 x13 x14 x15 x16 x17 x21 cr (nI k)) (fail := none)
    (fun i z => ∃ j l c tp xs, XC A nt j l c ∧ z = (nI i, j, l, c, tp, nI (evS cl nt os i (d, ev, cr)).1, (evS cl nt os i (d, ev, cr)).2.1, (evS cl nt os i (d, ev, cr)).2.2, xs)) k
    (fun t => ∃ j2 l2 c2 tp xs2, XC A nt j2 l2 c2 ∧ t = some (.inl ((evS cl nt os k (d, ev, cr)).2.2 - cr, j2, l2, c2, tp, nI (evS cl nt os k (d, ev, cr)).1, (evS cl nt os k (d, ev, cr)).2.1, (evS cl nt os k (d, ev, cr)).2.2, xs2))) ?_ ?_ (n := N) (s := (0, j, l, c, top, nI d, ev, cr, xs)) (by omega) ⟨j, l, c, top, xs, hx, rfl⟩
  · obtain ⟨t, h1, j2, l2, c2, tp, xs2, h2, rfl⟩ := key
    exact ⟨j2, l2, c2, tp, xs2, h2, h1⟩
  · rintro i z hi ⟨j, l, c, tp, xs, hx, rfl⟩
    obtain ⟨j2, l2, c2, tp2, xs2, g1, g2⟩ := v_one (ev := (evS cl nt os i (d, ev, cr)).2.1) hw ho hn6 (evS_lt ho (by omega) i (d, ev, cr) hd) hN hx tp (evS cl nt os i (d, ev, cr)).2.2 xs
    unfold f_Main_passEvenings_L15
    simp only [if_neg (nI_ge hi (show k < 2 ^ 31 by omega)), ← nI_succ]
    rw [g2]
    exact ⟨_, rfl, j2, l2, c2, tp2, xs2, g1, rfl⟩
  · rintro z ⟨j, l, c, tp, xs, hx, rfl⟩
    unfold f_Main_passEvenings_L15
    simp only [if_pos (nI_le (Nat.le_refl k) (show k < 2 ^ 31 by omega))]
    exact ⟨_, rfl, j, l, c, tp, xs, hx, rfl⟩
theorem v_after (hw : WS A ne nt cl x6 x7 x8 x9 x10 x21) (ho : OrI ne nt os x11 x13 x14 x15 x16 x17) (hn6 : nt ≤ 6) (hd : d < 1024) (hN : 2000 < N) {j l c : Int32} (hx : XC A nt j l c) (cr x63 x64 x65 x66 : Int32) (xs : Nat → Int32) {k : Nat} (hk1 : 1 ≤ k) (hk : k ≤ 30) : ∃ j2 l2 c2 tp d2 e2 r2 xs2, XC A nt j2 l2 c2 ∧ f_Main_liarsAfter N (nI nt) (nI cl.length) x6 x7 x8 x9 x10 x11 x13 x14 x15 x16 x17 j l c x21 (nI d) ev cr x63 x64 x65 x66 xs (nI k) = some (.inl (nI (LIs cl (evS cl nt os k (d, ev, cr)).1 nt).2.2, j2, l2, c2, tp, d2, e2, r2, xs2)) := by
  have hnE : f_Main_needEvenings (nI k) = some (.inl ()) := by
    unfold f_Main_needEvenings
    rw [if_neg (fun h => by have := (nI_ltI (a := k) (b := 1) (by omega) (by decide)).mp h; omega), if_pos (show nI k ≤ (30 : Int32) from (nI_leI (a := k) (b := 30) (by omega) (by decide)).mpr hk)]
  unfold f_Main_liarsAfter f_Co_copyFrom
  simp only [hnE, oB_s, Sum.elim_inl]
  have key := lp_inv (step := f_Main_liarsAfter_L18 N (nI nt) (nI cl.length) x6 x7 x8 x9 x10 x11 x13 x14 x15 x16 x17 x21 (nI k)) (fail := none)
    (fun i z => ∃ j l c tp xs, XC A nt j l c ∧ z = (nI i, j, l, c, tp, nI (evS cl nt os i (d, ev, cr)).1, (evS cl nt os i (d, ev, cr)).2.1, (evS cl nt os i (d, ev, cr)).2.2, xs)) k
    (fun t => ∃ j2 l2 c2 tp d2 e2 r2 xs2, XC A nt j2 l2 c2 ∧ t = some (.inl (nI (LIs cl (evS cl nt os k (d, ev, cr)).1 nt).2.2, j2, l2, c2, tp, d2, e2, r2, xs2))) ?_ ?_ (n := N) (s := (0, j, l, c, x63, nI d, ev, cr, xs)) (by omega) ⟨j, l, c, x63, xs, hx, rfl⟩
  · obtain ⟨t, h1, j2, l2, c2, tp, d2, e2, r2, xs2, h2, rfl⟩ := key
    exact ⟨j2, l2, c2, tp, d2, e2, r2, xs2, h2, h1⟩
  · rintro i z hi ⟨j, l, c, tp, xs, hx, rfl⟩
    obtain ⟨j2, l2, c2, tp2, xs2, g1, g2⟩ := v_one (ev := (evS cl nt os i (d, ev, cr)).2.1) hw ho hn6 (evS_lt ho (by omega) i (d, ev, cr) hd) hN hx tp (evS cl nt os i (d, ev, cr)).2.2 xs
    unfold f_Main_liarsAfter_L18
    simp only [if_neg (nI_ge hi (show k < 2 ^ 31 by omega)), ← nI_succ]
    rw [g2]
    exact ⟨_, rfl, j2, l2, c2, tp2, xs2, g1, rfl⟩
  · rintro z ⟨j, l, c, tp, xs, hx, rfl⟩
    have hlt := evS_lt (cl := cl) ho (show nt ≤ 10 by omega) k (d, ev, cr) hd
    have hl := li_lt (d := (evS cl nt os k (d, ev, cr)).1) hw
    obtain ⟨e1, -, e3⟩ := li_eq (d := (evS cl nt os k (d, ev, cr)).1) hw
    unfold f_Main_liarsAfter_L18
    simp only [if_pos (nI_le (Nat.le_refl k) (show k < 2 ^ 31 by omega)), x_liar hw.1.2.1 hw.1.2.2.2.1 hw.1.2.2.2.2.2 hlt hx hN, oB_s]
    rw [q_pc _ (by rw [e1]; exact hl), e3]
    exact ⟨_, rfl, _, _, _, _, _, _, _, _, xc_at hlt, rfl⟩
/-- behind how many evenings there is one story -/
def unP (cl : List (Nat → Int32)) (nt : Nat) (os : List OT) (q : Nat × Int32 × Int32) (n : Nat) : Bool := decide ((LIs cl (evS cl nt os n q).1 nt).1 = 0)
def unS (cl : List (Nat → Int32)) (nt : Nat) (os : List OT) (q : Nat × Int32 × Int32) : Int32 := match ff (unP cl nt os q) 31 0 with
  | none => -1
  | some n => nI n
theorem v_until (hw : WS A ne nt cl x6 x7 x8 x9 x10 x21) (ho : OrI ne nt os x11 x13 x14 x15 x16 x17) (hn6 : nt ≤ 6) (hd : d < 1024) (hN : 2000 < N) {j l c : Int32} (hx : XC A nt j l c) (cr x63 x64 x65 x66 : Int32) (xs : Nat → Int32) : ∃ j2 l2 c2 tp d2 e2 r2 xs2, XC A nt j2 l2 c2 ∧ f_Main_eveningsUntilOneStory N (nI nt) (nI cl.length) x6 x7 x8 x9 x10 x11 x13 x14 x15 x16 x17 j l c x21 (nI d) ev cr x63 x64 x65 x66 xs = some (unS cl nt os (d, ev, cr), j2, l2, c2, tp, d2, e2, r2, xs2) := by
  unfold f_Main_eveningsUntilOneStory f_Co_copyFrom
  simp only [oB_s]
  have hz : ∀ i, (nI (LIs cl (evS cl nt os i (d, ev, cr)).1 nt).1 = 0 ↔ unP cl nt os (d, ev, cr) i = true) := by
    intro i
    have hl := li_lt (d := (evS cl nt os i (d, ev, cr)).1) hw
    unfold unP
    rw [decide_eq_true_eq]
    exact q_0 (by omega)
  have key := lp_inv2 (step := f_Main_eveningsUntilOneStory_L13 N (nI nt) (nI cl.length) x6 x7 x8 x9 x10 x11 x13 x14 x15 x16 x17 x21) (fail := none)
    (fun i z => (∀ m, m < i → unP cl nt os (d, ev, cr) m = false) ∧ ∃ j l c tp xs, XC A nt j l c ∧ z = (nI i, j, l, c, tp, nI (evS cl nt os i (d, ev, cr)).1, (evS cl nt os i (d, ev, cr)).2.1, (evS cl nt os i (d, ev, cr)).2.2, xs)) 30
    (fun t => ∃ j2 l2 c2 tp d2 e2 r2 xs2, XC A nt j2 l2 c2 ∧ t = some (unS cl nt os (d, ev, cr), j2, l2, c2, tp, d2, e2, r2, xs2)) ?_ ?_ (n := N) (s := (0, j, l, c, x63, nI d, ev, cr, xs)) (by omega) ⟨fun m hm => absurd hm (Nat.not_lt_zero m), j, l, c, x63, xs, hx, rfl⟩
  · obtain ⟨t, h1, j2, l2, c2, tp, d2, e2, r2, xs2, h2, rfl⟩ := key
    exact ⟨j2, l2, c2, tp, d2, e2, r2, xs2, h2, h1⟩
  · rintro i z hi ⟨hno, j, l, c, tp, xs, hx, rfl⟩
    have hlt := evS_lt (cl := cl) ho (show nt ≤ 10 by omega) i (d, ev, cr) hd
    have e1 := (li_eq (d := (evS cl nt os i (d, ev, cr)).1) hw).1
    have n30' : ¬ (30 : Int32) ≤ nI i := fun h => by have := (nI_leI (a := 30) (b := i) (by decide) (by omega)).mp h; omega
    unfold f_Main_eveningsUntilOneStory_L13
    simp only [if_neg n30', x_liar hw.1.2.1 hw.1.2.2.2.1 hw.1.2.2.2.2.2 hlt hx hN, oB_s, e1]
    cases hu : unP cl nt os (d, ev, cr) i with
    | true =>
      rw [if_pos ((hz i).mpr hu)]
      have hx3 := xc_at (A := A) (nt := nt) hlt
      rw [e1] at hx3
      exact Or.inr ⟨_, rfl, _, _, _, _, _, _, _, _, hx3, by unfold unS; rw [ff_some (e := i) 31 0 (by omega) (by omega) hu (fun m _ hm => hno m hm)]⟩
    | false =>
      rw [if_neg (fun h => by rw [(hz i).mp h] at hu; cases hu)]
      have hx2 := xc_at (A := A) (nt := nt) hlt
      obtain ⟨j2, l2, c2, tp2, xs2, g1, g2⟩ := v_one (ev := (evS cl nt os i (d, ev, cr)).2.1) hw ho hn6 hlt hN hx2 tp (evS cl nt os i (d, ev, cr)).2.2 xs
      rw [e1] at g2
      rw [g2, oB_s, nI_1]
      refine Or.inl ⟨_, rfl, fun m hm => ?_, j2, l2, c2, tp2, xs2, g1, rfl⟩
      by_cases hmi : m = i
      · rw [hmi]
        exact hu
      · exact hno m (by omega)
  · rintro z ⟨hno, j, l, c, tp, xs, hx, rfl⟩
    have hlt := evS_lt (cl := cl) ho (show nt ≤ 10 by omega) 30 (d, ev, cr) hd
    have e1 := (li_eq (d := (evS cl nt os 30 (d, ev, cr)).1) hw).1
    unfold f_Main_eveningsUntilOneStory_L13
    simp only [if_pos (show (30 : Int32) ≤ nI 30 by decide), x_liar hw.1.2.1 hw.1.2.2.2.1 hw.1.2.2.2.2.2 hlt hx hN, oB_s, e1]
    have hx2 := xc_at (A := A) (nt := nt) hlt
    rw [e1] at hx2
    cases hu : unP cl nt os (d, ev, cr) 30 with
    | true =>
      rw [if_pos ((hz 30).mpr hu)]
      exact ⟨_, rfl, _, _, _, _, _, _, _, _, hx2, by unfold unS; rw [ff_some (e := 30) 31 0 (by omega) (by omega) hu (fun m _ hm => hno m hm)]; rfl⟩
    | false =>
      rw [if_neg (fun h => by rw [(hz 30).mp h] at hu; cases hu)]
      have hf : ff (unP cl nt os (d, ev, cr)) 31 0 = none := ff_none 31 0 (fun m _ hm => by
        by_cases hm30 : m = 30
        · rw [hm30]
          exact hu
        · exact hno m (by omega))
      exact ⟨_, rfl, _, _, _, _, _, _, _, _, hx2, by unfold unS; rw [hf]⟩
end EV
