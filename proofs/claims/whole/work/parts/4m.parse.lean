/-! reading a test: both sides, token by token -/
def tyR (K : Nat → Int32) : Nat → Nat → List Bool → Option (List Bool)
  | 0, _, l => some l
  | n + 1, s, l => match tyS (K s) l with
    | none => none
    | some l2 => tyR K n (s + 1) l2
theorem tyR_congr {K K2 : Nat → Int32} : ∀ n s l, (∀ i, s ≤ i → i < s + n → K2 i = K i) → tyR K2 n s l = tyR K n s l := by
  intro n
  induction n with
  | zero => intro s l _; rfl
  | succ n ih =>
    intro s l h
    show (match tyS (K2 s) l with | none => none | some l2 => tyR K2 n (s + 1) l2) = (match tyS (K s) l with | none => none | some l2 => tyR K n (s + 1) l2)
    rw [h s (Nat.le_refl _) (by omega)]
    cases tyS (K s) l with
    | none => rfl
    | some l2 => exact ih (s + 1) l2 (fun i a b => h i (by omega) (by omega))
theorem tyR_add {K : Nat → Int32} : ∀ n m s l l2, tyR K n s l = some l2 → tyR K (n + m) s l = tyR K m (s + n) l2 := by
  intro n
  induction n with
  | zero => intro m s l l2 h; cases h; rw [Nat.zero_add, Nat.add_zero]
  | succ n ih =>
    intro m s l l2 h
    have h1 : (match tyS (K s) l with | none => none | some l3 => tyR K n (s + 1) l3) = some l2 := h
    rw [show n + 1 + m = (n + m) + 1 by omega]
    show (match tyS (K s) l with | none => none | some l3 => tyR K (n + m) (s + 1) l3) = _
    cases hs : tyS (K s) l with
    | none => rw [hs] at h1; cases h1
    | some l3 =>
      rw [hs] at h1
      show tyR K (n + m) (s + 1) l3 = _
      rw [ih m (s + 1) l3 l2 h1, show s + 1 + n = s + (n + 1) by omega]
theorem tyR_1 {K : Nat → Int32} {s : Nat} {l l2 : List Bool} (h : tyS (K s) l = some l2) : tyR K 1 s l = some l2 := by
  show (match tyS (K s) l with | none => none | some l3 => tyR K 0 (s + 1) l3) = _
  rw [h]
  rfl
def nmd (o : Int32) : Bool := decide (o = 13 ∨ o = 14 ∨ o = 15 ∨ o = 17 ∨ o = 18 ∨ o = 19)
/-- a step before the names are settled -/
def StR (nt : Nat) (who : Nat → Int32) (t : Nat) (K P o w a : Int32) : Prop :=
  SR nt K P o (if nmd o = true then who w.toNatClampNeg else w) (if o = 17 then who a.toNatClampNeg else a) ∧ (nmd o = true → ∃ j, j < t ∧ w = nI j) ∧ (o = 17 → ∃ j, j < t ∧ a = nI j)
theorem str_mono {nt : Nat} {who who2 : Nat → Int32} {t t2 : Nat} {K P o w a : Int32} (h : StR nt who t K P o w a) (ht : t ≤ t2) (ht4 : t ≤ 401) (hw : ∀ j, j < t → who2 j = who j) : StR nt who2 t2 K P o w a := by
  obtain ⟨h1, h2, h3⟩ := h
  refine ⟨?_, fun h => ?_, fun h => ?_⟩
  · have e1 : (if nmd o = true then who2 w.toNatClampNeg else w) = (if nmd o = true then who w.toNatClampNeg else w) := by
      by_cases hn : nmd o = true
      · obtain ⟨j, hj, rfl⟩ := h2 hn
        rw [if_pos hn, if_pos hn, nI_clamp (by omega), hw j hj]
      · rw [if_neg hn, if_neg hn]
    have e2 : (if o = 17 then who2 a.toNatClampNeg else a) = (if o = 17 then who a.toNatClampNeg else a) := by
      by_cases hn : o = 17
      · obtain ⟨j, hj, rfl⟩ := h3 hn
        rw [if_pos hn, if_pos hn, nI_clamp (by omega), hw j hj]
      · rw [if_neg hn, if_neg hn]
    rw [e1, e2]
    exact h1
  · obtain ⟨j, hj, e⟩ := h2 h; exact ⟨j, by omega, e⟩
  · obtain ⟨j, hj, e⟩ := h3 h; exact ⟨j, by omega, e⟩
def TKs (xk xs xn mk mf : Nat → Int32) (xw mv : Nat → Int64) (T : Nat) : Prop :=
  T ≤ 400 ∧ (∀ i, i ≤ T → xk i = kmap (mk i) ∧ mk i ∈ kvs ∧ xs i = mf i ∧ (mk i = 30 → mv i = xw i) ∧ (mk i = 31 → mv i = (xn i).toInt64)) ∧ (∀ i, i < T → ¬ mk i = 33 ∧ ¬ mk i = 32) ∧ (mk T = 33 ∨ mk T = 32)
/-- what the model's second pass makes of the tokens so far -/
def QH (mk mf : Nat → Int32) (mv : Nat → Int64) (T nt ne : Nat) (xec xtc : Int32) (xew xtw : Nat → Int64) (Q : Nat → (Nat → Int32) → (Nat → Int32) → Prop) (QE : Nat → (Nat → Int32) → Int32 → Int32 → Prop) : Prop :=
  (∀ t mm who as r, t < T → Q t mm who → mk t = 30 → ((as = 11 ∧ r = nfind 8 xew xec (mv t)) ∨ (as = 12 ∧ r = nfind 10 xtw xtc (mv t))) → (¬ r = -1 → Q (t + 1) (upd mm t as) (upd who t r)) ∧ (r = -1 → QE (t + 1) (upd mm t as) 3 (mf t))) ∧
  (∀ t mm who, t < T → Q t mm who → mm t = 0 → Q (t + 1) mm who) ∧
  (∀ t mm mm2 e ep, t < T → QE t mm e ep → (∀ j, j < t → mm2 j = mm j) → QE (t + 1) mm2 e ep) ∧
  (∀ x, nfind 8 xew xec x = -1 ∨ ∃ k, k < ne ∧ nfind 8 xew xec x = nI k) ∧ (∀ x, nfind 10 xtw xtc x = -1 ∨ ∃ k, k < nt ∧ nfind 10 xtw xtc x = nI k) ∧ nt ≤ 10 ∧ ne ≤ 8
def ErrR (Q : Nat → (Nat → Int32) → (Nat → Int32) → Prop) (QE : Nat → (Nat → Int32) → Int32 → Int32 → Prop) (t : Nat) (mm who : Nat → Int32) (e ep : Int32) : Prop := (e = 0 ∧ ep = -1 ∧ Q t mm who) ∨ (¬ e = 0 ∧ ¬ e = 1 ∧ QE t mm e ep)
section PS
variable {xk xs xn mk mf : Nat → Int32} {xw mv : Nat → Int64} {T nt ne : Nat} {xec xtc : Int32} {xew xtw : Nat → Int64} {Q : Nat → (Nat → Int32) → (Nat → Int32) → Prop} {QE : Nat → (Nat → Int32) → Int32 → Int32 → Prop}
theorem err1 {t : Nat} {mm who : Nat → Int32} {e ep : Int32} (h : ErrR Q QE t mm who e ep) : ¬ e = 1 := by
  rcases h with ⟨h, -⟩ | ⟨-, h, -⟩
  · rw [h]; decide
  · exact h
theorem tk_lt (h : TKs xk xs xn mk mf xw mv T) {t : Nat} (ht : t ≤ T) (h3 : ¬ mk t = 33) (h2 : ¬ mk t = 32) : t < T := by
  rcases Nat.lt_or_eq_of_le ht with h5 | h5
  · exact h5
  · rw [h5] at h3 h2
    exact absurd h.2.2.2 (fun h6 => h6.elim h3 h2)
theorem adv (h : TKs xk xs xn mk mf xw mv T) {t : Nat} (ht : t < T) (k : Int32) : f_Re_advance (nI t) k xk = some (nI (t + 1), xk (t + 1)) := by
  have := h.1
  unfold f_Re_advance
  rw [← nI_succ, rg (by omega) (by decide)]
theorem failAt (h : TKs xk xs xn mk mf xw mv T) {t : Nat} (ht : t ≤ T) (k : Int32) {e ep : Int32} (he : ¬ e = 1) : f_Re_fail (nI t) k e ep xs = some (133, 1, mf t) := by
  have h4 := h.1
  have hx : rget 401 xs (nI t) = mf t := by rw [rg (by omega) (by decide)]; exact (h.2.1 t ht).2.2.1
  unfold f_Re_fail f_Re_note
  rw [hx]
  by_cases h0 : e = 0
  · rw [if_pos h0]; rfl
  · rw [if_neg h0, if_pos rfl, if_neg he]; rfl
theorem failF (a k ep : Int32) : f_Re_fail a k 1 ep xs = some (133, 1, ep) := by
  unfold f_Re_fail f_Re_note
  rw [if_neg n10, if_pos rfl, if_pos rfl]
  rfl
theorem eat_y (h : TKs xk xs xn mk mf xw mv T) {t : Nat} (ht : t ≤ T) {p : Int32} (hp : mk t = p) : f_M_eat (nI t) mk p = some (1, nI (t + 1)) := by
  have h4 := h.1
  unfold f_M_eat
  rw [if_pos (ib_nI (by omega) (by decide)), nI_clamp (by omega), if_pos hp, ← nI_succ]
theorem eat_n (h : TKs xk xs xn mk mf xw mv T) {t : Nat} (ht : t ≤ T) {p : Int32} (hp : ¬ mk t = p) : f_M_eat (nI t) mk p = some (0, nI t) := by
  have h4 := h.1
  unfold f_M_eat
  rw [if_pos (ib_nI (by omega) (by decide)), nI_clamp (by omega), if_neg hp]
theorem eatAs_y (h : TKs xk xs xn mk mf xw mv T) {t : Nat} (ht : t ≤ T) (mm : Nat → Int32) {p : Int32} (as : Int32) (hp : mk t = p) : f_M_eatAs (nI t) mk mm p as = some (1, nI (t + 1), upd mm t as) := by
  have h4 := h.1
  unfold f_M_eatAs
  rw [eat_y h ht hp, if_pos (ib_nI (by omega) (by decide)), oB_s, if_pos (show zB (1 : Int32) = true from rfl), nI_clamp (by omega)]
theorem eatAs_n (h : TKs xk xs xn mk mf xw mv T) {t : Nat} (ht : t ≤ T) (mm : Nat → Int32) {p : Int32} (as : Int32) (hp : ¬ mk t = p) : f_M_eatAs (nI t) mk mm p as = some (0, nI t, upd mm t as) := by
  have h4 := h.1
  unfold f_M_eatAs
  rw [eat_n h ht hp, if_pos (ib_nI (by omega) (by decide)), oB_s, if_pos (show zB (0 : Int32) = true from rfl), nI_clamp (by omega)]
theorem add_y {q : Nat} (hq : q < 400) (sk sp : Nat → Int32) (K P : Int32) : f_Or_addStep (nI q) sk sp K P = some (nI (q + 1), upd sk q K, upd sp q P) := by
  unfold f_Or_addStep
  rw [if_neg (show ¬ (400 : Int32) ≤ nI q from nI_ge (b := 400) hq (by decide)), rs hq (by decide), rs hq (by decide), ← nI_succ]
theorem put_y {q : Nat} (hq : q < 400) (mo mw : Nat → Int32) (o w : Int32) : f_M_put (nI q) mo mw o w = some (nI (q + 1), upd mo q o, upd mw q w) := by
  unfold f_M_put
  rw [if_pos (ib_nI (by omega) (by decide)), if_pos (ib_nI (by omega) (by decide)), nI_clamp (by omega), ← nI_succ]
theorem err_skip (hq : QH mk mf mv T nt ne xec xtc xew xtw Q QE) {t : Nat} {mm who : Nat → Int32} {e ep : Int32} (ht : t < T) (h : ErrR Q QE t mm who e ep) (h0 : mm t = 0) : ErrR Q QE (t + 1) mm who e ep := by
  rcases h with ⟨h1, h1', h2⟩ | ⟨h1, h2, h3⟩
  · exact Or.inl ⟨h1, h1', hq.2.1 t mm who ht h2 h0⟩
  · exact Or.inr ⟨h1, h2, hq.2.2.1 t mm mm e ep ht h3 (fun _ _ => rfl)⟩
/-- a name that has to be known -/
theorem known0 (h : TKs xk xs xn mk mf xw mv T) {t m as : Nat} {mm who : Nat → Int32} {r e ep : Int32} (ht : t < T) (hm : m ≤ 10) (hr : r = -1 ∨ ∃ k, k < m ∧ r = nI k) (he : ErrR Q QE t mm who e ep)
    (q1 : Q t mm who → (¬ r = -1 → Q (t + 1) (upd mm t (nI as)) (upd who t r)) ∧ (r = -1 → QE (t + 1) (upd mm t (nI as)) 3 (mf t))) (qe : ∀ e ep, QE t mm e ep → QE (t + 1) (upd mm t (nI as)) e ep) :
    ∃ e2 ep2, (if 0 ≤ r then (oB none (f_Re_advance (nI t) (xk t) xk) (fun (r31 : Int32 × Int32) => (some (r, r31.1, r31.2, e, ep)))) else (oB none (f_Re_note (nI t) e ep xs (3 : Int32)) (fun (r33 : Int32 × Int32) => (oB none (f_Re_advance (nI t) (xk t) xk) (fun (r35 : Int32 × Int32) => (some (r, r35.1, r35.2, r33.1, r33.2))))))) = some (r, nI (t + 1), xk (t + 1), e2, ep2) ∧ ErrR Q QE (t + 1) (upd mm t (nI as)) (upd who t r) e2 ep2 ∧ (e2 = 0 → e = 0 ∧ ∃ k, k < m ∧ r = nI k) := by
  have h4 := h.1
  have hs : rget 401 xs (nI t) = mf t := by rw [rg (by omega) (by decide)]; exact (h.2.1 t (by omega)).2.2.1
  rcases hr with hr | ⟨k, hk2, hr⟩
  · rw [if_neg (show ¬ (0 : Int32) ≤ r by rw [hr]; decide)]
    rcases he with ⟨h1, h1', h2⟩ | ⟨h1, h2, h3⟩
    · refine ⟨3, mf t, ?_, Or.inr ⟨by decide, by decide, (q1 h2).2 hr⟩, fun h5 => absurd h5 (by decide)⟩
      unfold f_Re_note
      rw [if_pos h1, hs, oB_s, adv h ht]
      rfl
    · refine ⟨e, ep, ?_, Or.inr ⟨h1, h2, qe e ep h3⟩, fun h5 => absurd h5 h1⟩
      unfold f_Re_note
      rw [if_neg h1, if_neg (show ¬ (3 : Int32) = 1 by decide), oB_s, adv h ht]
      rfl
  · have n1 : ¬ r = -1 := by
      rw [hr]
      exact nI_m1 (by omega)
    rw [if_pos (show (0 : Int32) ≤ r by rw [hr]; exact nI_pos' (by omega)), adv h ht]
    rcases he with ⟨h1, h1', h2⟩ | ⟨h1, h2, h3⟩
    · exact ⟨e, ep, rfl, Or.inl ⟨h1, h1', (q1 h2).1 n1⟩, fun _ => ⟨h1, k, hk2, hr⟩⟩
    · exact ⟨e, ep, rfl, Or.inr ⟨h1, h2, qe e ep h3⟩, fun h5 => absurd h5 h1⟩
theorem wrdAt (h : TKs xk xs xn mk mf xw mv T) {t : Nat} (ht : t < T) (hk : mk t = 30) : xk t = 130 ∧ f_To_wordAt xw (nI t) = some (mv t) := by
  have h4 := h.1
  obtain ⟨a1, a2, a3, a4, a5⟩ := h.2.1 t (by omega)
  refine ⟨by rw [a1, hk]; rfl, ?_⟩
  unfold f_To_wordAt
  rw [if_neg (nI_pos (by omega)), if_neg (show ¬ (401 : Int32) ≤ nI t from nI_ge (b := 401) (by omega) (by decide)), if_pos (ib_nI (by omega) (by decide)), nI_clamp (by omega), a4 hk]
theorem known_t (h : TKs xk xs xn mk mf xw mv T) (hq : QH mk mf mv T nt ne xec xtc xew xtw Q QE) {t : Nat} {mm who : Nat → Int32} {e ep : Int32} (ht : t < T) (hk : mk t = 30) (he : ErrR Q QE t mm who e ep) :
    ∃ r e2 ep2, f_Re_readKnown_v1 (nI t) (xk t) e ep xk xs xw xtc xtw = some (r, nI (t + 1), xk (t + 1), e2, ep2) ∧ ErrR Q QE (t + 1) (upd mm t 12) (upd who t r) e2 ep2 ∧ (e2 = 0 → e = 0 ∧ ∃ k, k < nt ∧ r = nI k) := by
  obtain ⟨hx, hw⟩ := wrdAt h ht hk
  obtain ⟨q1, q2, q3, q4, q5, q6, q7⟩ := hq
  obtain ⟨e2, ep2, w1, w2, w3⟩ := known0 (as := 12) h ht q6 (q5 (mv t)) he (fun hh => q1 t mm who 12 _ ht hh hk (Or.inr ⟨rfl, rfl⟩)) (fun e ep hh => q3 t mm _ e ep ht hh (fun j hj => upd_ne (by omega)))
  refine ⟨_, e2, ep2, ?_, w2, w3⟩
  unfold f_Re_readKnown_v1
  rw [if_pos hx, hw, oB_s]
  exact w1
theorem known_e (h : TKs xk xs xn mk mf xw mv T) (hq : QH mk mf mv T nt ne xec xtc xew xtw Q QE) {t : Nat} {mm who : Nat → Int32} {e ep : Int32} (ht : t < T) (hk : mk t = 30) (he : ErrR Q QE t mm who e ep) :
    ∃ r e2 ep2, f_Re_readKnown (nI t) (xk t) e ep xk xs xw xec xew = some (r, nI (t + 1), xk (t + 1), e2, ep2) ∧ ErrR Q QE (t + 1) (upd mm t 11) (upd who t r) e2 ep2 ∧ (e2 = 0 → e = 0 ∧ ∃ k, k < ne ∧ r = nI k) := by
  obtain ⟨hx, hw⟩ := wrdAt h ht hk
  obtain ⟨q1, q2, q3, q4, q5, q6, q7⟩ := hq
  obtain ⟨e2, ep2, w1, w2, w3⟩ := known0 (as := 11) h ht (show ne ≤ 10 by omega) (q4 (mv t)) he (fun hh => q1 t mm who 11 _ ht hh hk (Or.inl ⟨rfl, rfl⟩)) (fun e ep hh => q3 t mm _ e ep ht hh (fun j hj => upd_ne (by omega)))
  refine ⟨_, e2, ep2, ?_, w2, w3⟩
  unfold f_Re_readKnown
  rw [if_pos hx, hw, oB_s]
  exact w1
theorem km_name : ∀ k, k ∈ kvs → (kmap k = 130 ↔ k = 30) := by decide
theorem known_tF (h : TKs xk xs xn mk mf xw mv T) {t : Nat} {e ep : Int32} (ht : t ≤ T) (hk : ¬ mk t = 30) (he : ¬ e = 1) : f_Re_readKnown_v1 (nI t) (xk t) e ep xk xs xw xtc xtw = some (-1, nI t, 133, 1, mf t) := by
  obtain ⟨a1, a2, -⟩ := h.2.1 t ht
  unfold f_Re_readKnown_v1
  rw [if_neg (by rw [a1]; exact fun h5 => hk ((km_name _ a2).mp h5)), failAt h ht _ he, oB_s]
theorem known_eF (h : TKs xk xs xn mk mf xw mv T) {t : Nat} {e ep : Int32} (ht : t ≤ T) (hk : ¬ mk t = 30) (he : ¬ e = 1) : f_Re_readKnown (nI t) (xk t) e ep xk xs xw xec xew = some (-1, nI t, 133, 1, mf t) := by
  obtain ⟨a1, a2, -⟩ := h.2.1 t ht
  unfold f_Re_readKnown
  rw [if_neg (by rw [a1]; exact fun h5 => hk ((km_name _ a2).mp h5)), failAt h ht _ he, oB_s]
theorem known_tF2 (a ep : Int32) : f_Re_readKnown_v1 a 133 1 ep xk xs xw xtc xtw = some (-1, a, 133, 1, ep) := by
  unfold f_Re_readKnown_v1
  rw [if_neg (show ¬ (133 : Int32) = 130 by decide), failF, oB_s]
theorem known_eF2 (a ep : Int32) : f_Re_readKnown a 133 1 ep xk xs xw xec xew = some (-1, a, 133, 1, ep) := by
  unfold f_Re_readKnown
  rw [if_neg (show ¬ (133 : Int32) = 130 by decide), failF, oB_s]
theorem expectF2 (a ep p : Int32) (hp : ¬ (133 : Int32) = p) : f_Re_expect a 133 1 ep xk xs p = some (a, 133, 1, ep) := by
  unfold f_Re_expect
  rw [if_neg hp, failF, oB_s]
theorem expectF (h : TKs xk xs xn mk mf xw mv T) {t : Nat} {e ep p : Int32} (ht : t ≤ T) (hk : ¬ xk t = p) (he : ¬ e = 1) : f_Re_expect (nI t) (xk t) e ep xk xs p = some (nI t, 133, 1, mf t) := by
  unfold f_Re_expect
  rw [if_neg hk, failAt h ht _ he, oB_s]
theorem expectY (h : TKs xk xs xn mk mf xw mv T) {t : Nat} {e ep p : Int32} (ht : t < T) (hk : xk t = p) : f_Re_expect (nI t) (xk t) e ep xk xs p = some (nI (t + 1), xk (t + 1), e, ep) := by
  unfold f_Re_expect
  rw [if_pos hk, adv h ht, oB_s]
/-- once the class has failed, it fails to the end -/
def FX (ep : Int32) (r : Option (Int32 × Int32 × Int32 × Int32 × Int32 × Int32 × (Nat → Int32) × (Nat → Int32))) : Prop := ∃ a dp sc sk sp, r = some (a, 133, dp, 1, ep, sc, sk, sp)
theorem addSome (sc : Int32) (sk sp : Nat → Int32) (K P : Int32) : ∃ a b c, f_Or_addStep sc sk sp K P = some (a, b, c) := by
  unfold f_Or_addStep
  split
  · exact ⟨_, _, _, rfl⟩
  · exact ⟨_, _, _, rfl⟩
def rkF (k : Nat) : Nat := if k = 6 then 1 else if k = 5 then 2 else if k = 4 then 3 else if k = 3 then 1 else if k = 2 then 4 else if k = 1 then 5 else if k = 0 then 6 else 1
theorem failX {N : Nat} (hN : 1 < N) (ep : Int32) : ∀ D k, k < 8 → rkF k ≤ D → ∀ (a dp sc : Int32) (sk sp : Nat → Int32), FX ep (f_Re_parse N xk xs xn xw xec xew xtc xtw D k 0 0 (a, 133, dp, 1, ep, sc, sk, sp)) := by
  have n0 : ∀ p : Int32, ¬ p = 133 → ¬ (133 : Int32) = p := fun p h h2 => h h2.symm
  obtain ⟨N, rfl⟩ : ∃ M, N = M + 1 := ⟨N - 1, by omega⟩
  intro D
  induction D with
  | zero =>
    intro k hk hr
    unfold rkF at hr
    exfalso
    repeat' split at hr
    all_goals omega
  | succ D ih =>
    intro k hk hr a dp sc sk sp
    have hk8 : k = 0 ∨ k = 1 ∨ k = 2 ∨ k = 3 ∨ k = 4 ∨ k = 5 ∨ k = 6 ∨ k = 7 := by omega
    rcases hk8 with rfl | rfl | rfl | rfl | rfl | rfl | rfl | rfl
    · have hr' : 6 ≤ D + 1 := hr
      obtain ⟨a1, d1, s1, k1, p1, e1⟩ := ih 1 (by decide) (show 5 ≤ D by omega) a dp sc sk sp
      show FX ep (f_Re_readTest (N + 1) _ a 133 dp 1 ep xk xs xn xw sc sk sp xec xew xtc xtw)
      unfold f_Re_readTest
      rw [e1, oB_s]
      refine ⟨a1, d1, s1, k1, p1, lp_out ?_⟩
      unfold f_Re_readTest_L6
      rw [if_neg (show ¬ (400 : Int32) ≤ 0 by decide), if_neg (show ¬ (133 : Int32) = 222 by decide)]
    · have hr' : 5 ≤ D + 1 := hr
      obtain ⟨a1, d1, s1, k1, p1, e1⟩ := ih 2 (by decide) (show 4 ≤ D by omega) a dp sc sk sp
      show FX ep (f_Re_readBoth (N + 1) _ a 133 dp 1 ep xk xs xn xw sc sk sp xec xew xtc xtw)
      unfold f_Re_readBoth
      rw [e1, oB_s]
      refine ⟨a1, d1, s1, k1, p1, lp_out ?_⟩
      unfold f_Re_readBoth_L6
      rw [if_neg (show ¬ (400 : Int32) ≤ 0 by decide), if_neg (show ¬ (133 : Int32) = 221 by decide)]
    · have hr' : 4 ≤ D + 1 := hr
      obtain ⟨a1, d1, s1, k1, p1, e1⟩ := ih 4 (by decide) (show 3 ≤ D by omega) a dp sc sk sp
      obtain ⟨a2, d2, s2, k2, p2, e2⟩ := ih 3 (by decide) (show 1 ≤ D by omega) a1 d1 s1 k1 p1
      show FX ep (f_Re_readSingle (N + 1) _ a 133 dp 1 ep xk xs xn xw sc sk sp xec xew xtc xtw)
      unfold f_Re_readSingle
      rw [if_neg (show ¬ (133 : Int32) = 91 by decide), if_neg (show ¬ (133 : Int32) = 213 by decide), if_neg (show ¬ (133 : Int32) = 217 by decide), if_neg (show ¬ (133 : Int32) = 218 by decide), if_neg (show ¬ (133 : Int32) = 219 by decide), if_neg (show ¬ (133 : Int32) = 220 by decide), e1, oB_s, e2, oB_s]
      exact ⟨a2, d2, s2, k2, p2, rfl⟩
    · show FX ep (f_Re_readCompared (N + 1) (f_Re_parse (N + 1) xk xs xn xw xec xew xtc xtw D) a 133 dp 1 ep xk xs xn xw sc sk sp xec xew xtc xtw)
      unfold f_Re_readCompared
      rw [if_neg (show ¬ (133 : Int32) = 60 by decide), if_neg (show ¬ (133 : Int32) = 62 by decide), if_neg (show ¬ (133 : Int32) = 61 by decide), if_neg (show ¬ (133 : Int32) = 128 by decide), if_neg (show ¬ (133 : Int32) = 129 by decide), failF, oB_s]
      exact ⟨a, dp, sc, sk, sp, rfl⟩
    · have hr' : 3 ≤ D + 1 := hr
      obtain ⟨a1, d1, s1, k1, p1, e1⟩ := ih 5 (by decide) (show 2 ≤ D by omega) a dp sc sk sp
      show FX ep (f_Re_readSum (N + 1) _ a 133 dp 1 ep xk xs xn xw sc sk sp xec xew xtc xtw)
      unfold f_Re_readSum
      rw [e1, oB_s]
      refine ⟨a1, d1, s1, k1, p1, lp_out ?_⟩
      unfold f_Re_readSum_L6
      rw [if_neg (show ¬ (400 : Int32) ≤ 0 by decide), if_neg (show ¬ (133 : Int32) = 43 by decide), if_neg (show ¬ (133 : Int32) = 45 by decide)]
    · have hr' : 2 ≤ D + 1 := hr
      obtain ⟨a1, d1, s1, k1, p1, e1⟩ := ih 6 (by decide) (show 1 ≤ D by omega) a dp sc sk sp
      show FX ep (f_Re_readProduct (N + 1) _ a 133 dp 1 ep xk xs xn xw sc sk sp xec xew xtc xtw)
      unfold f_Re_readProduct
      rw [e1, oB_s]
      refine ⟨a1, d1, s1, k1, p1, lp_out ?_⟩
      unfold f_Re_readProduct_L6
      rw [if_neg (show ¬ (400 : Int32) ≤ 0 by decide), if_neg (show ¬ (133 : Int32) = 42 by decide), if_neg (show ¬ (133 : Int32) = 47 by decide)]
    · show FX ep (f_Re_readValue (N + 1) (f_Re_parse (N + 1) xk xs xn xw xec xew xtc xtw D) a 133 dp 1 ep xk xs xn xw sc sk sp xec xew xtc xtw)
      unfold f_Re_readValue
      rw [if_neg (show ¬ (133 : Int32) = 40 by decide), if_neg (show ¬ (133 : Int32) = 45 by decide), if_neg (show ¬ (133 : Int32) = 131 by decide), if_neg (show ¬ (133 : Int32) = 210 by decide), if_neg (show ¬ (133 : Int32) = 211 by decide), if_neg (show ¬ (133 : Int32) = 212 by decide), if_neg (show ¬ (133 : Int32) = 214 by decide), if_neg (show ¬ (133 : Int32) = 215 by decide), if_neg (show ¬ (133 : Int32) = 223 by decide), if_neg (show ¬ (133 : Int32) = 224 by decide), failF, oB_s]
      exact ⟨a, dp, sc, sk, sp, rfl⟩
    · show FX ep (f_Re_readTwoSums (N + 1) (f_Re_parse (N + 1) xk xs xn xw xec xew xtc xtw D) a 133 dp 1 ep xk xs xn xw sc sk sp xec xew xtc xtw)
      unfold f_Re_readTwoSums
      rw [if_neg (show ¬ (133 : Int32) = 40 by decide), failF, oB_s]
      exact ⟨a, dp, sc, sk, sp, rfl⟩
end PS
