/-! the model's second pass, token by token -/
abbrev S2 := (Nat → Int32) × Int32 × Int32 × Int32 × Int32 × (Nat → Int64) × (Nat → Int64) × (Nat → Int32) × (Nat → Int32) × (Nat → Int32) × (Nat → Int32) × (Nat → Int32) × (Nat → Int32)
def E2 (N : Nat) (mk mm : Nat → Int32) (mv : Nat → Int64) (s : S2) (k : Nat) : Option (Int32 × S2) :=
  f_M_errorOf N mk mm mv s.1 s.2.1 s.2.2.1 s.2.2.2.1 s.2.2.2.2.1 s.2.2.2.2.2.1 s.2.2.2.2.2.2.1 s.2.2.2.2.2.2.2.1 s.2.2.2.2.2.2.2.2.1 s.2.2.2.2.2.2.2.2.2.1 s.2.2.2.2.2.2.2.2.2.2.1 s.2.2.2.2.2.2.2.2.2.2.2.1 s.2.2.2.2.2.2.2.2.2.2.2.2 (nI k)
def Ch (N : Nat) (mk : Nat → Int32) (mv : Nat → Int64) (s0 : S2) (mm : Nat → Int32) : Nat → S2 → Prop
  | 0, s => s = s0
  | t + 1, s => ∃ r, Ch N mk mv s0 mm t r ∧ E2 N mk mm mv r t = some (0, s)
def ChE (N : Nat) (mk mf : Nat → Int32) (mv : Nat → Int64) (s0 : S2) (t : Nat) (mm : Nat → Int32) (c p : Int32) : Prop := ∃ k, k < t ∧ ∃ r r2, Ch N mk mv s0 mm k r ∧ E2 N mk mm mv r k = some (c, r2) ∧ 0 < c ∧ p = mf k
theorem find_8 {N ne : Nat} (hN : 100 < N) (hn : ne ≤ 8) {w w2 : Nat → Int64} (hw : ∀ k, k < ne → w k = w2 k) (x : Int64) : f_M_find N w (nI ne) x = some (nfind 8 w2 (nI ne) x) := by
  have key : ∀ m i n, i + m = 8 → m < n → (i ≤ ne) → lpS (f_M_find_L3 w (nI ne) x) none n (nI i) = some (nfindF w2 (nI ne) x m i) := by
    intro m
    induction m with
    | zero =>
      intro i n hi hn2 hle
      cases n with
      | zero => omega
      | succ n =>
        apply lp_out
        unfold f_M_find_L3
        rw [if_pos (nI_le (by omega) (by omega))]
        rfl
    | succ m ih =>
      intro i n hi hn2 hle
      cases n with
      | zero => omega
      | succ n =>
        show _ = some (if nI i < nI ne then (if w2 i = x then nI i else nfindF w2 (nI ne) x m (i + 1)) else -1)
        by_cases h1 : i < ne
        · rw [if_pos (nI_lt h1 (by omega))]
          have e : f_M_find_L3 w (nI ne) x (nI i) = if w2 i = x then .inr (some (nI i)) else .inl (nI (i + 1)) := by
            unfold f_M_find_L3
            rw [if_neg (nI_ge h1 (by omega)), if_pos (ib_nI (by omega) (by decide)), nI_clamp (by omega), ← nI_succ, hw i h1]
            by_cases h2 : w2 i = x
            · rw [if_pos h2, if_pos ((lg_cmp_0 _ _).mpr h2)]
            · rw [if_neg h2, if_neg (fun h3 => h2 ((lg_cmp_0 _ _).mp h3))]
          by_cases h2 : w2 i = x
          · rw [if_pos h2] at e
            rw [lp_out e, if_pos h2]
          · rw [if_neg h2] at e
            rw [lp_in e, if_neg h2]
            exact ih (i + 1) n (by omega) (by omega) (by omega)
        · rw [if_neg (nI_nlt (by omega) (by omega))]
          apply lp_out
          unfold f_M_find_L3
          rw [if_pos (nI_le (by omega) (by omega))]
  unfold f_M_find
  exact key 8 0 N rfl (by omega) (Nat.zero_le _)
theorem find_10 {N ne : Nat} (hN : 100 < N) (hn : ne ≤ 10) {w w2 : Nat → Int64} (hw : ∀ k, k < ne → w k = w2 k) (x : Int64) : f_M_find_v1 N w (nI ne) x = some (nfind 10 w2 (nI ne) x) := by
  have key : ∀ m i n, i + m = 10 → m < n → (i ≤ ne) → lpS (f_M_find_v1_L3 w (nI ne) x) none n (nI i) = some (nfindF w2 (nI ne) x m i) := by
    intro m
    induction m with
    | zero =>
      intro i n hi hn2 hle
      cases n with
      | zero => omega
      | succ n =>
        apply lp_out
        unfold f_M_find_v1_L3
        rw [if_pos (nI_le (by omega) (by omega))]
        rfl
    | succ m ih =>
      intro i n hi hn2 hle
      cases n with
      | zero => omega
      | succ n =>
        show _ = some (if nI i < nI ne then (if w2 i = x then nI i else nfindF w2 (nI ne) x m (i + 1)) else -1)
        by_cases h1 : i < ne
        · rw [if_pos (nI_lt h1 (by omega))]
          have e : f_M_find_v1_L3 w (nI ne) x (nI i) = if w2 i = x then .inr (some (nI i)) else .inl (nI (i + 1)) := by
            unfold f_M_find_v1_L3
            rw [if_neg (nI_ge h1 (by omega)), if_pos (ib_nI (by omega) (by decide)), nI_clamp (by omega), ← nI_succ, hw i h1]
            by_cases h2 : w2 i = x
            · rw [if_pos h2, if_pos ((lg_cmp_0 _ _).mpr h2)]
            · rw [if_neg h2, if_neg (fun h3 => h2 ((lg_cmp_0 _ _).mp h3))]
          by_cases h2 : w2 i = x
          · rw [if_pos h2] at e
            rw [lp_out e, if_pos h2]
          · rw [if_neg h2] at e
            rw [lp_in e, if_neg h2]
            exact ih (i + 1) n (by omega) (by omega) (by omega)
        · rw [if_neg (nI_nlt (by omega) (by omega))]
          apply lp_out
          unfold f_M_find_v1_L3
          rw [if_pos (nI_le (by omega) (by omega))]
  unfold f_M_find_v1
  exact key 10 0 N rfl (by omega) (Nat.zero_le _)
theorem nfF_in {w : Nat → Int64} {n : Nat} {x : Int64} (hn : n < 1000) : ∀ m i, i + m < 1000 → nfindF w (nI n) x m i = -1 ∨ ∃ k, k < n ∧ nfindF w (nI n) x m i = nI k := by
  intro m
  induction m with
  | zero => intro i _; exact Or.inl rfl
  | succ m ih =>
    intro i hi
    show (if nI i < nI n then (if w i = x then nI i else nfindF w (nI n) x m (i + 1)) else -1) = -1 ∨ ∃ k, k < n ∧ (if nI i < nI n then (if w i = x then nI i else nfindF w (nI n) x m (i + 1)) else -1) = nI k
    by_cases h3 : nI i < nI n
    · rw [if_pos h3]
      by_cases h2 : w i = x
      · rw [if_pos h2]
        by_cases h1 : i < n
        · exact Or.inr ⟨i, h1, rfl⟩
        · exact absurd h3 (nI_nlt (by omega) (by omega))
      · rw [if_neg h2]
        exact ih (i + 1) (by omega)
    · rw [if_neg h3]
      exact Or.inl rfl
theorem nfF_any {w : Nat → Int64} {x : Int64} {d : Int32} : ∀ m i, nfindF w d x m i = -1 ∨ ∃ k, k < i + m ∧ nfindF w d x m i = nI k := by
  intro m
  induction m with
  | zero => intro i; exact Or.inl rfl
  | succ m ih =>
    intro i
    show (if nI i < d then (if w i = x then nI i else nfindF w d x m (i + 1)) else -1) = -1 ∨ ∃ k, k < i + (m + 1) ∧ (if nI i < d then (if w i = x then nI i else nfindF w d x m (i + 1)) else -1) = nI k
    by_cases h3 : nI i < d
    · rw [if_pos h3]
      by_cases h2 : w i = x
      · rw [if_pos h2]
        exact Or.inr ⟨i, by omega, rfl⟩
      · rw [if_neg h2]
        rcases ih (i + 1) with h | ⟨k, h, h4⟩
        · exact Or.inl h
        · exact Or.inr ⟨k, by omega, h4⟩
    · rw [if_neg h3]
      exact Or.inl rfl
section CH
variable {N : Nat} {mk mf : Nat → Int32} {mv : Nat → Int64} {s0 : S2}
theorem e2_congr {mm mm2 : Nat → Int32} {r : S2} {k : Nat} (h : mm2 k = mm k) (hk : k < 401) : E2 N mk mm2 mv r k = E2 N mk mm mv r k := by
  have e : (nI k).toNatClampNeg = k := nI_clamp (by omega)
  unfold E2 f_M_errorOf f_M_ofClaim
  simp only [e, h]
theorem ch_congr {mm mm2 : Nat → Int32} : ∀ t s, t ≤ 401 → (∀ j, j < t → mm2 j = mm j) → Ch N mk mv s0 mm t s → Ch N mk mv s0 mm2 t s := by
  intro t
  induction t with
  | zero => intro s _ _ h; exact h
  | succ t ih =>
    rintro s ht hj ⟨r, h1, h2⟩
    exact ⟨r, ih r (by omega) (fun j hh => hj j (by omega)) h1, by rw [e2_congr (hj t (by omega)) (by omega)]; exact h2⟩
theorem che_mono {t t2 : Nat} {mm mm2 : Nat → Int32} {c p : Int32} (h : ChE N mk mf mv s0 t mm c p) (ht : t ≤ t2) (ht4 : t ≤ 401) (hj : ∀ j, j < t → mm2 j = mm j) : ChE N mk mf mv s0 t2 mm2 c p := by
  obtain ⟨k, h1, r, r2, h2, h3, h4, h5⟩ := h
  exact ⟨k, by omega, r, r2, ch_congr k r (by omega) (fun j hh => hj j (by omega)) h2, by rw [e2_congr (hj k h1) (by omega)]; exact h3, h4, h5⟩
section ES
variable {mm : Nat → Int32} {t ne nt m k : Nat} {who kd bY oF oT lA wM : Nat → Int32} {ev te cl od : Int32} {event teller eW tW : Nat → Int64}
theorem e_0 (ht : t < 401) (h : mm t = 0) (s : S2) : E2 N mk mm mv s t = some (0, s) := by
  unfold E2 f_M_errorOf
  simp only [ib_nI ht (show 401 < 2147483648 by decide), nI_clamp (show t < 2 ^ 31 by omega), h, if_true]
theorem e_1 (hN : 100 < N) (ht : t < 401) (h : mm t = 1) (hne : ne ≤ 8) (hw : ∀ k, k < ne → event k = eW k) : E2 N mk mm mv (who, nI ne, te, cl, od, event, teller, kd, bY, oF, oT, lA, wM) t =
    (if nfind 8 eW (nI ne) (mv t) = -1 then (if ne = 8 then some (4, who, nI ne, te, cl, od, event, teller, kd, bY, oF, oT, lA, wM) else some (0, who, nI (ne + 1), te, cl, od, vp_updL event ne (mv t), teller, kd, bY, oF, oT, lA, wM)) else some (2, who, nI ne, te, cl, od, event, teller, kd, bY, oF, oT, lA, wM)) := by
  unfold E2 f_M_errorOf f_M_newEvent
  simp only [ib_nI ht (show 401 < 2147483648 by decide), nI_clamp (show t < 2 ^ 31 by omega), h, if_true, if_neg (show ¬ (1 : Int32) = 0 by decide), find_8 hN hne hw, oB_s]
  by_cases h1 : nfind 8 eW (nI ne) (mv t) = -1
  · rw [if_pos h1, if_pos h1]
    by_cases h2 : ne = 8
    · rw [if_pos h2, if_pos (show nI ne = 8 by rw [h2]; rfl), oB_s]
    · rw [if_neg h2, if_neg (show ¬ nI ne = 8 from fun h3 => h2 ((nI_eq (b := 8) (by omega) (by decide)).mp h3)), if_pos (ib_nI (by omega) (by decide)), nI_clamp (by omega), oB_s, ← nI_succ]
  · rw [if_neg h1, if_neg h1, oB_s]
theorem e_2 (hN : 100 < N) (ht : t < 401) (h : mm t = 2) (hne : nt ≤ 10) (hw : ∀ k, k < nt → teller k = tW k) : E2 N mk mm mv (who, ev, nI nt, cl, od, event, teller, kd, bY, oF, oT, lA, wM) t =
    (if nfind 10 tW (nI nt) (mv t) = -1 then (if nt = 10 then some (4, who, ev, nI nt, cl, od, event, teller, kd, bY, oF, oT, lA, wM) else some (0, who, ev, nI (nt + 1), cl, od, event, vp_updL teller nt (mv t), kd, bY, oF, oT, lA, wM)) else some (2, who, ev, nI nt, cl, od, event, teller, kd, bY, oF, oT, lA, wM)) := by
  unfold E2 f_M_errorOf f_M_newTeller
  simp only [ib_nI ht (show 401 < 2147483648 by decide), nI_clamp (show t < 2 ^ 31 by omega), h, if_true, if_neg (show ¬ (2 : Int32) = 0 by decide), if_neg (show ¬ (2 : Int32) = 1 by decide), find_10 hN hne hw, oB_s]
  by_cases h1 : nfind 10 tW (nI nt) (mv t) = -1
  · rw [if_pos h1, if_pos h1]
    by_cases h2 : nt = 10
    · rw [if_pos h2, if_pos (show nI nt = 10 by rw [h2]; rfl), oB_s]
    · rw [if_neg h2, if_neg (show ¬ nI nt = 10 from fun h3 => h2 ((nI_eq (b := 10) (by omega) (by decide)).mp h3)), if_pos (ib_nI (by omega) (by decide)), nI_clamp (by omega), oB_s, ← nI_succ]
  · rw [if_neg h1, if_neg h1, oB_s]
theorem e_3 (ht : t < 401) (h : mm t = 3) (hm : m ≤ 40) : E2 N mk mm mv (who, ev, te, nI m, od, event, teller, kd, bY, oF, oT, lA, wM) t =
    (if m = 40 then some (4, who, ev, te, nI m, od, event, teller, kd, bY, oF, oT, lA, wM) else some (0, who, ev, te, nI (m + 1), od, event, teller, kd, bY, oF, oT, lA, wM)) := by
  unfold E2 f_M_errorOf f_M_newClaim
  simp only [ib_nI ht (show 401 < 2147483648 by decide), nI_clamp (show t < 2 ^ 31 by omega), h, if_true, if_neg (show ¬ (3 : Int32) = 0 by decide), if_neg (show ¬ (3 : Int32) = 1 by decide), if_neg (show ¬ (3 : Int32) = 2 by decide)]
  by_cases h2 : m = 40
  · rw [if_pos h2, if_pos (show nI m = 40 by rw [h2]; rfl), oB_s]
  · rw [if_neg h2, if_neg (show ¬ nI m = 40 from fun h3 => h2 ((nI_eq (b := 40) (by omega) (by decide)).mp h3)), oB_s, ← nI_succ]
theorem e_9 (ht : t < 401) (h : mm t = 9) (hm : m ≤ 16) : E2 N mk mm mv (who, ev, te, cl, nI m, event, teller, kd, bY, oF, oT, lA, wM) t =
    (if m = 16 then some (4, who, ev, te, cl, nI m, event, teller, kd, bY, oF, oT, lA, wM) else some (0, who, ev, te, cl, nI (m + 1), event, teller, kd, bY, oF, oT, lA, wM)) := by
  unfold E2 f_M_errorOf f_M_newOrder
  simp only [ib_nI ht (show 401 < 2147483648 by decide), nI_clamp (show t < 2 ^ 31 by omega), h, if_true, if_neg (show ¬ (9 : Int32) = 0 by decide), if_neg (show ¬ (9 : Int32) = 1 by decide), if_neg (show ¬ (9 : Int32) = 2 by decide), if_neg (show ¬ (9 : Int32) = 3 by decide), if_neg (show ¬ (9 : Int32) = 4 by decide), if_neg (show ¬ (9 : Int32) = 5 by decide), if_neg (show ¬ (9 : Int32) = 6 by decide), if_neg (show ¬ (9 : Int32) = 7 by decide), if_neg (show ¬ (9 : Int32) = 8 by decide)]
  by_cases h2 : m = 16
  · rw [if_pos h2, if_pos (show nI m = 16 by rw [h2]; rfl), oB_s]
  · rw [if_neg h2, if_neg (show ¬ nI m = 16 from fun h3 => h2 ((nI_eq (b := 16) (by omega) (by decide)).mp h3)), oB_s, ← nI_succ]
theorem aT (hN : 100 < N) (ht : t < 401) (hne : nt ≤ 10) (hw : ∀ k, k < nt → teller k = tW k) : f_M_aTeller N mv who (nI nt) teller (nI t) = some ((if nfind 10 tW (nI nt) (mv t) = -1 then 3 else 0), upd who t (nfind 10 tW (nI nt) (mv t))) := by
  unfold f_M_aTeller
  simp only [ib_nI ht (show 401 < 2147483648 by decide), nI_clamp (show t < 2 ^ 31 by omega), if_true, find_10 hN hne hw, oB_s, upd_at]
  by_cases h1 : nfind 10 tW (nI nt) (mv t) = -1
  · rw [if_pos h1, if_pos h1]
  · rw [if_neg h1, if_neg h1]
theorem aE (hN : 100 < N) (ht : t < 401) (hne : ne ≤ 8) (hw : ∀ k, k < ne → event k = eW k) : f_M_anEvent N mv who (nI ne) event (nI t) = some ((if nfind 8 eW (nI ne) (mv t) = -1 then 3 else 0), upd who t (nfind 8 eW (nI ne) (mv t))) := by
  unfold f_M_anEvent
  simp only [ib_nI ht (show 401 < 2147483648 by decide), nI_clamp (show t < 2 ^ 31 by omega), if_true, find_8 hN hne hw, oB_s, upd_at]
  by_cases h1 : nfind 8 eW (nI ne) (mv t) = -1
  · rw [if_pos h1, if_pos h1]
  · rw [if_neg h1, if_neg h1]
theorem e_10 (hN : 100 < N) (ht : t < 401) (h : mm t = 10) (hk : k < 16) (hne : nt ≤ 10) (hw : ∀ k, k < nt → teller k = tW k) : E2 N mk mm mv (who, ev, nI nt, cl, nI (k + 1), event, teller, kd, bY, oF, oT, lA, wM) t =
    some ((if nfind 10 tW (nI nt) (mv t) = -1 then 3 else 0), upd who t (nfind 10 tW (nI nt) (mv t)), ev, nI nt, cl, nI (k + 1), event, teller, kd, bY, oF, oT, lA, upd wM k (nfind 10 tW (nI nt) (mv t))) := by
  unfold E2 f_M_errorOf
  simp only [ib_nI ht (show 401 < 2147483648 by decide), nI_clamp (show t < 2 ^ 31 by omega), h, if_true, if_neg (show ¬ (10 : Int32) = 0 by decide), if_neg (show ¬ (10 : Int32) = 1 by decide), if_neg (show ¬ (10 : Int32) = 2 by decide), if_neg (show ¬ (10 : Int32) = 3 by decide), if_neg (show ¬ (10 : Int32) = 4 by decide), if_neg (show ¬ (10 : Int32) = 5 by decide), if_neg (show ¬ (10 : Int32) = 6 by decide), if_neg (show ¬ (10 : Int32) = 7 by decide), if_neg (show ¬ (10 : Int32) = 8 by decide), if_neg (show ¬ (10 : Int32) = 9 by decide), aT hN ht hne hw, oB_s, nI_pred, ib_nI (show k < 16 by omega) (show 16 < 2147483648 by decide), nI_clamp (show k < 2 ^ 31 by omega), upd_at]
theorem e_11 (hN : 100 < N) (ht : t < 401) (h : mm t = 11) (hne : ne ≤ 8) (hw : ∀ k, k < ne → event k = eW k) : E2 N mk mm mv (who, nI ne, te, cl, od, event, teller, kd, bY, oF, oT, lA, wM) t =
    some ((if nfind 8 eW (nI ne) (mv t) = -1 then 3 else 0), upd who t (nfind 8 eW (nI ne) (mv t)), nI ne, te, cl, od, event, teller, kd, bY, oF, oT, lA, wM) := by
  unfold E2 f_M_errorOf
  simp only [ib_nI ht (show 401 < 2147483648 by decide), nI_clamp (show t < 2 ^ 31 by omega), h, if_true, if_neg (show ¬ (11 : Int32) = 0 by decide), if_neg (show ¬ (11 : Int32) = 1 by decide), if_neg (show ¬ (11 : Int32) = 2 by decide), if_neg (show ¬ (11 : Int32) = 3 by decide), if_neg (show ¬ (11 : Int32) = 4 by decide), if_neg (show ¬ (11 : Int32) = 5 by decide), if_neg (show ¬ (11 : Int32) = 6 by decide), if_neg (show ¬ (11 : Int32) = 7 by decide), if_neg (show ¬ (11 : Int32) = 8 by decide), if_neg (show ¬ (11 : Int32) = 9 by decide), if_neg (show ¬ (11 : Int32) = 10 by decide), aE hN ht hne hw, oB_s]
theorem e_12 (hN : 100 < N) (ht : t < 401) (h : mm t = 12) (hne : nt ≤ 10) (hw : ∀ k, k < nt → teller k = tW k) : E2 N mk mm mv (who, ev, nI nt, cl, od, event, teller, kd, bY, oF, oT, lA, wM) t =
    some ((if nfind 10 tW (nI nt) (mv t) = -1 then 3 else 0), upd who t (nfind 10 tW (nI nt) (mv t)), ev, nI nt, cl, od, event, teller, kd, bY, oF, oT, lA, wM) := by
  unfold E2 f_M_errorOf
  simp only [ib_nI ht (show 401 < 2147483648 by decide), nI_clamp (show t < 2 ^ 31 by omega), h, if_true, if_neg (show ¬ (12 : Int32) = 0 by decide), if_neg (show ¬ (12 : Int32) = 1 by decide), if_neg (show ¬ (12 : Int32) = 2 by decide), if_neg (show ¬ (12 : Int32) = 3 by decide), if_neg (show ¬ (12 : Int32) = 4 by decide), if_neg (show ¬ (12 : Int32) = 5 by decide), if_neg (show ¬ (12 : Int32) = 6 by decide), if_neg (show ¬ (12 : Int32) = 7 by decide), if_neg (show ¬ (12 : Int32) = 8 by decide), if_neg (show ¬ (12 : Int32) = 9 by decide), if_neg (show ¬ (12 : Int32) = 10 by decide), if_neg (show ¬ (12 : Int32) = 11 by decide), aT hN ht hne hw, oB_s]
theorem e_4 (hN : 100 < N) (ht : t < 401) (h : mm t = 4) (hm : m < 40) (hne : nt ≤ 10) (hw : ∀ k, k < nt → teller k = tW k) : E2 N mk mm mv (who, ev, nI nt, nI (m + 1), od, event, teller, kd, bY, oF, oT, lA, wM) t =
    some ((if nfind 10 tW (nI nt) (mv t) = -1 then 3 else 0), upd who t (nfind 10 tW (nI nt) (mv t)), ev, nI nt, nI (m + 1), od, event, teller, kd, upd bY m (nfind 10 tW (nI nt) (mv t)), oF, oT, lA, wM) := by
  unfold E2 f_M_errorOf f_M_ofClaim
  simp only [ib_nI ht (show 401 < 2147483648 by decide), nI_clamp (show t < 2 ^ 31 by omega), h, if_true, if_neg (show ¬ (4 : Int32) = 0 by decide), if_neg (show ¬ (4 : Int32) = 1 by decide), if_neg (show ¬ (4 : Int32) = 2 by decide), if_neg (show ¬ (4 : Int32) = 3 by decide), aT hN ht hne hw, oB_s, nI_pred, ib_nI (show m < 40 by omega) (show 40 < 2147483648 by decide), nI_clamp (show m < 2 ^ 31 by omega), upd_at]
theorem e_5 (hN : 100 < N) (ht : t + 1 < 401) (h : mm t = 5) (hm : m < 40) (hne : ne ≤ 8) (hw : ∀ k, k < ne → event k = eW k) : E2 N mk mm mv (who, nI ne, te, nI (m + 1), od, event, teller, kd, bY, oF, oT, lA, wM) t =
    some ((if nfind 8 eW (nI ne) (mv t) = -1 then 3 else 0), upd who t (nfind 8 eW (nI ne) (mv t)), nI ne, te, nI (m + 1), od, event, teller, upd kd m (if mk (t + 1) = 3 then 0 else if mk (t + 1) = 5 then 1 else 2), bY, upd oF m (nfind 8 eW (nI ne) (mv t)), oT, lA, wM) := by
  unfold E2 f_M_errorOf f_M_ofClaim
  simp only [ib_nI (show t < 401 by omega) (show 401 < 2147483648 by decide), nI_clamp (show t < 2 ^ 31 by omega), h, if_true, if_neg (show ¬ (5 : Int32) = 0 by decide), if_neg (show ¬ (5 : Int32) = 1 by decide), if_neg (show ¬ (5 : Int32) = 2 by decide), if_neg (show ¬ (5 : Int32) = 3 by decide), if_neg (show ¬ (5 : Int32) = 4 by decide), aE hN (show t < 401 by omega) hne hw, oB_s, nI_pred, ib_nI (show m < 40 by omega) (show 40 < 2147483648 by decide), nI_clamp (show m < 2 ^ 31 by omega), upd_at, ← nI_succ, ib_nI ht (show 401 < 2147483648 by decide), nI_clamp (show t + 1 < 2 ^ 31 by omega)]
  by_cases h1 : mk (t + 1) = 3
  · simp only [if_pos h1, oB_s]
  · by_cases h2 : mk (t + 1) = 5
    · simp only [if_neg h1, if_pos h2, oB_s]
    · simp only [if_neg h1, if_neg h2, oB_s]
theorem e_6 (hN : 100 < N) (ht : t < 401) (h : mm t = 6) (hm : m < 40) (hne : ne ≤ 8) (hw : ∀ k, k < ne → event k = eW k) : E2 N mk mm mv (who, nI ne, te, nI (m + 1), od, event, teller, kd, bY, oF, oT, lA, wM) t =
    some ((if nfind 8 eW (nI ne) (mv t) = -1 then 3 else if nfind 8 eW (nI ne) (mv t) = oF m then 5 else 0), upd who t (nfind 8 eW (nI ne) (mv t)), nI ne, te, nI (m + 1), od, event, teller, kd, bY, oF, upd oT m (nfind 8 eW (nI ne) (mv t)), lA, wM) := by
  unfold E2 f_M_errorOf f_M_ofClaim
  simp only [ib_nI ht (show 401 < 2147483648 by decide), nI_clamp (show t < 2 ^ 31 by omega), h, if_true, if_neg (show ¬ (6 : Int32) = 0 by decide), if_neg (show ¬ (6 : Int32) = 1 by decide), if_neg (show ¬ (6 : Int32) = 2 by decide), if_neg (show ¬ (6 : Int32) = 3 by decide), if_neg (show ¬ (6 : Int32) = 4 by decide), if_neg (show ¬ (6 : Int32) = 5 by decide), aE hN ht hne hw, oB_s, nI_pred, ib_nI (show m < 40 by omega) (show 40 < 2147483648 by decide), nI_clamp (show m < 2 ^ 31 by omega), upd_at]
  by_cases h1 : nfind 8 eW (nI ne) (mv t) = -1
  · simp only [if_pos h1, if_neg (show ¬ (3 : Int32) = 0 by decide), oB_s]
  · simp only [if_neg h1, if_true]
    by_cases h2 : nfind 8 eW (nI ne) (mv t) = oF m
    · simp only [if_pos h2, oB_s]
    · simp only [if_neg h2, oB_s]
theorem e_7 (ht : t < 401) (h : mm t = 7) (hm : m < 40) : E2 N mk mm mv (who, ev, te, nI (m + 1), od, event, teller, kd, bY, oF, oT, lA, wM) t =
    some ((if 99 < (mv t).toInt32 then 5 else 0), who, ev, te, nI (m + 1), od, event, teller, kd, bY, oF, upd oT m (mv t).toInt32, upd lA m (mv t).toInt32, wM) := by
  unfold E2 f_M_errorOf f_M_ofClaim
  simp only [ib_nI ht (show 401 < 2147483648 by decide), nI_clamp (show t < 2 ^ 31 by omega), h, if_true, if_neg (show ¬ (7 : Int32) = 0 by decide), if_neg (show ¬ (7 : Int32) = 1 by decide), if_neg (show ¬ (7 : Int32) = 2 by decide), if_neg (show ¬ (7 : Int32) = 3 by decide), if_neg (show ¬ (7 : Int32) = 4 by decide), if_neg (show ¬ (7 : Int32) = 5 by decide), if_neg (show ¬ (7 : Int32) = 6 by decide), if_neg (show ¬ (7 : Int32) = 8 by decide), oB_s, nI_pred, ib_nI (show m < 40 by omega) (show 40 < 2147483648 by decide), nI_clamp (show m < 2 ^ 31 by omega)]
  by_cases h1 : 99 < (mv t).toInt32
  · simp only [if_pos h1, oB_s]
  · simp only [if_neg h1, oB_s]
theorem e_8 (ht : t < 401) (h : mm t = 8) (hm : m < 40) : E2 N mk mm mv (who, ev, te, nI (m + 1), od, event, teller, kd, bY, oF, oT, lA, wM) t =
    some ((if 99 < (mv t).toInt32 then 5 else if oT m ≤ (mv t).toInt32 then 0 else 5), who, ev, te, nI (m + 1), od, event, teller, kd, bY, oF, oT, upd lA m (mv t).toInt32, wM) := by
  unfold E2 f_M_errorOf f_M_ofClaim
  simp only [ib_nI ht (show 401 < 2147483648 by decide), nI_clamp (show t < 2 ^ 31 by omega), h, if_true, if_neg (show ¬ (8 : Int32) = 0 by decide), if_neg (show ¬ (8 : Int32) = 1 by decide), if_neg (show ¬ (8 : Int32) = 2 by decide), if_neg (show ¬ (8 : Int32) = 3 by decide), if_neg (show ¬ (8 : Int32) = 4 by decide), if_neg (show ¬ (8 : Int32) = 5 by decide), if_neg (show ¬ (8 : Int32) = 6 by decide), if_neg (show ¬ (8 : Int32) = 7 by decide), oB_s, nI_pred, ib_nI (show m < 40 by omega) (show 40 < 2147483648 by decide), nI_clamp (show m < 2 ^ 31 by omega)]
  by_cases h1 : 99 < (mv t).toInt32
  · simp only [if_pos h1, oB_s]
  · by_cases h2 : oT m ≤ (mv t).toInt32
    · simp only [if_neg h1, if_pos h2, oB_s]
    · simp only [if_neg h1, if_neg h2, oB_s]
end ES
end CH
