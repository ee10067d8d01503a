/-! the lines' tokens -/
def evL (n : Nat) : List Tok := [(0, 0, 1), (1, n, 0), (4, 59, 0)]
def teL (n : Nat) : List Tok := [(0, 1, 1), (2, n, 0), (4, 59, 0)]
def cR (f : Nat → Int32) : List Tok := if f 0 = 0 then (0, 3, 1) :: (if f 3 < f 4 then [(3, nN (f 3), 1), (0, 4, 1), (3, nN (f 4), 0)] else [(3, nN (f 3), 0)]) else [(0, if f 0 = 1 then 5 else 6, 1), (1, nN (f 3), 0)]
def clL (f : Nat → Int32) : List Tok := (0, 2, 1) :: (2, nN (f 1), 1) :: (1, nN (f 2), 1) :: (cR f ++ [(4, 59, 2)])
def whK (n : Nat) : Option (TT 4) → List Tok
  | none => [(2, n, 0)]
  | some T => (2, n, 1) :: (0, 9, 1) :: tkT 4 T
def orL (o : OT) : List Tok := (0, if o.1 = true then 7 else 8, 1) :: (whK o.2.1 o.2.2 ++ [(4, 59, 0)])
def LnF (ts : List Tok) (L : List Int32) (m : Nat) : Prop := fl ts = L ∧ (∀ z, gz ts z = true) ∧ ts.length ≤ m
theorem LnF.app {t1 t2 : List Tok} {L1 L2 : List Int32} {m1 m2 : Nat} (h1 : LnF t1 L1 m1) (h2 : LnF t2 L2 m2) : LnF (t1 ++ t2) (L1 ++ L2) (m1 + m2) := by
  refine ⟨by rw [fl_app, h1.1, h2.1], fun z => gz_a (h1.2.1 _) (h2.2.1 z), ?_⟩
  rw [List.length_append]
  exact Nat.add_le_add h1.2.2 h2.2.2
theorem evL_f {n : Nat} (h : n < 10) : LnF (evL n) ((kT 13 ++ dgL n) ++ kT 14) 3 := by
  refine ⟨?_, fun z => gz_c rfl rfl (gz_c (decide_eq_true h) rfl (gz_c rfl rfl rfl)), Nat.le_refl 3⟩
  rw [dgL_1 h]
  rfl
theorem teL_f {n : Nat} (h : n < 10) : LnF (teL n) ((kT 15 ++ dgL n) ++ kT 14) 3 := by
  refine ⟨?_, fun z => gz_c rfl rfl (gz_c (decide_eq_true h) rfl (gz_c rfl rfl rfl)), Nat.le_refl 3⟩
  rw [dgL_1 h]
  rfl
theorem e_18 : kT 18 = 32 :: tkb (0, 3, 1) := by decide +kernel
theorem e_19 : kT 19 = 32 :: tkb (0, 4, 1) := by decide +kernel
theorem e_26 : kT 26 = 32 :: tkb (0, 9, 1) := by decide +kernel
theorem e_nu1 (v : Nat) : tkb (3, v, 1) = dgL v ++ [32] := rfl
theorem e_nu0 (v : Nat) : tkb (3, v, 0) = dgL v := List.append_nil _
theorem cR_f {ne nt : Nat} {f : Nat → Int32} (h : CV1 ne nt f) (hne : ne ≤ 10) : clR f = 32 :: fl (cR f) ∧ (∀ z, isW z = false → gz (cR f) z = true) ∧ (cR f).length ≤ 4 := by
  obtain ⟨hk, -, -, h3, h4⟩ := h
  unfold clR cR
  by_cases h0 : f 0 = 0
  · rw [if_pos h0, if_pos h0]
    obtain ⟨x, y, xy, y1, e1, e2⟩ := h4 h0
    have n1 : nN (f 3) = x := by rw [e1, nN_nI (by omega)]
    have n2 : nN (f 4) = y := by rw [e2, nN_nI (by omega)]
    rw [n1, n2]
    by_cases h5 : f 3 < f 4
    · rw [if_pos h5, if_pos h5]
      refine ⟨?_, fun z hz => gz_c rfl rfl (gz_c (decide_eq_true (show x < 1000000 by omega)) rfl (gz_c rfl rfl (gz_c (decide_eq_true (show y < 1000000 by omega)) (okN_W hz rfl) rfl))), Nat.le_refl 4⟩
      rw [fl_c, fl_c, fl_c, fl_c, fl_n, e_18, e_19, e_nu1, e_nu0]
      simp only [List.append_assoc, List.cons_append, List.nil_append, List.append_nil]
    · rw [if_neg h5, if_neg h5]
      refine ⟨?_, fun z hz => gz_c rfl rfl (gz_c (decide_eq_true (show x < 1000000 by omega)) (okN_W hz rfl) rfl), (by decide : 2 ≤ 4)⟩
      rw [fl_c, fl_c, fl_n, e_18, q_20, e_nu0]
      simp only [fl_n, List.append_assoc, List.cons_append, List.nil_append, List.append_nil]
  · rw [if_neg h0, if_neg h0]
    obtain ⟨x, x1, e1⟩ := h3 h0
    have n1 : nN (f 3) = x := by rw [e1, nN_nI (by omega)]
    have x10 : x < 10 := by omega
    rw [n1, dgL_1 x10]
    by_cases h5 : f 0 = 1
    · rw [if_pos h5, if_pos h5]
      exact ⟨rfl, fun z hz => gz_c rfl rfl (gz_c (decide_eq_true x10) (okN_W hz rfl) rfl), (by decide : 2 ≤ 4)⟩
    · rw [if_neg h5, if_neg h5]
      exact ⟨rfl, fun z hz => gz_c rfl rfl (gz_c (decide_eq_true x10) (okN_W hz rfl) rfl), (by decide : 2 ≤ 4)⟩
theorem clL_f {ne nt : Nat} {f : Nat → Int32} (h : CV1 ne nt f) (hne : ne ≤ 10) (hnt : nt ≤ 10) : LnF (clL f) (clT f ++ kT 23) 8 := by
  obtain ⟨r1, r2, r3⟩ := cR_f h hne
  obtain ⟨hk, ⟨t, t1, e1⟩, ⟨e, e2, e3⟩, -, -⟩ := h
  have n1 : nN (f 1) = t := by rw [e1, nN_nI (by omega)]
  have n2 : nN (f 2) = e := by rw [e3, nN_nI (by omega)]
  have t10 : t < 10 := by omega
  have e10 : e < 10 := by omega
  unfold clL clT
  rw [n1, n2, r1, dgL_1 t10, dgL_1 e10]
  refine ⟨?_, fun z => gz_c rfl rfl (gz_c (decide_eq_true t10) rfl (gz_c (decide_eq_true e10) rfl (gz_a (r2 _ rfl) (gz_c rfl rfl rfl)))), ?_⟩
  · rw [fl_c, fl_c, fl_c, fl_app]
    simp only [List.append_assoc]
    rfl
  · simp only [List.length_append, List.length_cons, List.length_nil]
    omega
theorem orL_f {ne nt : Nat} {o : OT} (hne : ne ≤ 10) (hnt : nt ≤ 10) (hw : o.2.1 < nt) (hT : ∀ T, o.2.2 = some T → TB ne nt 4 T ∧ tkn 4 T ≤ 43) : LnF (orL o) (((daT o.1 ++ dgL o.2.1) ++ whT o.2.2) ++ kT 14) 47 := by
  obtain ⟨b, w, ot⟩ := o
  have w10 : w < 10 := by have : w < nt := hw; omega
  have hb : okT (0, if b = true then 7 else 8, 1) = true ∧ daT b = tkb (0, if b = true then 7 else 8, 1) ++ [116] := by cases b <;> exact ⟨rfl, rfl⟩
  have hd : okN (0, if b = true then 7 else 8, 1) (2, w, 0) = true ∧ okN (0, if b = true then 7 else 8, 1) (2, w, 1) = true := ⟨rfl, rfl⟩
  unfold orL
  show LnF ((0, if b = true then 7 else 8, 1) :: (whK w ot ++ [(4, 59, 0)])) (((daT b ++ dgL w) ++ whT ot) ++ kT 14) 47
  rw [dgL_1 w10, hb.2]
  cases ot with
  | none =>
    refine ⟨?_, fun z => gz_c hb.1 rfl (gz_a (gz_c (decide_eq_true w10) rfl rfl) (gz_c rfl rfl rfl)), (by decide : 3 ≤ 47)⟩
    rw [fl_c, fl_app]
    show tkb (0, if b = true then 7 else 8, 1) ++ _ = (((tkb (0, if b = true then 7 else 8, 1) ++ [116]) ++ [nI (48 + w)]) ++ kT 20) ++ kT 14
    simp only [List.append_assoc]
    rfl
  | some T =>
    obtain ⟨f1, f2, f3, f4⟩ := tkF hne hnt 4 T (Or.inr (hT T rfl).1)
    have h43 := (hT T rfl).2
    refine ⟨?_, fun z => gz_c hb.1 rfl (gz_a (gz_c (decide_eq_true w10) rfl (gz_c rfl rfl (f3 _ rfl))) (gz_c rfl rfl rfl)), ?_⟩
    · rw [fl_c, fl_app]
      show tkb (0, if b = true then 7 else 8, 1) ++ ((tkb (2, w, 1) ++ (tkb (0, 9, 1) ++ fl (tkT 4 T))) ++ fl [(4, 59, 0)]) = (((tkb (0, if b = true then 7 else 8, 1) ++ [116]) ++ [nI (48 + w)]) ++ (([] ++ kT 26) ++ txt 4 T)) ++ kT 14
      rw [f1, e_26, ← q_14, show tkb (2, w, 1) = [116] ++ ([nI (48 + w)] ++ [32]) from rfl]
      simp only [List.append_assoc, List.cons_append, List.nil_append]
    · show (whK w (some T) ++ [(4, 59, 0)]).length + 1 ≤ 47
      rw [List.length_append]
      show (tkT 4 T).length + 1 + 1 + 1 + 1 ≤ 47
      omega
def evK : Nat → List Tok
  | 0 => []
  | n + 1 => evK n ++ evL n
def teK : Nat → List Tok
  | 0 => []
  | n + 1 => teK n ++ teL n
def clK (cl : List (Nat → Int32)) : Nat → List Tok
  | 0 => []
  | n + 1 => clK cl n ++ clL (rw5 cl n)
def orK (os : List OT) : Nat → List Tok
  | 0 => []
  | n + 1 => orK os n ++ orL (oG os n)
def allK (ne nt : Nat) (cl : List (Nat → Int32)) (os : List OT) : List Tok := ((evK ne ++ teK nt) ++ clK cl cl.length) ++ orK os os.length
theorem LnF.nil : LnF [] [] 0 := ⟨rfl, fun _ => rfl, Nat.le_refl 0⟩
theorem LnF.of {ts : List Tok} {L L2 : List Int32} {m : Nat} (h : LnF ts L m) (e : L2 = L) : LnF ts L2 m := by rw [e]; exact h
theorem all_f {ne nt : Nat} {cl : List (Nat → Int32)} {os : List OT} (hne : ne ≤ 6) (hnt : nt ≤ 6) (hV : ∀ k, k < cl.length → CV1 ne nt (rw5 cl k)) (h16 : cl.length ≤ 16) (h4 : os.length ≤ 4) (hO : ∀ k, k < os.length → (oG os k).2.1 < nt ∧ ∀ T, (oG os k).2.2 = some T → TB ne nt 4 T ∧ tkn 4 T ≤ 43) : LnF (allK ne nt cl os) (allT ne nt cl os) 352 := by
  have a1 : ∀ n, n ≤ 6 → ∀ B tb m, LnF tb B m → LnF (tb ++ evK n) (evT B n) (m + 3 * n) := by
    intro n
    induction n with
    | zero => intro _ B tb m h; rw [show tb ++ evK 0 = tb from List.append_nil _]; exact h
    | succ n ih =>
      intro hn B tb m h
      have h1 := (ih (by omega) B tb m h).app (evL_f (n := n) (by omega))
      rw [show tb ++ evK (n + 1) = (tb ++ evK n) ++ evL n from (List.append_assoc _ _ _).symm]
      exact h1.of (by show ((evT B n ++ kT 13) ++ dgL n) ++ kT 14 = _; simp only [List.append_assoc])
  have a2 : ∀ n, n ≤ 6 → ∀ B tb m, LnF tb B m → LnF (tb ++ teK n) (teT B n) (m + 3 * n) := by
    intro n
    induction n with
    | zero => intro _ B tb m h; rw [show tb ++ teK 0 = tb from List.append_nil _]; exact h
    | succ n ih =>
      intro hn B tb m h
      have h1 := (ih (by omega) B tb m h).app (teL_f (n := n) (by omega))
      rw [show tb ++ teK (n + 1) = (tb ++ teK n) ++ teL n from (List.append_assoc _ _ _).symm]
      exact h1.of (by show ((teT B n ++ kT 15) ++ dgL n) ++ kT 14 = _; simp only [List.append_assoc])
  have a3 : ∀ n, n ≤ cl.length → ∀ B tb m, LnF tb B m → LnF (tb ++ clK cl n) (clsT B cl n) (m + 8 * n) := by
    intro n
    induction n with
    | zero => intro _ B tb m h; rw [show tb ++ clK cl 0 = tb from List.append_nil _]; exact h
    | succ n ih =>
      intro hn B tb m h
      have h1 := (ih (by omega) B tb m h).app (clL_f (hV n (by omega)) (by omega) (by omega))
      rw [show tb ++ clK cl (n + 1) = (tb ++ clK cl n) ++ clL (rw5 cl n) from (List.append_assoc _ _ _).symm]
      exact h1.of (by show (clsT B cl n ++ clT (rw5 cl n)) ++ kT 23 = _; simp only [List.append_assoc])
  have a4 : ∀ n, n ≤ os.length → ∀ B tb m, LnF tb B m → LnF (tb ++ orK os n) (orT B os n) (m + 47 * n) := by
    intro n
    induction n with
    | zero => intro _ B tb m h; rw [show tb ++ orK os 0 = tb from List.append_nil _]; exact h
    | succ n ih =>
      intro hn B tb m h
      have h1 := (ih (by omega) B tb m h).app (orL_f (ne := ne) (by omega) (by omega) (hO n (by omega)).1 (hO n (by omega)).2)
      rw [show tb ++ orK os (n + 1) = (tb ++ orK os n) ++ orL (oG os n) from (List.append_assoc _ _ _).symm]
      exact h1.of (by show (((orT B os n ++ daT (oG os n).1) ++ dgL (oG os n).2.1) ++ whT (oG os n).2.2) ++ kT 14 = _; simp only [List.append_assoc])
  have h := a4 os.length (Nat.le_refl _) _ _ _ (a3 cl.length (Nat.le_refl _) _ _ _ (a2 nt hnt _ _ _ (a1 ne hne _ _ _ LnF.nil)))
  exact ⟨h.1, h.2.1, Nat.le_trans h.2.2 (by omega)⟩
