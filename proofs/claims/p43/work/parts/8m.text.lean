/-! the told text's tokens -/
def tkP (op : Tok) (ta tb : List Tok) : List Tok := (4, 40, 0) :: (ta ++ ((4, 41, 0) :: op :: (4, 40, 0) :: (tb ++ [(4, 41, 0)])))
def tkM (op : Tok) (ta tb : List Tok) : List Tok := op :: (4, 40, 0) :: (ta ++ ((4, 44, 0) :: (tb ++ [(4, 41, 0)])))
def tkC (op : Tok) (ta tb : List Tok) : List Tok := ta ++ (op :: tb)
def tkB (op : Tok) (ta tb : List Tok) : List Tok := (4, 91, 0) :: (ta ++ ((4, 93, 0) :: op :: (4, 91, 0) :: (tb ++ [(4, 93, 0)])))
def tk6 (ta : List Tok) : List Tok := (4, 45, 1) :: (4, 40, 0) :: (ta ++ [(4, 41, 0)])
def tkN (ta : List Tok) : List Tok := (0, 20, 0) :: (4, 91, 0) :: (ta ++ [(4, 93, 0)])
/-- a tree's tokens -/
def tkT : ∀ k, TT k → List Tok
  | 0, T => nomatch T
  | k + 1, T =>
    let ta : List Tok := match T.2.1 with | none => [] | some x => tkT k x
    let tb : List Tok := match T.2.2 with | none => [] | some x => tkT k x
    match T.1.2.1 with
    | 0 => [(3, T.1.2.2.1, 0)]
    | 1 => [(0, 10, 1)]
    | 2 => [(0, 11, 1)]
    | 3 => [(0, 12, 1)]
    | 4 => [(0, 14, 1), (0, 16, 1), (2, T.1.2.2.1, 1)]
    | 5 => [(0, 15, 1), (0, 16, 1), (1, T.1.2.2.1, 1)]
    | 6 => tk6 ta
    | 7 => tkP (4, 43, 0) ta tb
    | 8 => tkP (4, 45, 0) ta tb
    | 9 => tkP (4, 42, 0) ta tb
    | 10 => tkP (4, 47, 0) ta tb
    | 11 => tkM (0, 23, 0) ta tb
    | 12 => tkM (0, 24, 0) ta tb
    | 20 => tkC (4, 60, 0) ta tb
    | 21 => tkC (4, 62, 0) ta tb
    | 22 => tkC (4, 61, 0) ta tb
    | 23 => tkC (5, 0, 0) ta tb
    | 24 => tkC (6, 0, 0) ta tb
    | 25 => [(0, 17, 1), (2, T.1.2.2.1, 1), (2, T.1.2.2.2, 1)]
    | 26 => [(0, 18, 1), (2, T.1.2.2.1, 1)]
    | 27 => [(0, 13, 1), (2, T.1.2.2.1, 1)]
    | 28 => [(0, 19, 1), (1, T.1.2.2.1, 1)]
    | 29 => tkN ta
    | 30 => tkB (0, 21, 0) ta tb
    | _ => tkB (0, 22, 0) ta tb
theorem q_14 : kT 14 = fl [(4, 59, 0)] := by decide +kernel
theorem q_20 : kT 20 = fl [] := by decide +kernel
theorem q_27 : kT 27 = fl [(0, 10, 1)] := by decide +kernel
theorem q_28 : kT 28 = fl [(0, 11, 1)] := by decide +kernel
theorem q_29 : kT 29 = fl [(0, 12, 1)] := by decide +kernel
theorem q_32 : kT 32 = fl [(4, 43, 0)] := by decide +kernel
theorem q_33 : kT 33 = fl [(4, 45, 0)] := by decide +kernel
theorem q_34 : kT 34 = fl [(4, 42, 0)] := by decide +kernel
theorem q_35 : kT 35 = fl [(4, 47, 0)] := by decide +kernel
theorem q_36 : kT 36 = fl [(0, 23, 0), (4, 40, 0)] := by decide +kernel
theorem q_37 : kT 37 = fl [(0, 24, 0), (4, 40, 0)] := by decide +kernel
theorem q_38 : kT 38 = fl [(4, 60, 0)] := by decide +kernel
theorem q_39 : kT 39 = fl [(4, 62, 0)] := by decide +kernel
theorem q_40 : kT 40 = fl [(4, 61, 0)] := by decide +kernel
theorem q_41 : kT 41 = fl [(5, 0, 0)] := by decide +kernel
theorem q_42 : kT 42 = fl [(6, 0, 0)] := by decide +kernel
theorem q_48 : kT 48 = fl [(4, 45, 1), (4, 40, 0)] := by decide +kernel
theorem q_49 : kT 49 = fl [(4, 41, 0)] := by decide +kernel
theorem q_50 : kT 50 = fl [(4, 40, 0)] := by decide +kernel
theorem q_51 : kT 51 = fl [(4, 44, 0)] := by decide +kernel
theorem q_53 : kT 53 = fl [(0, 20, 0), (4, 91, 0)] := by decide +kernel
theorem q_54 : kT 54 = fl [(4, 93, 0)] := by decide +kernel
theorem q_55 : kT 55 = fl [(4, 91, 0)] := by decide +kernel
theorem q_56 : kT 56 = fl [(0, 21, 0)] := by decide +kernel
theorem q_57 : kT 57 = fl [(0, 22, 0)] := by decide +kernel
theorem fl_c (a : Tok) (r : List Tok) : fl (a :: r) = tkb a ++ fl r := rfl
theorem fl_n : fl [] = [] := rfl
theorem fl_P {op : Tok} {ta tb : List Tok} : fl (tkP op ta tb) = (((((((([] : List Int32) ++ kT 50) ++ fl ta) ++ kT 49) ++ fl [op]) ++ kT 50) ++ fl tb) ++ kT 49) := by
  simp only [tkP, fl_app, fl_c, fl_n, q_50, q_49, List.append_assoc, List.nil_append, List.append_nil]
theorem fl_B {op : Tok} {ta tb : List Tok} : fl (tkB op ta tb) = (((((((([] : List Int32) ++ kT 55) ++ fl ta) ++ kT 54) ++ fl [op]) ++ kT 55) ++ fl tb) ++ kT 54) := by
  simp only [tkB, fl_app, fl_c, fl_n, q_55, q_54, List.append_assoc, List.nil_append, List.append_nil]
theorem fl_M {op : Tok} {ta tb : List Tok} : fl (tkM op ta tb) = (((((([] : List Int32) ++ fl [op, (4, 40, 0)]) ++ fl ta) ++ kT 51) ++ fl tb) ++ kT 49) := by
  simp only [tkM, fl_app, fl_c, fl_n, q_51, q_49, List.append_assoc, List.nil_append, List.append_nil]
theorem fl_C {op : Tok} {ta tb : List Tok} : fl (tkC op ta tb) = (((([] : List Int32) ++ fl ta) ++ fl [op]) ++ fl tb) := by
  simp only [tkC, fl_app, fl_c, fl_n, List.append_assoc, List.nil_append, List.append_nil]
theorem fl_6 {ta : List Tok} : fl (tk6 ta) = (((([] : List Int32) ++ kT 48) ++ fl ta) ++ kT 49) := by
  simp only [tk6, fl_app, fl_c, fl_n, q_48, q_49, List.append_assoc, List.nil_append, List.append_nil]
theorem fl_N {ta : List Tok} : fl (tkN ta) = (((([] : List Int32) ++ kT 53) ++ fl ta) ++ kT 54) := by
  simp only [tkN, fl_app, fl_c, fl_n, q_53, q_54, List.append_assoc, List.nil_append, List.append_nil]
theorem fl_nu (v : Nat) : fl [(3, v, 0)] = dgL v := by
  show (dgL v ++ []) ++ [] = dgL v
  rw [List.append_nil, List.append_nil]
theorem fl_4 {n : Nat} (h : n < 10) : fl [(0, 14, 1), (0, 16, 1), (2, n, 1)] = (((([] : List Int32) ++ kT 30) ++ dgL n) ++ kT 47) := by
  rw [dgL_1 h]
  rfl
theorem fl_5 {n : Nat} (h : n < 10) : fl [(0, 15, 1), (0, 16, 1), (1, n, 1)] = (((([] : List Int32) ++ kT 31) ++ dgL n) ++ kT 47) := by
  rw [dgL_1 h]
  rfl
theorem fl_25 {n m : Nat} (h : n < 10) (h2 : m < 10) : fl [(0, 17, 1), (2, n, 1), (2, m, 1)] = (((((([] : List Int32) ++ kT 43) ++ dgL n) ++ kT 52) ++ dgL m) ++ kT 47) := by
  rw [dgL_1 h, dgL_1 h2]
  rfl
theorem fl_26 {n : Nat} (h : n < 10) : fl [(0, 18, 1), (2, n, 1)] = (((([] : List Int32) ++ kT 44) ++ dgL n) ++ kT 47) := by
  rw [dgL_1 h]
  rfl
theorem fl_27 {n : Nat} (h : n < 10) : fl [(0, 13, 1), (2, n, 1)] = (((([] : List Int32) ++ kT 45) ++ dgL n) ++ kT 47) := by
  rw [dgL_1 h]
  rfl
theorem fl_28 {n : Nat} (h : n < 10) : fl [(0, 19, 1), (1, n, 1)] = (((([] : List Int32) ++ kT 46) ++ dgL n) ++ kT 47) := by
  rw [dgL_1 h]
  rfl
theorem gz_c {a z : Tok} {r : List Tok} (h1 : okT a = true) (h2 : okN a (r.headD z) = true) (h3 : gz r z = true) : gz (a :: r) z = true := by
  show (okT a && okN a (r.headD z) && gz r z) = true
  rw [h1, h2, h3]
  rfl
theorem gz_a {z : Tok} {x y : List Tok} (h1 : gz x (y.headD z) = true) (h2 : gz y z = true) : gz (x ++ y) z = true := by
  rw [gz_app, h1, h2]
  rfl
theorem okN_E {op h : Tok} (hw : isW op = false) (he : isE h = false) : okN op h = true := by
  unfold okN
  rw [hw, he]
  simp
theorem okN_W {a z : Tok} (hz : isW z = false) (hl : isL a = false) : okN a z = true := by
  unfold okN
  rw [hz, hl]
  simp
/-- what is said of a tree's tokens -/
def TkF (ts : List Tok) (L : List Int32) (n : Nat) : Prop := fl ts = L ∧ (∃ a r, ts = a :: r ∧ isE a = false) ∧ (∀ z, isW z = false → gz ts z = true) ∧ ts.length ≤ n
section TF
variable {op : Tok} {j na nb m : Nat} {ta tb : List Tok} {La Lb : List Int32}
theorem TkF.P (e : kT j = fl [op]) (o1 : okT op = true) (o2 : okN op (4, 40, 0) = true) (ha : TkF ta La na) (hb : TkF tb Lb nb) (hm : na + nb + 5 ≤ m) : TkF (tkP op ta tb) (((((((([] ++ kT 50) ++ La) ++ kT 49) ++ kT j) ++ kT 50) ++ Lb) ++ kT 49)) m := by
  obtain ⟨a1, a2, a3, a4⟩ := ha
  obtain ⟨b1, b2, b3, b4⟩ := hb
  refine ⟨by rw [fl_P, a1, b1, e], ⟨_, _, rfl, rfl⟩, fun z hz => gz_c rfl rfl (gz_a (a3 _ rfl) (gz_c rfl rfl (gz_c o1 o2 (gz_c rfl rfl (gz_a (b3 _ rfl) (gz_c rfl rfl rfl)))))), ?_⟩
  unfold tkP
  simp only [List.length_append, List.length_cons, List.length_nil]
  omega
theorem TkF.B (e : kT j = fl [op]) (o1 : okT op = true) (o2 : okN op (4, 91, 0) = true) (ha : TkF ta La na) (hb : TkF tb Lb nb) (hm : na + nb + 5 ≤ m) : TkF (tkB op ta tb) (((((((([] ++ kT 55) ++ La) ++ kT 54) ++ kT j) ++ kT 55) ++ Lb) ++ kT 54)) m := by
  obtain ⟨a1, a2, a3, a4⟩ := ha
  obtain ⟨b1, b2, b3, b4⟩ := hb
  refine ⟨by rw [fl_B, a1, b1, e], ⟨_, _, rfl, rfl⟩, fun z hz => gz_c rfl rfl (gz_a (a3 _ rfl) (gz_c rfl rfl (gz_c o1 o2 (gz_c rfl rfl (gz_a (b3 _ rfl) (gz_c rfl rfl rfl)))))), ?_⟩
  unfold tkB
  simp only [List.length_append, List.length_cons, List.length_nil]
  omega
theorem TkF.M (e : kT j = fl [op, (4, 40, 0)]) (o1 : okT op = true) (o2 : okN op (4, 40, 0) = true) (o3 : isE op = false) (ha : TkF ta La na) (hb : TkF tb Lb nb) (hm : na + nb + 5 ≤ m) : TkF (tkM op ta tb) (((((([] ++ kT j) ++ La) ++ kT 51) ++ Lb) ++ kT 49)) m := by
  obtain ⟨a1, a2, a3, a4⟩ := ha
  obtain ⟨b1, b2, b3, b4⟩ := hb
  refine ⟨by rw [fl_M, a1, b1, e], ⟨_, _, rfl, o3⟩, fun z hz => gz_c o1 o2 (gz_c rfl rfl (gz_a (a3 _ rfl) (gz_c rfl rfl (gz_a (b3 _ rfl) (gz_c rfl rfl rfl))))), ?_⟩
  unfold tkM
  simp only [List.length_append, List.length_cons, List.length_nil]
  omega
theorem TkF.C (e : kT j = fl [op]) (o1 : okT op = true) (ow : isW op = false) (ha : TkF ta La na) (hb : TkF tb Lb nb) (hm : na + nb + 1 ≤ m) : TkF (tkC op ta tb) (((([] ++ La) ++ kT j) ++ Lb)) m := by
  obtain ⟨a1, ⟨a, r, rfl, hE⟩, a3, a4⟩ := ha
  obtain ⟨b1, ⟨b, r2, rfl, hE2⟩, b3, b4⟩ := hb
  refine ⟨by rw [fl_C, a1, b1, e], ⟨_, _, rfl, hE⟩, fun z hz => gz_a (a3 _ ow) (gz_c o1 (okN_E ow hE2) (b3 z hz)), ?_⟩
  show ((a :: r) ++ (op :: (b :: r2))).length ≤ m
  have e1 : (op :: (b :: r2)).length = (b :: r2).length + 1 := rfl
  rw [List.length_append]
  omega
theorem TkF.s6 (ha : TkF ta La na) (hm : na + 5 ≤ m) : TkF (tk6 ta) ((([] ++ kT 48) ++ La) ++ kT 49) m := by
  obtain ⟨a1, a2, a3, a4⟩ := ha
  refine ⟨by rw [fl_6, a1], ⟨_, _, rfl, rfl⟩, fun z hz => gz_c rfl rfl (gz_c rfl rfl (gz_a (a3 _ rfl) (gz_c rfl rfl rfl))), ?_⟩
  unfold tk6
  simp only [List.length_append, List.length_cons, List.length_nil]
  omega
theorem TkF.s29 (ha : TkF ta La na) (hm : na + 5 ≤ m) : TkF (tkN ta) ((([] ++ kT 53) ++ La) ++ kT 54) m := by
  obtain ⟨a1, a2, a3, a4⟩ := ha
  refine ⟨by rw [fl_N, a1], ⟨_, _, rfl, rfl⟩, fun z hz => gz_c rfl rfl (gz_c rfl rfl (gz_a (a3 _ rfl) (gz_c rfl rfl rfl))), ?_⟩
  unfold tkN
  simp only [List.length_append, List.length_cons, List.length_nil]
  omega
end TF
theorem tk_p : ∀ k (T : TT k), 3 ≤ tkn k T
  | 0, T => nomatch T
  | k + 1, ((a, kd, n, o), ta, tb) => by
    cases ta with
    | none => exact Nat.le_refl 3
    | some x =>
      have := tk_p k x
      by_cases h : 20 ≤ kd ∧ kd < 25
      · have e : tkn (k + 1) ((a, kd, n, o), some x, tb) = tkn k x + (match tb with | none => 0 | some y => tkn k y) + 1 := if_pos h
        rw [e]
        omega
      · have e : tkn (k + 1) ((a, kd, n, o), some x, tb) = tkn k x + (match tb with | none => 0 | some y => tkn k y) + 5 := if_neg h
        rw [e]
        omega
theorem tkn_3 {k a kd n o : Nat} {ta tb : Option (TT k)} : 3 ≤ tkn (k + 1) ((a, kd, n, o), ta, tb) := tk_p (k + 1) _
theorem tkn_o {k a kd n o : Nat} {x : TT k} {tb : Option (TT k)} (h : ¬ (20 ≤ kd ∧ kd < 25)) : tkn k x + 5 ≤ tkn (k + 1) ((a, kd, n, o), some x, tb) := by
  have e : tkn (k + 1) ((a, kd, n, o), some x, tb) = tkn k x + (match tb with | none => 0 | some y => tkn k y) + 5 := if_neg h
  rw [e]
  omega
theorem lf {ts : List Tok} {L : List Int32} {n : Nat} (h1 : fl ts = L) (h2 : ∃ a r, ts = a :: r ∧ isE a = false) (h3 : ∀ z, isW z = false → gz ts z = true) (h4 : ts.length ≤ 3) (h5 : 3 ≤ n) : TkF ts L n := ⟨h1, h2, h3, Nat.le_trans h4 h5⟩
theorem tkF {ne nt : Nat} (hne : ne ≤ 10) (hnt : nt ≤ 10) : ∀ k T, (TE ne nt k T ∨ TB ne nt k T) → TkF (tkT k T) (txt k T) (tkn k T)
  | 0, T, _ => nomatch T
  | k + 1, ((a, kd, n, o), ta, tb), hT => by
    rcases tr_kids hT with ⟨rfl, h1⟩ | rfl | rfl | rfl | ⟨rfl, h1⟩ | ⟨rfl, h1⟩ | ⟨h0, x, rfl, hx⟩ | ⟨h0, x, y, rfl, rfl, hx, hy⟩ | ⟨rfl, h1, h2⟩ | ⟨rfl, h1⟩ | ⟨rfl, h1⟩ | ⟨rfl, h1⟩
    · exact lf (by rw [show txt (k + 1) ((a, 0, n, o), ta, tb) = (([] ++ kT 20) ++ dgL n) from rfl, q_20]; exact fl_nu n) ⟨_, _, rfl, rfl⟩ (fun z hz => gz_c (decide_eq_true h1) (okN_W hz rfl) rfl) (show 1 ≤ 3 by decide) tkn_3
    · exact lf q_27.symm ⟨_, _, rfl, rfl⟩ (fun z hz => gz_c rfl rfl rfl) (show 1 ≤ 3 by decide) tkn_3
    · exact lf q_28.symm ⟨_, _, rfl, rfl⟩ (fun z hz => gz_c rfl rfl rfl) (show 1 ≤ 3 by decide) tkn_3
    · exact lf q_29.symm ⟨_, _, rfl, rfl⟩ (fun z hz => gz_c rfl rfl rfl) (show 1 ≤ 3 by decide) tkn_3
    · exact lf (fl_4 (show n < 10 by omega)) ⟨_, _, rfl, rfl⟩ (fun z hz => gz_c rfl rfl (gz_c rfl rfl (gz_c (decide_eq_true (show n < 10 by omega)) rfl rfl))) (Nat.le_refl 3) tkn_3
    · exact lf (fl_5 (show n < 10 by omega)) ⟨_, _, rfl, rfl⟩ (fun z hz => gz_c rfl rfl (gz_c rfl rfl (gz_c (decide_eq_true (show n < 10 by omega)) rfl rfl))) (Nat.le_refl 3) tkn_3
    · have ix := tkF hne hnt k x hx
      rcases h0 with rfl | rfl
      · exact TkF.s6 ix (tkn_o (by decide))
      · exact TkF.s29 ix (tkn_o (by decide))
    · have ix := tkF hne hnt k x hx
      have iy := tkF hne hnt k y hy
      rcases h0 with rfl | rfl | rfl | rfl | rfl | rfl | rfl | rfl | rfl | rfl | rfl | rfl | rfl
      · exact TkF.P q_32 rfl rfl ix iy (Nat.le_of_eq (tkn_2 (by decide)).symm)
      · exact TkF.P q_33 rfl rfl ix iy (Nat.le_of_eq (tkn_2 (by decide)).symm)
      · exact TkF.P q_34 rfl rfl ix iy (Nat.le_of_eq (tkn_2 (by decide)).symm)
      · exact TkF.P q_35 rfl rfl ix iy (Nat.le_of_eq (tkn_2 (by decide)).symm)
      · exact TkF.M q_36 rfl rfl rfl ix iy (Nat.le_of_eq (tkn_2 (by decide)).symm)
      · exact TkF.M q_37 rfl rfl rfl ix iy (Nat.le_of_eq (tkn_2 (by decide)).symm)
      · exact TkF.C q_38 rfl rfl ix iy (Nat.le_of_eq (tkn_c (by decide)).symm)
      · exact TkF.C q_39 rfl rfl ix iy (Nat.le_of_eq (tkn_c (by decide)).symm)
      · exact TkF.C q_40 rfl rfl ix iy (Nat.le_of_eq (tkn_c (by decide)).symm)
      · exact TkF.C q_41 rfl rfl ix iy (Nat.le_of_eq (tkn_c (by decide)).symm)
      · exact TkF.C q_42 rfl rfl ix iy (Nat.le_of_eq (tkn_c (by decide)).symm)
      · exact TkF.B q_56 rfl rfl ix iy (Nat.le_of_eq (tkn_2 (by decide)).symm)
      · exact TkF.B q_57 rfl rfl ix iy (Nat.le_of_eq (tkn_2 (by decide)).symm)
    · exact lf (fl_25 (show n < 10 by omega) (show o < 10 by omega)) ⟨_, _, rfl, rfl⟩ (fun z hz => gz_c rfl rfl (gz_c (decide_eq_true (show n < 10 by omega)) rfl (gz_c (decide_eq_true (show o < 10 by omega)) rfl rfl))) (Nat.le_refl 3) tkn_3
    · exact lf (fl_26 (show n < 10 by omega)) ⟨_, _, rfl, rfl⟩ (fun z hz => gz_c rfl rfl (gz_c (decide_eq_true (show n < 10 by omega)) rfl rfl)) (show 2 ≤ 3 by decide) tkn_3
    · exact lf (fl_27 (show n < 10 by omega)) ⟨_, _, rfl, rfl⟩ (fun z hz => gz_c rfl rfl (gz_c (decide_eq_true (show n < 10 by omega)) rfl rfl)) (show 2 ≤ 3 by decide) tkn_3
    · exact lf (fl_28 (show n < 10 by omega)) ⟨_, _, rfl, rfl⟩ (fun z hz => gz_c rfl rfl (gz_c (decide_eq_true (show n < 10 by omega)) rfl rfl)) (show 2 ≤ 3 by decide) tkn_3
