/-! tests as steps, orders, evenings -/
def opK (kd : Nat) : Int32 := match kd with
  | 7 => 43
  | 8 => 45
  | 9 => 42
  | 10 => 47
  | 11 => 223
  | 12 => 224
  | 20 => 60
  | 21 => 62
  | 22 => 61
  | 23 => 128
  | 24 => 129
  | 30 => 221
  | _ => 222
/-- a test's steps -/
def cdT : ∀ k, TT k → List (Int32 × Int32)
  | 0, T => nomatch T
  | k + 1, T =>
    let ca : List (Int32 × Int32) := match T.2.1 with | none => [] | some x => cdT k x
    let cb : List (Int32 × Int32) := match T.2.2 with | none => [] | some x => cdT k x
    match T.1.2.1 with
    | 0 => [(131, nI T.1.2.2.1)]
    | 1 => [(210, 0)]
    | 2 => [(211, 0)]
    | 3 => [(212, 0)]
    | 4 => [(214, nI T.1.2.2.1)]
    | 5 => [(215, nI T.1.2.2.1)]
    | 6 => ca ++ [(134, 0)]
    | 25 => [(217, nI (16 * T.1.2.2.1 + T.1.2.2.2))]
    | 26 => [(218, nI T.1.2.2.1)]
    | 27 => [(213, nI T.1.2.2.1)]
    | 28 => [(219, nI T.1.2.2.1)]
    | 29 => ca ++ [(220, 0)]
    | kd => (ca ++ cb) ++ [(opK kd, 0)]
/-- the rows hold these steps from s on -/
def At (f h : Nat → Int32) (s : Nat) (L : List (Int32 × Int32)) : Prop := ∀ i, i < L.length → f (s + i) = (L.getD i (0, 0)).1 ∧ h (s + i) = (L.getD i (0, 0)).2
theorem gd_l {α : Type} {L M : List α} {i : Nat} {z : α} (h : i < L.length) : (L ++ M).getD i z = L.getD i z := by rw [List.getD_eq_getElem?_getD, List.getD_eq_getElem?_getD, List.getElem?_append_left h]
theorem gd_r {α : Type} {L M : List α} {i : Nat} {z : α} : (L ++ M).getD (L.length + i) z = M.getD i z := by rw [List.getD_eq_getElem?_getD, List.getD_eq_getElem?_getD, List.getElem?_append_right (by omega), Nat.add_sub_cancel_left]
theorem At.left {f h : Nat → Int32} {s : Nat} {L M : List (Int32 × Int32)} (a : At f h s (L ++ M)) : At f h s L := fun i hi => by
  have := a i (by rw [List.length_append]; omega)
  rw [gd_l hi] at this
  exact this
theorem At.right {f h : Nat → Int32} {s : Nat} {L M : List (Int32 × Int32)} (a : At f h s (L ++ M)) : At f h (s + L.length) M := fun i hi => by
  have := a (L.length + i) (by rw [List.length_append]; omega)
  rw [gd_r] at this
  rw [Nat.add_assoc]
  exact this
theorem At.one {f h : Nat → Int32} {s : Nat} {p : Int32 × Int32} (a : At f h s [p]) : f s = p.1 ∧ h s = p.2 := a 0 Nat.one_pos
theorem vl_01 {cl : List (Nat → Int32)} {d ne nt : Nat} {ev : Int32} : ∀ k T, TB ne nt k T → z01 (vlE cl d nt ev k T)
  | 0, T, _ => nomatch T
  | k + 1, ((a, kd, n, o), ta, tb), h => by
    rcases h with ⟨h1, x, y, h2, h3, h4⟩ | ⟨h1, h2, h3, h4⟩ | ⟨h1 | h1, h2, h3⟩ | ⟨h1, h2, h3⟩ | ⟨h1, x, h2, h3⟩ | ⟨h1, x, y, h2, h3, h4⟩
    · cases h2
      have h1' : kd = 20 ∨ kd = 21 ∨ kd = 22 ∨ kd = 23 ∨ kd = 24 := h1
      rcases h1' with rfl | rfl | rfl | rfl | rfl <;> exact bI_01 _
    · have e : kd = 25 := h1
      subst e
      exact bI_01 _
    · have e : kd = 26 := h1
      subst e
      exact bI_01 _
    · have e : kd = 27 := h1
      subst e
      exact bI_01 _
    · have e : kd = 28 := h1
      subst e
      exact bI_01 _
    · have e : kd = 29 := h1
      subst e
      cases h2
      have := vl_01 (cl := cl) (d := d) (ev := ev) k x h3
      show z01 (1 - vlE cl d nt ev k x)
      rcases this with g | g <;> rw [g]
      · exact Or.inr rfl
      · exact Or.inl rfl
    · cases h2
      have h1' : kd = 30 ∨ kd = 31 := h1
      rcases h1' with rfl | rfl <;> exact bI_01 _
theorem div_m1 (x : Int32) : x / (-1) = -x := by
  apply Int32.toInt_inj.mp
  rw [Int32.toInt_div]
  show ((x.toInt).tdiv (-1)).bmod _ = _
  rw [Int.tdiv_neg, Int.tdiv_one]
  exact (Int32.toInt_neg x).symm
theorem comb_eq (x y : Int32) {kd : Nat} (hk : kd = 7 ∨ kd = 8 ∨ kd = 9 ∨ kd = 10 ∨ kd = 11 ∨ kd = 12 ∨ kd = 20 ∨ kd = 21 ∨ kd = 22 ∨ kd = 23 ∨ kd = 24) : f_Co_combine (opK kd) x y = o2 kd x y := by
  rcases hk with rfl | rfl | rfl | rfl | rfl | rfl | rfl | rfl | rfl | rfl | rfl
  · rfl
  · rfl
  · rfl
  · show (if y = 0 then 0 else x / y) = (if y = 0 then 0 else if y = -1 then -x else x / y)
    by_cases h : y = 0
    · rw [if_pos h, if_pos h]
    · rw [if_neg h, if_neg h]
      by_cases h2 : y = -1
      · rw [if_pos h2, h2, div_m1]
      · rw [if_neg h2]
  · show (if y < x then y else x) = (if x < y then x else y)
    by_cases h : x < y
    · rw [if_pos h, if_neg (Int32.not_lt.mpr (Int32.le_of_lt h))]
    · rw [if_neg h]
      by_cases h2 : y < x
      · rw [if_pos h2]
      · rw [if_neg h2]
        exact Int32.le_antisymm (Int32.not_lt.mp h2) (Int32.not_lt.mp h)
  · show (if x < y then y else x) = (if x < y then y else x)
    rfl
  · show (if y ≤ x then f_Main_one 0 else f_Main_one 1) = bI (decide (x < y))
    by_cases h : x < y
    · rw [if_neg (Int32.not_le.mpr h), decide_eq_true h]; rfl
    · rw [if_pos (Int32.not_lt.mp h), decide_eq_false h]; rfl
  · show (if x ≤ y then f_Main_one 0 else f_Main_one 1) = bI (decide (y < x))
    by_cases h : y < x
    · rw [if_neg (Int32.not_le.mpr h), decide_eq_true h]; rfl
    · rw [if_pos (Int32.not_lt.mp h), decide_eq_false h]; rfl
  · show (if x = y then f_Main_one 1 else f_Main_one 0) = bI (decide (x = y))
    by_cases h : x = y
    · rw [if_pos h, decide_eq_true h]; rfl
    · rw [if_neg h, decide_eq_false h]; rfl
  · show (if y < x then f_Main_one 0 else f_Main_one 1) = bI (!decide (y < x))
    by_cases h : y < x
    · rw [if_pos h, decide_eq_true h]; rfl
    · rw [if_neg h, decide_eq_false h]; rfl
  · show (if x < y then f_Main_one 0 else f_Main_one 1) = bI (!decide (x < y))
    by_cases h : x < y
    · rw [if_pos h, decide_eq_true h]; rfl
    · rw [if_neg h, decide_eq_false h]; rfl
theorem comb_log {x y : Int32} (hx : z01 x) (hy : z01 y) : f_Co_combine 221 x y = o2 30 x y ∧ f_Co_combine 222 x y = o2 31 x y := by
  rcases hx with rfl | rfl <;> rcases hy with rfl | rfl <;> decide
theorem su_pc {s : Nat} : ∀ k, suS (dbF s) k = nI (sm k (fun j => b1 (s.testBit j)))
  | 0 => rfl
  | k + 1 => by
    show suS (dbF s) k + dbF s k = nI (sm k (fun j => b1 (s.testBit j)) + b1 (s.testBit k))
    rw [su_pc k, ← nI_add]
    congr 1
    rw [dbF_bI]
    cases s.testBit k <;> rfl
theorem su_all {s nt : Nat} (hs : s < 2 ^ nt) (hn : nt ≤ 10) : suS (dbF s) nt = nI (pcN s) := by
  rw [su_pc, pcS_eq]
  unfold pcS
  rw [sm_ext 10 hn (fun i hi _ => by rw [bits_of_lt hs hi]; rfl)]
section ST
variable {A : Nat → Nat} {ne nt d : Nat} {cl : List (Nat → Int32)} {x6 x7 x8 x9 x10 x21 x16 x17 : Nat → Int32} {N : Nat} {ev : Int32}
theorem li_nt (hw : WS A ne nt cl x6 x7 x8 x9 x10 x21) : (LIs cl d nt).1 < 2 ^ nt := by
  have h := (dcd_same (d := d) hw.2.1 hw.1.2.2.2.1).2.2.1
  rw [(li_eq (d := d) hw).1, lvs_all hw.2.1 hw.1.2.2.2.1] at h
  exact Nat.lt_of_le_of_lt (le_of_dif h.1) bel_lt
/-- what the loop over steps does from s on, h numbers lying on the stack -/
def GoS (A : Nat → Nat) (N nt n d : Nat) (x6 x7 x8 x9 x10 x16 x17 x21 : Nat → Int32) (ev : Int32) (E s len h : Nat) (v : Int32) : Prop :=
  ∀ (xs : Nat → Int32) (j l c : Int32), XC A nt j l c → ∃ xs2 j2 l2 c2, XC A nt j2 l2 c2 ∧ xs2 h = v ∧ (∀ i, i < h → xs2 i = xs i) ∧
    ∀ M, lpS (f_Co_holds_L42 N (nI nt) (nI n) x6 x7 x8 x9 x10 x16 x17 x21 (nI d) ev (nI E)) none (len + M) (nI s, j, l, c, nI h, xs) = lpS (f_Co_holds_L42 N (nI nt) (nI n) x6 x7 x8 x9 x10 x16 x17 x21 (nI d) ev (nI E)) none M (nI (s + len), j2, l2, c2, nI (h + 1), xs2)
theorem GoS.fact {n E s h : Nat} {K P v : Int32} (hs : s < E) (hE : E ≤ 400) (hh : h < 400) (hK : x16 s = K) (hP : x17 s = P) (hk : K = 131 ∨ (¬ K = 131 ∧ ¬ K < 210 ∧ ¬ 219 < K)) (hf : ∀ j l c, XC A nt j l c → ∃ j2 l2 c2, XC A nt j2 l2 c2 ∧ f_Co_fact N (nI nt) (nI n) x6 x7 x8 x9 x10 j l c x21 (nI d) ev K P = some (v, j2, l2, c2)) : GoS A N nt n d x6 x7 x8 x9 x10 x16 x17 x21 ev E s 1 h v := by
  intro xs j l c hx
  obtain ⟨j2, l2, c2, h1, h2⟩ := hf j l c hx
  refine ⟨upd xs h v, j2, l2, c2, h1, upd_at, fun i hi => upd_ne (by omega), fun M => ?_⟩
  rw [Nat.add_comm 1 M]
  refine lp_in ?_
  unfold f_Co_holds_L42
  simp only [if_neg (nI_ge hs (show E < 2 ^ 31 by omega)), rg (show s < 400 by omega) (show 400 < 2147483648 by decide), hK, hP]
  have hp : f_Co_push (nI h) xs v = some (nI (h + 1), upd xs h v) := by
    unfold f_Co_push
    rw [rs hh (by decide), ← nI_succ]
  rcases hk with rfl | ⟨k1, k2, k3⟩
  · simp only [if_true, h2, oB_s, hp, ← nI_succ]
  · simp only [if_neg k1, if_neg k2, if_neg k3, h2, oB_s, hp, ← nI_succ]
theorem GoS.rec1 {n E s h len : Nat} {K v w : Int32} (ha : GoS A N nt n d x6 x7 x8 x9 x10 x16 x17 x21 ev E s len h v) (hs : s + len < E) (hE : E ≤ 400) (hh : h < 400) (hK : x16 (s + len) = K) (hk : ¬ K = 131 ∧ (K < 210 ∨ 219 < K)) (hr : ∀ xs : Nat → Int32, xs h = v → f_Co_reckon (nI (h + 1)) xs K = some (nI (h + 1), upd xs h w)) : GoS A N nt n d x6 x7 x8 x9 x10 x16 x17 x21 ev E s (len + 1) h w := by
  intro xs j l c hx
  obtain ⟨xs2, j2, l2, c2, h1, h2, h3, h4⟩ := ha xs j l c hx
  refine ⟨upd xs2 h w, j2, l2, c2, h1, upd_at, fun i hi => by rw [upd_ne (by omega)]; exact h3 i hi, fun M => ?_⟩
  rw [show len + 1 + M = len + (M + 1) by omega, h4 (M + 1)]
  refine lp_in ?_
  unfold f_Co_holds_L42
  simp only [if_neg (nI_ge hs (show E < 2 ^ 31 by omega)), rg (show s + len < 400 by omega) (show 400 < 2147483648 by decide), hK, if_neg hk.1]
  have e9 : nI (s + len) + 1 = nI (s + (len + 1)) := by rw [nI_1]; rfl
  rcases hk.2 with k | k
  · simp only [if_pos k, hr xs2 h2, oB_s, e9]
  · have k3 : ¬ K < 210 := fun h9 => absurd (Int32.lt_trans k h9) (by decide)
    simp only [if_neg k3, if_pos k, hr xs2 h2, oB_s, e9]
theorem GoS.rec2 {n E s h la lb : Nat} {K v w z : Int32} (ha : GoS A N nt n d x6 x7 x8 x9 x10 x16 x17 x21 ev E s la h v) (hb : GoS A N nt n d x6 x7 x8 x9 x10 x16 x17 x21 ev E (s + la) lb (h + 1) w) (hs : s + la + lb < E) (hE : E ≤ 400) (hh : h + 1 < 400) (hK : x16 (s + la + lb) = K) (hk : ¬ K = 131 ∧ ¬ K = 134 ∧ ¬ K = 220 ∧ (K < 210 ∨ 219 < K)) (hr : f_Co_combine K v w = z) : GoS A N nt n d x6 x7 x8 x9 x10 x16 x17 x21 ev E s (la + lb + 1) h z := by
  intro xs j l c hx
  obtain ⟨xs2, j2, l2, c2, h1, h2, h3, h4⟩ := ha xs j l c hx
  obtain ⟨xs3, j3, l3, c3, g1, g2, g3, g4⟩ := hb xs2 j2 l2 c2 h1
  refine ⟨upd xs3 h z, j3, l3, c3, g1, upd_at, fun i hi => by rw [upd_ne (by omega), g3 i (by omega)]; exact h3 i hi, fun M => ?_⟩
  rw [show la + lb + 1 + M = la + (lb + (M + 1)) by omega, h4 (lb + (M + 1)), g4 (M + 1)]
  refine lp_in ?_
  unfold f_Co_holds_L42
  have e8 : f_Co_reckon (nI (h + 1 + 1)) xs3 K = some (nI (h + 1), upd xs3 h z) := by
    have := x_bin hh xs3 (K := K) hk.2.1 hk.2.2.1
    rw [g2, g3 h (by omega), h2, hr] at this
    exact this
  have e9 : nI (s + la + lb) + 1 = nI (s + (la + lb + 1)) := by rw [nI_1, show s + la + lb + 1 = s + (la + lb + 1) by omega]
  simp only [if_neg (nI_ge hs (show E < 2 ^ 31 by omega)), rg (show s + la + lb < 400 by omega) (show 400 < 2147483648 by decide), hK, if_neg hk.1]
  rcases hk.2.2.2 with k | k
  · simp only [if_pos k, e8, oB_s, e9]
  · have k3 : ¬ K < 210 := fun h9 => absurd (Int32.lt_trans k h9) (by decide)
    simp only [if_neg k3, if_pos k, e8, oB_s, e9]
theorem fact_of {n : Nat} {K P v : Int32} (h : ∀ j l c, XC A nt j l c → ∃ j2 l2 c2, XC A nt j2 l2 c2 ∧ f_Co_fact N (nI nt) (nI n) x6 x7 x8 x9 x10 j l c x21 (nI d) ev K P = some (v, j2, l2, c2)) : ∀ j l c, XC A nt j l c → ∃ j2 l2 c2, XC A nt j2 l2 c2 ∧ f_Co_fact N (nI nt) (nI n) x6 x7 x8 x9 x10 j l c x21 (nI d) ev K P = some (v, j2, l2, c2) := h
/-- a tree's steps give what it gives -/
theorem run_T (hw : WS A ne nt cl x6 x7 x8 x9 x10 x21) (hd : d < 1024) (hN : 2000 < N) {E : Nat} (hE : E ≤ 400) (hn6 : nt ≤ 6) (hne8 : ne ≤ 8) : ∀ k T s h, (TE ne nt k T ∨ TB ne nt k T) → At x16 x17 s (cdT k T) → s + (cdT k T).length ≤ E → h + k < 390 → GoS A N nt cl.length d x6 x7 x8 x9 x10 x16 x17 x21 ev E s (cdT k T).length h (vlE cl d nt ev k T)
  | 0, T, _, _, _, _, _, _ => nomatch T
  | k + 1, ((a, kd, n, o), ta, tb), s, h, hT, hAt, hlen, hh => by
    have hx0 := hw.1.2.1
    have hn := hw.1.2.2.2.1
    have hsy := hw.1.2.2.2.2.2
    rcases tr_kids hT with ⟨rfl, hb⟩ | rfl | rfl | rfl | ⟨rfl, hb⟩ | ⟨rfl, hb⟩ | ⟨hk1, x, rfl, hx⟩ | ⟨hk2, x, y, rfl, rfl, hx, hy⟩ | ⟨rfl, hb, hb2⟩ | ⟨rfl, hb⟩ | ⟨rfl, hb⟩ | ⟨rfl, hb⟩
    · obtain ⟨q1, q2⟩ := hAt.one
      exact GoS.fact (K := 131) (P := nI n) (by exact hlen) hE (by omega) q1 q2 (Or.inl rfl) (fun j l c hx => ⟨j, l, c, hx, rfl⟩)
    · obtain ⟨q1, q2⟩ := hAt.one
      exact GoS.fact (K := 210) (P := 0) (by exact hlen) hE (by omega) q1 q2 (Or.inr (by decide)) (fun j l c hx => ⟨j, l, c, hx, rfl⟩)
    · obtain ⟨q1, q2⟩ := hAt.one
      refine GoS.fact (K := 211) (P := 0) (by exact hlen) hE (by omega) q1 q2 (Or.inr (by decide)) (fun j l c hx => ⟨_, _, _, xc_at hd, ?_⟩)
      show (oB none (f_Ve_liarSet N (nI nt) j l c x21 (nI d)) (fun r => some (f_J6_bitCount_0f7a4 r.1, r.2.1, r.2.2.1, r.2.2.2))) = some (suS (dbF (LIs cl d nt).1) nt, _)
      rw [x_liar hx0 hn hsy hd hx hN, oB_s, (li_eq (d := d) hw).1]
      show some (f_J6_bitCount_0f7a4 (nI (LIs cl d nt).1), _) = _
      rw [q_pc _ (li_lt hw), su_all (li_nt hw) hn]
    · obtain ⟨q1, q2⟩ := hAt.one
      refine GoS.fact (K := 212) (P := 0) (by exact hlen) hE (by omega) q1 q2 (Or.inr (by decide)) (fun j l c hx => ⟨j, l, c, hx, ?_⟩)
      show (oB none (f_Ve_pairCount N (nI nt) x21 (nI d)) (fun r => some (r, j, l, c))) = some (nI (pnS cl d nt nt), j, l, c)
      rw [v_pn hw (by omega), oB_s]
    · obtain ⟨q1, q2⟩ := hAt.one
      refine GoS.fact (K := 214) (P := nI n) (by exact hlen) hE (by omega) q1 q2 (Or.inr (by decide)) (fun j l c hx => ⟨j, l, c, hx, ?_⟩)
      show (oB none (f_Cl_countOf N (nI cl.length) x6 (nI n)) (fun r => some (r, j, l, c))) = some (nI (cntS cl (nI n) cl.length), j, l, c)
      rw [x_count hw.1.1 (by omega), oB_s]
      rfl
    · obtain ⟨q1, q2⟩ := hAt.one
      refine GoS.fact (K := 215) (P := nI n) (by exact hlen) hE (by omega) q1 q2 (Or.inr (by decide)) (fun j l c hx => ⟨j, l, c, hx, ?_⟩)
      show (oB none (f_Ve_windowHours N (nI cl.length) x6 x7 x8 x9 x10 (nI n) (nI d)) (fun r => some (r, j, l, c))) = some (nI (winS cl d n 100).2.2, j, l, c)
      rw [v_hours hw hd (by omega) n, oB_s]
    · rcases hk1 with rfl | rfl
      · have a1 : At x16 x17 s (cdT k x ++ [(134, 0)]) := hAt
        have l1 : s + (cdT k x ++ [((134 : Int32), (0 : Int32))]).length ≤ E := hlen
        rw [List.length_append] at l1
        have l2 : [((134 : Int32), (0 : Int32))].length = 1 := rfl
        obtain ⟨q1, q2⟩ := a1.right.one
        have ih := run_T hw hd hN hE hn6 hne8 k x s h hx a1.left (by omega) (by omega)
        show GoS A N nt cl.length d x6 x7 x8 x9 x10 x16 x17 x21 ev E s (cdT k x ++ [((134 : Int32), (0 : Int32))]).length h (-(vlE cl d nt ev k x))
        rw [List.length_append]
        refine ih.rec1 (by omega) hE (by omega) q1 (by decide) (fun xs hxs => ?_)
        rw [← hxs]
        exact x_un (by omega) xs
      · have hB : TB ne nt k x := by
          rcases hT with hT | hT
          · rcases hT with ⟨h1, -⟩ | ⟨h1, -⟩ | ⟨h1, -⟩ | ⟨h1, -⟩ | ⟨h1, -⟩ | ⟨h1, -⟩
            · have k0 : (29 : Nat) = 0 := h1
              omega
            · have k0 : (29 : Nat) = 1 ∨ (29 : Nat) = 2 ∨ (29 : Nat) = 3 := h1
              omega
            · have k0 : (29 : Nat) = 4 := h1
              omega
            · have k0 : (29 : Nat) = 5 := h1
              omega
            · have k0 : (29 : Nat) = 6 := h1
              omega
            · have k0 : (29 : Nat) = 7 ∨ (29 : Nat) = 8 ∨ (29 : Nat) = 9 ∨ (29 : Nat) = 10 ∨ (29 : Nat) = 11 ∨ (29 : Nat) = 12 := h1
              omega
          · rcases hT with ⟨h1, -⟩ | ⟨h1, -⟩ | ⟨h1, -⟩ | ⟨h1, -⟩ | ⟨-, x2, h2, h3⟩ | ⟨h1, -⟩
            · have k0 : (29 : Nat) = 20 ∨ (29 : Nat) = 21 ∨ (29 : Nat) = 22 ∨ (29 : Nat) = 23 ∨ (29 : Nat) = 24 := h1
              omega
            · have k0 : (29 : Nat) = 25 := h1
              omega
            · have k0 : (29 : Nat) = 26 ∨ (29 : Nat) = 27 := h1
              omega
            · have k0 : (29 : Nat) = 28 := h1
              omega
            · cases h2
              exact h3
            · have k0 : (29 : Nat) = 30 ∨ (29 : Nat) = 31 := h1
              omega
        have a1 : At x16 x17 s (cdT k x ++ [(220, 0)]) := hAt
        have l1 : s + (cdT k x ++ [((220 : Int32), (0 : Int32))]).length ≤ E := hlen
        rw [List.length_append] at l1
        have l2 : [((220 : Int32), (0 : Int32))].length = 1 := rfl
        obtain ⟨q1, q2⟩ := a1.right.one
        have ih := run_T hw hd hN hE hn6 hne8 k x s h hx a1.left (by omega) (by omega)
        show GoS A N nt cl.length d x6 x7 x8 x9 x10 x16 x17 x21 ev E s (cdT k x ++ [((220 : Int32), (0 : Int32))]).length h (1 - vlE cl d nt ev k x)
        rw [List.length_append]
        refine ih.rec1 (by omega) hE (by omega) q1 (by decide) (fun xs hxs => ?_)
        rw [x_not (by omega) xs, hxs]
        rcases vl_01 (cl := cl) (d := d) (ev := ev) k x hB with g | g <;> rw [g] <;> rfl
    · have a1 : At x16 x17 s ((cdT k x ++ cdT k y) ++ [(opK kd, 0)]) := by
        rcases hk2 with rfl | rfl | rfl | rfl | rfl | rfl | rfl | rfl | rfl | rfl | rfl | rfl | rfl <;> exact hAt
      have l0 : (cdT (k + 1) ((a, kd, n, o), some x, some y)).length = (cdT k x).length + (cdT k y).length + 1 := by
        have : cdT (k + 1) ((a, kd, n, o), some x, some y) = (cdT k x ++ cdT k y) ++ [(opK kd, 0)] := by
          rcases hk2 with rfl | rfl | rfl | rfl | rfl | rfl | rfl | rfl | rfl | rfl | rfl | rfl | rfl <;> rfl
        rw [this, List.length_append, List.length_append]
        rfl
      rw [l0] at hlen ⊢
      have q1 := a1.right.one.1
      rw [List.length_append, ← Nat.add_assoc] at q1
      have ihx := run_T hw hd hN hE hn6 hne8 k x s h hx a1.left.left (by omega) (by omega)
      have ihy := run_T hw hd hN hE hn6 hne8 k y (s + (cdT k x).length) (h + 1) hy a1.left.right (by omega) (by omega)
      have ev2 : vlE cl d nt ev (k + 1) ((a, kd, n, o), some x, some y) = o2 kd (vlE cl d nt ev k x) (vlE cl d nt ev k y) := by
        rcases hk2 with rfl | rfl | rfl | rfl | rfl | rfl | rfl | rfl | rfl | rfl | rfl | rfl | rfl <;> rfl
      rw [ev2]
      refine ihx.rec2 ihy (by omega) hE (by omega) q1 (by rcases hk2 with rfl | rfl | rfl | rfl | rfl | rfl | rfl | rfl | rfl | rfl | rfl | rfl | rfl <;> decide) ?_
      by_cases hlog : kd = 30 ∨ kd = 31
      · have hB : TB ne nt k x ∧ TB ne nt k y := by
          rcases hT with hT | hT
          · rcases hT with ⟨h1, -⟩ | ⟨h1, -⟩ | ⟨h1, -⟩ | ⟨h1, -⟩ | ⟨h1, -⟩ | ⟨h1, -⟩
            · have h1' : kd = 0 := h1
              omega
            · have h1' : kd = 1 ∨ kd = 2 ∨ kd = 3 := h1
              omega
            · have h1' : kd = 4 := h1
              omega
            · have h1' : kd = 5 := h1
              omega
            · have h1' : kd = 6 := h1
              omega
            · have h1' : kd = 7 ∨ kd = 8 ∨ kd = 9 ∨ kd = 10 ∨ kd = 11 ∨ kd = 12 := h1
              omega
          · rcases hT with ⟨h1, -⟩ | ⟨h1, -⟩ | ⟨h1, -⟩ | ⟨h1, -⟩ | ⟨h1, -⟩ | ⟨-, x2, y2, h2, h3, h4⟩
            · have h1' : kd = 20 ∨ kd = 21 ∨ kd = 22 ∨ kd = 23 ∨ kd = 24 := h1
              omega
            · have h1' : kd = 25 := h1
              omega
            · have h1' : kd = 26 ∨ kd = 27 := h1
              omega
            · have h1' : kd = 28 := h1
              omega
            · have h1' : kd = 29 := h1
              omega
            · cases h2
              exact ⟨h3, h4⟩
        have hl := comb_log (vl_01 (cl := cl) (d := d) (ev := ev) k x hB.1) (vl_01 (cl := cl) (d := d) (ev := ev) k y hB.2)
        rcases hlog with rfl | rfl
        · exact hl.1
        · exact hl.2
      · exact comb_eq _ _ (by omega)
    · obtain ⟨q1, q2⟩ := hAt.one
      refine GoS.fact (K := 217) (P := nI (16 * n + o)) (by exact hlen) hE (by omega) q1 q2 (Or.inr (by decide)) (fun j l c hx => ⟨j, l, c, hx, ?_⟩)
      show some (f_Main_one (f_Ve_tellersContradict x21 (nI (16 * n + o) >>> ((4 : Int32) &&& 31)) (nI (16 * n + o) &&& 15) (nI d)), j, l, c) = some (bI (conS cl d n o), j, l, c)
      rw [part_hi n (by omega) o (by omega), part_lo n (by omega) o (by omega), v_tc hw hd (by omega) (by omega), one_bI]
    · obtain ⟨q1, q2⟩ := hAt.one
      refine GoS.fact (K := 218) (P := nI n) (by exact hlen) hE (by omega) q1 q2 (Or.inr (by decide)) (fun j l c hx => ⟨_, _, _, xc_at hd, ?_⟩)
      show (oB none (f_Ve_liarSet N (nI nt) j l c x21 (nI d)) (fun r => some (f_Main_one (f_Main_has r.1 (nI n)), r.2.1, r.2.2.1, r.2.2.2))) = some (dbF (LIs cl d nt).1 n, _)
      have hl := li_lt (d := d) hw
      rw [x_liar hx0 hn hsy hd hx hN, oB_s, (li_eq (d := d) hw).1]
      show some (f_Main_one (f_Main_has (nI (LIs cl d nt).1) (nI n)), _) = _
      rw [has_db (by omega) (by omega), dbF_bI, one_bI]
    · obtain ⟨q1, q2⟩ := hAt.one
      refine GoS.fact (K := 213) (P := nI n) (by exact hlen) hE (by omega) q1 q2 (Or.inr (by decide)) (fun j l c hx => ⟨j, l, c, hx, ?_⟩)
      show some (f_Main_one (f_Main_has (nI d) (nI n)), j, l, c) = some (dbF d n, j, l, c)
      rw [has_db (by omega) (by omega), dbF_bI, one_bI]
    · obtain ⟨q1, q2⟩ := hAt.one
      refine GoS.fact (K := 219) (P := nI n) (by exact hlen) hE (by omega) q1 q2 (Or.inr (by decide)) (fun j l c hx => ⟨j, l, c, hx, ?_⟩)
      show (oB none (f_Ve_windowHours N (nI cl.length) x6 x7 x8 x9 x10 (nI n) (nI d)) (fun r => if r ≤ 0 then some (f_Main_one 0, j, l, c) else some (f_Main_one 1, j, l, c))) = some (bI (decide (0 < (winS cl d n 100).2.2)), j, l, c)
      rw [v_hours hw hd (by omega) n, oB_s]
      by_cases h0 : (winS cl d n 100).2.2 = 0
      · rw [if_pos (win_le0.mpr h0), h0]; rfl
      · rw [if_neg (fun h2 => h0 (win_le0.mp h2)), decide_eq_true (by omega)]; rfl
end ST
