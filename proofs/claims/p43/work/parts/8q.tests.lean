/-! the reader: whole sums and tests -/
theorem hk_b : ∀ c, c ∈ ([131, 210, 211, 212, 214, 215, 45, 40, 223, 224] : List Int32) → hk c := by unfold hk; decide
theorem tkP_e {op : Tok} {ta tb : List Tok} : tkP op ta tb = ((4, 40, 0) :: (ta ++ [(4, 41, 0)])) ++ op :: ((4, 40, 0) :: (tb ++ [(4, 41, 0)])) := by
  unfold tkP
  simp only [List.cons_append, List.append_assoc, List.nil_append]
theorem tkB_e {op : Tok} {ta tb : List Tok} : tkB op ta tb = ((4, 91, 0) :: (ta ++ [(4, 93, 0)])) ++ op :: ((4, 91, 0) :: (tb ++ [(4, 93, 0)])) := by
  unfold tkB
  simp only [List.cons_append, List.append_assoc, List.nil_append]
theorem hd_E {ne nt : Nat} : ∀ k T, TE ne nt k T → ∃ a r, tkT k T = a :: r ∧ hk (kd a)
  | 0, T, _ => nomatch T
  | k + 1, ((a, kd, n, o), ta, tb), h => by
    rcases h with ⟨h1, -, h3⟩ | ⟨h1 | h1 | h1, h3⟩ | ⟨h1, -, h3⟩ | ⟨h1, -, h3⟩ | ⟨h1, x, h3, hx⟩ | ⟨h1, x, y, h3, hx, hy⟩
    · have e : kd = 0 := h1
      subst e
      exact ⟨_, _, rfl, hk_b 131 (by decide)⟩
    · have e : kd = 1 := h1
      subst e
      exact ⟨_, _, rfl, hk_b 210 (by decide)⟩
    · have e : kd = 2 := h1
      subst e
      exact ⟨_, _, rfl, hk_b 211 (by decide)⟩
    · have e : kd = 3 := h1
      subst e
      exact ⟨_, _, rfl, hk_b 212 (by decide)⟩
    · have e : kd = 4 := h1
      subst e
      exact ⟨_, _, rfl, hk_b 214 (by decide)⟩
    · have e : kd = 5 := h1
      subst e
      exact ⟨_, _, rfl, hk_b 215 (by decide)⟩
    · have e : kd = 6 := h1
      subst e
      exact ⟨_, _, rfl, hk_b 45 (by decide)⟩
    · have e : kd = 7 ∨ kd = 8 ∨ kd = 9 ∨ kd = 10 ∨ kd = 11 ∨ kd = 12 := h1
      rcases e with rfl | rfl | rfl | rfl | rfl | rfl
      · exact ⟨_, _, rfl, hk_b 40 (by decide)⟩
      · exact ⟨_, _, rfl, hk_b 40 (by decide)⟩
      · exact ⟨_, _, rfl, hk_b 40 (by decide)⟩
      · exact ⟨_, _, rfl, hk_b 40 (by decide)⟩
      · exact ⟨_, _, rfl, hk_b 223 (by decide)⟩
      · exact ⟨_, _, rfl, hk_b 224 (by decide)⟩
theorem nA {c : Int32} (h : (decide (c = 42) || decide (c = 47) || decide (c = 43) || decide (c = 45)) = false) : noA c := by
  simp only [Bool.or_eq_false_iff, decide_eq_false_iff_not] at h
  exact ⟨⟨h.1.1.1, h.1.1.2⟩, h.1.2, h.2⟩
section PR
variable {tk ts tn : Nat → Int32} {tw w1 w2 : Nat → Int64} {N ne nt : Nat} {ep : Int32}
theorem up6 (hN : 400 < N) {D dd d2 : Nat} {T : List Tok} {L : List (Int32 × Int32)} (h : Rd tk ts tn tw w1 w2 N ne nt ep 6 D T L dd any) (hd : dd ≤ d2) : Rd tk ts tn tw w1 w2 N ne nt ep 4 (D + 2) T L d2 noA :=
  (Rd.lift4 hN (Rd.lift5 hN (h.nx (n2 := noA) (fun _ _ => trivial)) (fun _ q => q.1.1) (fun _ q => q.1.2)) (fun _ q => q.2.1) (fun _ q => q.2.2)).dd hd
theorem up2 (hN : 400 < N) {D dd d2 : Nat} {T : List Tok} {L : List (Int32 × Int32)} {nx : Int32 → Prop} (h : Rd tk ts tn tw w1 w2 N ne nt ep 2 D T L dd nx) (hn : ∀ c, no0 c → nx c) (hd : dd ≤ d2) : Rd tk ts tn tw w1 w2 N ne nt ep 0 (D + 2) T L d2 no0 :=
  (Rd.lift0 hN (Rd.lift1 hN (h.nx (n2 := no0) hn) (fun _ q => q.1.2)) (fun _ q => q.2)).dd hd
theorem rd_E (hN : 400 < N) (hE : EvW w1 ne) (hT : TeW w2 nt) (hne : ne ≤ 10) (hnt : nt ≤ 10) : ∀ k T, TE ne nt k T → ∀ D, 4 * k ≤ D → Rd tk ts tn tw w1 w2 N ne nt ep 4 D (tkT k T) (cdT k T) (2 * k) noA
  | 0, T, _ => nomatch T
  | k + 1, ((a, kd, n, o), ta, tb), h => fun D hD => by
    obtain ⟨E, rfl⟩ : ∃ E, D = E + 4 := ⟨D - 4, by omega⟩
    have n41 : noA 41 := nA (by decide)
    have n44 : noA 44 := nA (by decide)
    rcases h with ⟨h1, -, h3⟩ | ⟨h1 | h1 | h1, h3⟩ | ⟨h1, h2, h3⟩ | ⟨h1, h2, h3⟩ | ⟨h1, x, h3, hx⟩ | ⟨h1, x, y, h3, hx, hy⟩
    · have e : kd = 0 := h1
      subst e
      exact up6 hN (v_num (D := E + 1)) (Nat.zero_le _)
    · have e : kd = 1 := h1
      subst e
      exact up6 hN (v_210 (D := E + 1)) (Nat.zero_le _)
    · have e : kd = 2 := h1
      subst e
      exact up6 hN (v_211 (D := E + 1)) (Nat.zero_le _)
    · have e : kd = 3 := h1
      subst e
      exact up6 hN (v_212 (D := E + 1)) (Nat.zero_le _)
    · have e : kd = 4 := h1
      subst e
      have h2' : n < nt := h2
      exact up6 hN (v_214 (D := E + 1) hT h2' (by omega)) (Nat.zero_le _)
    · have e : kd = 5 := h1
      subst e
      have h2' : n < ne := h2
      exact up6 hN (v_215 (D := E + 1) hE h2' (by omega)) (Nat.zero_le _)
    · have e : kd = 6 := h1
      subst e
      cases h3
      exact up6 hN (v_neg (v_par n41 (rd_E hN hE hT hne hnt k x hx E (by omega)))) (by omega)
    · have e : kd = 7 ∨ kd = 8 ∨ kd = 9 ∨ kd = 10 ∨ kd = 11 ∨ kd = 12 := h1
      cases h3
      have px := v_par n41 (rd_E hN hE hT hne hnt k x hx (E + 1) (by omega))
      have py := v_par n41 (rd_E hN hE hT hne hnt k y hy (E + 1) (by omega))
      rcases e with rfl | rfl | rfl | rfl | rfl | rfl
      · show Rd tk ts tn tw w1 w2 N ne nt ep 4 (E + 4) (tkP (4, 43, 0) (tkT k x) (tkT k y)) ((cdT k x ++ cdT k y) ++ [(43, 0)]) (2 * (k + 1)) noA
        rw [tkP_e]
        exact (Rd.bin4_43 (n1 := noM) hN rfl ⟨by decide, by decide⟩ (Rd.lift5 hN (px.nx (n2 := noM) (fun _ _ => trivial)) (fun _ q => q.1) (fun _ q => q.2)) (Rd.lift5 hN (py.nx (n2 := noA) (fun _ _ => trivial)) (fun _ q => q.1.1) (fun _ q => q.1.2)) (fun _ q => q.2.1) (fun _ q => q.2.2)).dd (by omega)
      · show Rd tk ts tn tw w1 w2 N ne nt ep 4 (E + 4) (tkP (4, 45, 0) (tkT k x) (tkT k y)) ((cdT k x ++ cdT k y) ++ [(45, 0)]) (2 * (k + 1)) noA
        rw [tkP_e]
        exact (Rd.bin4_45 (n1 := noM) hN rfl ⟨by decide, by decide⟩ (Rd.lift5 hN (px.nx (n2 := noM) (fun _ _ => trivial)) (fun _ q => q.1) (fun _ q => q.2)) (Rd.lift5 hN (py.nx (n2 := noA) (fun _ _ => trivial)) (fun _ q => q.1.1) (fun _ q => q.1.2)) (fun _ q => q.2.1) (fun _ q => q.2.2)).dd (by omega)
      · show Rd tk ts tn tw w1 w2 N ne nt ep 4 (E + 4) (tkP (4, 42, 0) (tkT k x) (tkT k y)) ((cdT k x ++ cdT k y) ++ [(42, 0)]) (2 * (k + 1)) noA
        rw [tkP_e]
        exact (Rd.lift4 hN (Rd.bin5_42 (n1 := any) hN rfl trivial px (py.nx (n2 := noA) (fun _ _ => trivial)) (fun _ q => q.1.1) (fun _ q => q.1.2)) (fun _ q => q.2.1) (fun _ q => q.2.2)).dd (by omega)
      · show Rd tk ts tn tw w1 w2 N ne nt ep 4 (E + 4) (tkP (4, 47, 0) (tkT k x) (tkT k y)) ((cdT k x ++ cdT k y) ++ [(47, 0)]) (2 * (k + 1)) noA
        rw [tkP_e]
        exact (Rd.lift4 hN (Rd.bin5_47 (n1 := any) hN rfl trivial px (py.nx (n2 := noA) (fun _ _ => trivial)) (fun _ q => q.1.1) (fun _ q => q.1.2)) (fun _ q => q.2.1) (fun _ q => q.2.2)).dd (by omega)
      · exact up6 hN (v_223 n44 n41 (rd_E hN hE hT hne hnt k x hx E (by omega)) (rd_E hN hE hT hne hnt k y hy E (by omega))) (by omega)
      · exact up6 hN (v_224 n44 n41 (rd_E hN hE hT hne hnt k x hx E (by omega)) (rd_E hN hE hT hne hnt k y hy E (by omega))) (by omega)
theorem rd_B (hN : 400 < N) (hE : EvW w1 ne) (hT : TeW w2 nt) (hne : ne ≤ 10) (hnt : nt ≤ 10) : ∀ k T, TB ne nt k T → ∀ D, 5 * k ≤ D → Rd tk ts tn tw w1 w2 N ne nt ep 0 D (tkT k T) (cdT k T) (2 * k) no0
  | 0, T, _ => nomatch T
  | k + 1, ((a, kd, n, o), ta, tb), h => fun D hD => by
    obtain ⟨E, rfl⟩ : ∃ E, D = E + 4 := ⟨D - 4, by omega⟩
    have n93 : no0 93 := ⟨⟨nA (by decide), by decide⟩, by decide⟩
    rcases h with ⟨h1, x, y, h3, hx, hy⟩ | ⟨h1, h2, h4, h3⟩ | ⟨h1 | h1, h2, h3⟩ | ⟨h1, h2, h3⟩ | ⟨h1, x, h3, hx⟩ | ⟨h1, x, y, h3, hx, hy⟩
    · cases h3
      have hh := hd_E k x hx
      have ix := rd_E (ep := ep) (ts := ts) (tk := tk) (tn := tn) (tw := tw) hN hE hT hne hnt k x hx (E + 1) (by omega)
      have iy := rd_E (ep := ep) (ts := ts) (tk := tk) (tn := tn) (tw := tw) hN hE hT hne hnt k y hy E (by omega)
      have e : kd = 20 ∨ kd = 21 ∨ kd = 22 ∨ kd = 23 ∨ kd = 24 := h1
      rcases e with rfl | rfl | rfl | rfl | rfl
      · exact up2 hN (s_c60 hh (nA (by decide)) ix iy) (fun _ q => q.1.1) (by omega)
      · exact up2 hN (s_c62 hh (nA (by decide)) ix iy) (fun _ q => q.1.1) (by omega)
      · exact up2 hN (s_c61 hh (nA (by decide)) ix iy) (fun _ q => q.1.1) (by omega)
      · exact up2 hN (s_c128 hh (nA (by decide)) ix iy) (fun _ q => q.1.1) (by omega)
      · exact up2 hN (s_c129 hh (nA (by decide)) ix iy) (fun _ q => q.1.1) (by omega)
    · have e : kd = 25 := h1
      subst e
      have h2' : n < nt := h2
      have h4' : o < nt := h4
      exact up2 hN (s_217 (D := E + 1) hT h2' h4' (by omega) (by omega)) (fun _ _ => trivial) (Nat.zero_le _)
    · have e : kd = 26 := h1
      subst e
      have h2' : n < nt := h2
      exact up2 hN (s_218 (D := E + 1) hT h2' (by omega)) (fun _ _ => trivial) (Nat.zero_le _)
    · have e : kd = 27 := h1
      subst e
      have h2' : n < nt := h2
      exact up2 hN (s_213 (D := E + 1) hT h2' (by omega)) (fun _ _ => trivial) (Nat.zero_le _)
    · have e : kd = 28 := h1
      subst e
      have h2' : n < ne := h2
      exact up2 hN (s_219 (D := E + 1) hE h2' (by omega)) (fun _ _ => trivial) (Nat.zero_le _)
    · have e : kd = 29 := h1
      subst e
      cases h3
      exact up2 hN (s_not (s_br n93 (rd_B hN hE hT hne hnt k x hx E (by omega)))) (fun _ _ => trivial) (by omega)
    · have e : kd = 30 ∨ kd = 31 := h1
      cases h3
      have px := s_br n93 (rd_B hN hE hT hne hnt k x hx (E + 1) (by omega))
      have py := s_br n93 (rd_B hN hE hT hne hnt k y hy (E + 1) (by omega))
      rcases e with rfl | rfl
      · show Rd tk ts tn tw w1 w2 N ne nt ep 0 (E + 4) (tkB (0, 21, 0) (tkT k x) (tkT k y)) ((cdT k x ++ cdT k y) ++ [(221, 0)]) (2 * (k + 1)) no0
        rw [tkB_e]
        exact (Rd.lift0 hN (Rd.bin1_221 (n1 := any) hN rfl trivial px (py.nx (n2 := no0) (fun _ _ => trivial)) (fun _ q => q.1.2)) (fun _ q => q.2)).dd (by omega)
      · show Rd tk ts tn tw w1 w2 N ne nt ep 0 (E + 4) (tkB (0, 22, 0) (tkT k x) (tkT k y)) ((cdT k x ++ cdT k y) ++ [(222, 0)]) (2 * (k + 1)) no0
        rw [tkB_e]
        exact (Rd.bin0_222 (n1 := fun c => ¬ c = 221) hN rfl (by decide) (Rd.lift1 hN (px.nx (n2 := fun c => ¬ c = 221) (fun _ _ => trivial)) (fun _ q => q)) (Rd.lift1 hN (py.nx (n2 := no0) (fun _ _ => trivial)) (fun _ q => q.1.2)) (fun _ q => q.2)).dd (by omega)
end PR
theorem cd_len {ne nt : Nat} : ∀ k T, (TE ne nt k T ∨ TB ne nt k T) → (cdT k T).length + 1 ≤ 2 ^ k
  | 0, T, _ => nomatch T
  | k + 1, ((a, kd, n, o), ta, tb), hT => by
    have hp : 2 ^ (k + 1) = 2 ^ k + 2 ^ k := by rw [Nat.pow_succ]; omega
    have hp1 : 0 < 2 ^ k := Nat.two_pow_pos k
    have one : ∀ p : Int32 × Int32, [p].length + 1 ≤ 2 ^ (k + 1) := fun p => by show 2 ≤ 2 ^ (k + 1); omega
    rcases tr_kids hT with ⟨rfl, h1⟩ | rfl | rfl | rfl | ⟨rfl, h1⟩ | ⟨rfl, h1⟩ | ⟨h0, x, rfl, hx⟩ | ⟨h0, x, y, rfl, rfl, hx, hy⟩ | ⟨rfl, h1, h2⟩ | ⟨rfl, h1⟩ | ⟨rfl, h1⟩ | ⟨rfl, h1⟩
    · exact one _
    · exact one _
    · exact one _
    · exact one _
    · exact one _
    · exact one _
    · have ix := cd_len k x hx
      have e : ∀ p : Int32 × Int32, (cdT k x ++ [p]).length + 1 ≤ 2 ^ (k + 1) := fun p => by
        rw [List.length_append]
        show (cdT k x).length + 1 + 1 ≤ _
        omega
      rcases h0 with rfl | rfl
      · exact e _
      · exact e _
    · have ix := cd_len k x hx
      have iy := cd_len k y hy
      have e : ∀ p : Int32 × Int32, ((cdT k x ++ cdT k y) ++ [p]).length + 1 ≤ 2 ^ (k + 1) := fun p => by
        rw [List.length_append, List.length_append]
        show (cdT k x).length + (cdT k y).length + 1 + 1 ≤ _
        omega
      rcases h0 with rfl | rfl | rfl | rfl | rfl | rfl | rfl | rfl | rfl | rfl | rfl | rfl | rfl <;> exact e _
    · exact one _
    · exact one _
    · exact one _
    · exact one _
