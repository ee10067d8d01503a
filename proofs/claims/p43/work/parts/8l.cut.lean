/-! one token, and all of them -/
theorem tf {P : Prop} (h : true = false) : P := absurd h (by decide)
theorem sym_lt {b : Nat} (h : symB b = true) : b < 256 := by
  unfold symB at h
  simp at h
  omega
theorem sym_f : ∀ b, b < 256 → symB b = true → f_To_isLetter (nI b) = 0 ∧ f_To_isDigit (nI b) = 0 ∧ ¬ nI b = 32 ∧ ¬ nI b = 10 ∧ (nI b = 61 → b = 61) ∧ (nI b = 60 → b = 60) ∧ (nI b = 62 → b = 62) := by decide +kernel
theorem dg_l {c : Int32} (h : f_To_isDigit c = 1) : f_To_isLetter c = 0 ∧ ¬ c = 32 ∧ ¬ c = 10 ∧ ¬ c = 61 := by
  unfold f_To_isDigit at h
  split at h
  · exact absurd h (by decide)
  · rename_i h1
    split at h
    · exact absurd h (by decide)
    · rename_i h2
      refine ⟨if_pos (Int32.lt_of_le_of_lt (Int32.not_lt.mp h2) (by decide)), ?_, ?_, ?_⟩
      · intro e; subst e; exact h1 (by decide)
      · intro e; subst e; exact h1 (by decide)
      · intro e; subst e; exact h2 (by decide)
theorem le_b {c : Int32} (h : f_To_isLetter c = 1) : ¬ c = 32 ∧ ¬ c = 10 ∧ ¬ c = 61 := by
  refine ⟨?_, ?_, ?_⟩ <;> (intro e; subst e; exact absurd h (by decide))
theorem dg_hd {v : Nat} (h : v < 1000000) : f_To_isDigit ((dgL v).getD 0 0) = 1 := of_decide_eq_true ((dg_fact 6 v (Nat.le_refl _) h).1 0 (dgL_pos v))
theorem tk_len {a : Tok} (h : okT a = true) : 0 < (spl a).length := by
  obtain ⟨t, v, b⟩ := a
  match t with
  | 0 => exact (kw_al v (of_decide_eq_true h)).2.1
  | 1 => exact (by decide : 0 < 2)
  | 2 => exact (by decide : 0 < 2)
  | 3 => exact dgL_pos v
  | 4 => exact (by decide : 0 < 1)
  | 5 => exact (by decide : 0 < 2)
  | t + 6 => exact (by decide : 0 < 2)
theorem tk_hd {a : Tok} (h : okT a = true) : ¬ (spl a).getD 0 0 = 32 ∧ ¬ (spl a).getD 0 0 = 10 ∧ (isW a = false → alB ((spl a).getD 0 0) = false) ∧ (isE a = false → ¬ (spl a).getD 0 0 = 61) := by
  obtain ⟨t, v, b⟩ := a
  match t with
  | 0 =>
    obtain ⟨h1, h2, h3⟩ := le_b (kw_al v (of_decide_eq_true h)).2.2.1
    exact ⟨h1, h2, fun q => tf q, fun _ => h3⟩
  | 1 => exact ⟨(by decide : ¬ (101 : Int32) = 32), (by decide : ¬ (101 : Int32) = 10), fun q => tf q, fun _ => (by decide : ¬ (101 : Int32) = 61)⟩
  | 2 => exact ⟨(by decide : ¬ (116 : Int32) = 32), (by decide : ¬ (116 : Int32) = 10), fun q => tf q, fun _ => (by decide : ¬ (116 : Int32) = 61)⟩
  | 3 =>
    obtain ⟨-, h1, h2, h3⟩ := dg_l (dg_hd (of_decide_eq_true h))
    exact ⟨h1, h2, fun q => tf q, fun _ => h3⟩
  | 4 =>
    obtain ⟨h1, h2, h3, h4, h5, -⟩ := sym_f v (sym_lt h) h
    refine ⟨h3, h4, fun _ => ?_, fun q e => ?_⟩
    · show (decide (f_To_isLetter (nI v) = 1) || decide (f_To_isDigit (nI v) = 1)) = false
      rw [h1, h2]
      rfl
    · rw [h5 e] at q
      exact tf q
  | 5 => exact ⟨(by decide : ¬ (60 : Int32) = 32), (by decide : ¬ (60 : Int32) = 10), fun _ => (by decide : alB (60 : Int32) = false), fun _ => (by decide : ¬ (60 : Int32) = 61)⟩
  | t + 6 => exact ⟨(by decide : ¬ (62 : Int32) = 32), (by decide : ¬ (62 : Int32) = 10), fun _ => (by decide : alB (62 : Int32) = false), fun _ => (by decide : ¬ (62 : Int32) = 61)⟩
section TK
variable {xt : Nat → Int32} {sz N p : Nat} {K : Nat → Int64}
theorem t_next {a : Tok} (ha : okT a = true) (hK : ∀ k, k < 25 → K k = hsh (kwT k)) (hz : sz ≤ 2000) (hL : Ly xt p (spl a)) (hs : p + (spl a).length ≤ sz) (hstop : p + (spl a).length < sz → (isW a = true → alB (xt (p + (spl a).length)) = false) ∧ (isL a = true → ¬ xt (p + (spl a).length) = 61)) (hN : 2000 < N) (num : Int32) (word : Int64) :
    ∃ num2 word2, f_To_nextKind N xt (nI sz) (nI p) num word 25 K = some (kd a, nI (p + (spl a).length), num2, word2) ∧ (a.1 = 3 → num2 = nI a.2.1) ∧ (a.1 = 1 ∨ a.1 = 2 → word2 = hsh (spl a)) := by
  have hp := tk_len ha
  have hx : xt p = (spl a).getD 0 0 := hL 0 hp
  have hlt : p < sz := by omega
  have b2 : rget 2000 xt (nI p) = (spl a).getD 0 0 := by rw [rg (by omega) (by decide)]; exact hx
  have eK : ∀ h, nfind 25 K 25 h = nfind 25 (fun j => hsh (kwT j)) 25 h := fun h => nfF_c 25 0 (fun k _ h => hK k (by omega))
  obtain ⟨t, v, b⟩ := a
  have name : ∀ c : Int32, c = 101 ∨ c = 116 → v < 10 → ∀ (hc : spl (t, v, b) = [c, nI (48 + v)]) (hw : isW (t, v, b) = true), kd (t, v, b) = 130 → ¬ t = 3 → ∃ num2 word2, f_To_nextKind N xt (nI sz) (nI p) num word 25 K = some (kd (t, v, b), nI (p + (spl (t, v, b)).length), num2, word2) ∧ ((t, v, b).1 = 3 → num2 = nI (t, v, b).2.1) ∧ ((t, v, b).1 = 1 ∨ (t, v, b).1 = 2 → word2 = hsh (spl (t, v, b))) := by
    intro c hc hv e1 hw e2 e3
    have hl : f_To_isLetter c = 1 := by rcases hc with rfl | rfl <;> decide
    have w1 := t_word (K := K) hz hL hs (by
      rw [e1]
      intro j hj
      match j, hj with
      | 0, _ =>
        show alB c = true
        rcases hc with rfl | rfl <;> decide
      | 1, _ => exact (nm_al v hv).1
      | j + 2, hj => exact absurd hj (by show ¬ j + 2 < 2; omega)) (fun h5 => (hstop h5).1 hw) (by rw [e1]; exact (by decide : 2 ≤ 10)) hN word
    have w2 : nfind 25 K 25 (hsh (spl (t, v, b))) < 0 := by
      rw [eK, e1]
      rcases hc with rfl | rfl
      · exact (kw_no v hv).1
      · exact (kw_no v hv).2
    rw [if_pos w2] at w1
    refine ⟨num, hsh (spl (t, v, b)), ?_, fun h => absurd h e3, fun _ => rfl⟩
    unfold f_To_nextKind
    rw [if_pos (nI_lt hlt (by omega)), b2, e1]
    show (if f_To_isLetter c = 0 then _ else _) = _
    rw [hl, if_neg n10, w1, oB_s, e2, e1]
  match t with
  | 0 =>
    have hv : v < 25 := of_decide_eq_true ha
    obtain ⟨k1, k2, k3, k4⟩ := kw_al v hv
    have w1 := t_word (K := K) (l := kwT v) hz hL hs k4 (fun h5 => (hstop h5).1 rfl) k1 hN word
    rw [eK, kw_at v hv, if_neg (kw_nn v hv)] at w1
    refine ⟨num, hsh (kwT v), ?_, fun h => absurd h (show ¬ 0 = 3 by decide), fun h => absurd h (show ¬ (0 = 1 ∨ 0 = 2) by decide)⟩
    unfold f_To_nextKind
    rw [if_pos (nI_lt hlt (by omega)), b2]
    show (if f_To_isLetter ((kwT v).getD 0 0) = 0 then _ else _) = _
    rw [k3, if_neg n10, w1, oB_s]
    rfl
  | 1 => exact name 101 (Or.inl rfl) (of_decide_eq_true ha) rfl rfl rfl (by decide)
  | 2 => exact name 116 (Or.inr rfl) (of_decide_eq_true ha) rfl rfl rfl (by decide)
  | 3 =>
    have hv : v < 1000000 := of_decide_eq_true ha
    obtain ⟨k1, k2⟩ := dg_fact 6 v (Nat.le_refl _) hv
    have d1 := dg_hd hv
    have w1 := t_num (l := dgL v) hz hL hs k1 (fun h5 => (alB_f ((hstop h5).1 rfl)).2) (dgL_6 hv) hN num
    refine ⟨nI v, word, ?_, fun _ => rfl, fun h => absurd h (show ¬ (3 = 1 ∨ 3 = 2) by decide)⟩
    unfold f_To_nextKind
    rw [if_pos (nI_lt hlt (by omega)), b2]
    show (if f_To_isLetter ((dgL v).getD 0 0) = 0 then (if f_To_isDigit ((dgL v).getD 0 0) = 0 then _ else _) else _) = _
    rw [(dg_l d1).1, if_pos rfl, d1, if_neg n10, w1, oB_s, k2]
    rfl
  | 4 =>
    have hv : symB v = true := ha
    obtain ⟨f1, f2, f3, f4, f5, f6, f7⟩ := sym_f v (sym_lt hv) hv
    obtain ⟨vs, s1, s2⟩ := symN (N := N) (sym_lt hv) (by omega)
    have g6 : ¬ vs < 0 := fun h5 => by have := s2.mp h5; rw [hv] at this; cases this
    refine ⟨num, word, ?_, fun h => absurd h (show ¬ 4 = 3 by decide), fun h => absurd h (show ¬ (4 = 1 ∨ 4 = 2) by decide)⟩
    have no : (v = 60 ∨ v = 62) → ¬ nI sz ≤ nI (p + 1) → ¬ rget 2000 xt (nI (p + 1)) = 61 := by
      intro h1 h2 h3
      have h4 : p + 1 < sz := Nat.lt_of_not_le (fun h5 => h2 (nI_le h5 (by omega)))
      rw [rg (by omega) (by decide)] at h3
      refine (hstop h4).2 ?_ h3
      rcases h1 with rfl | rfl <;> rfl
    have b3 : rget 2000 xt (nI p) = nI v := b2
    unfold f_To_nextKind
    rw [if_pos (nI_lt hlt (by omega)), b3]
    show (if f_To_isLetter (nI v) = 0 then (if f_To_isDigit (nI v) = 0 then (if nI v = (60 : Int32) then _ else (if nI v = (62 : Int32) then _ else oB none (f_J0_indexOf_0f7a4 N 12 ((nI v).toUInt32 % 65536).toInt32) _)) else _) else _) = some (nI v, nI (p + 1), num, word)
    rw [f1, if_pos rfl, f2, if_pos rfl, s1]
    simp only [oB_s, ← nI_succ, if_neg g6]
    by_cases g1 : nI v = 60
    · rw [if_pos g1]
      by_cases g2 : nI sz ≤ nI (p + 1)
      · rw [if_pos g2]
      · rw [if_neg g2, if_neg (no (Or.inl (f6 g1)) g2)]
    · rw [if_neg g1]
      by_cases g5 : nI v = 62
      · rw [if_pos g5]
        by_cases g2 : nI sz ≤ nI (p + 1)
        · rw [if_pos g2]
        · rw [if_neg g2, if_neg (no (Or.inr (f7 g5)) g2)]
      · rw [if_neg g5]
  | 5 =>
    have h2 : p + 2 ≤ sz := hs
    have e2 : rget 2000 xt (nI (p + 1)) = 61 := by rw [rg (by omega) (by decide)]; exact hL 1 (by decide : 1 < 2)
    refine ⟨num, word, ?_, fun h => absurd h (show ¬ 5 = 3 by decide), fun h => absurd h (show ¬ (5 = 1 ∨ 5 = 2) by decide)⟩
    have b3 : rget 2000 xt (nI p) = 60 := b2
    unfold f_To_nextKind
    rw [if_pos (nI_lt hlt (by omega)), b3]
    show (if f_To_isLetter (60 : Int32) = 0 then (if f_To_isDigit (60 : Int32) = 0 then (if (60 : Int32) = (60 : Int32) then (if nI sz ≤ (nI p + (1 : Int32)) then _ else (if rget 2000 xt (nI p + (1 : Int32)) = 61 then (if (60 : Int32) = (60 : Int32) then _ else _) else _)) else _) else _) else _) = some (128, nI (p + 2), num, word)
    rw [if_pos (by decide), if_pos (by decide), if_pos rfl, ← nI_succ, if_neg (nI_ge (show p + 1 < sz by omega) (by omega)), e2, if_pos rfl, if_pos rfl, ← nI_succ]
  | t + 6 =>
    have h2 : p + 2 ≤ sz := hs
    have e2 : rget 2000 xt (nI (p + 1)) = 61 := by rw [rg (by omega) (by decide)]; exact hL 1 (by decide : 1 < 2)
    refine ⟨num, word, ?_, fun h => absurd h (show ¬ t + 6 = 3 by omega), fun h => absurd h (show ¬ (t + 6 = 1 ∨ t + 6 = 2) by omega)⟩
    have b3 : rget 2000 xt (nI p) = 62 := b2
    unfold f_To_nextKind
    rw [if_pos (nI_lt hlt (by omega)), b3]
    show (if f_To_isLetter (62 : Int32) = 0 then (if f_To_isDigit (62 : Int32) = 0 then (if (62 : Int32) = (60 : Int32) then _ else (if (62 : Int32) = (62 : Int32) then (if nI sz ≤ (nI p + (1 : Int32)) then _ else (if rget 2000 xt (nI p + (1 : Int32)) = 61 then (if (62 : Int32) = (60 : Int32) then _ else _) else _)) else _)) else _) else _) = some (129, nI (p + 2), num, word)
    rw [if_pos (by decide), if_pos (by decide), if_neg (by decide), if_pos rfl, ← nI_succ, if_neg (nI_ge (show p + 1 < sz by omega) (by omega)), e2, if_pos rfl, if_neg (by decide), ← nI_succ]
theorem t_stop {a z : Tok} {r : List Tok} (h : gz (a :: r) z = true) (hL : Ly xt p (fl (a :: r))) (hs : p + (fl (a :: r)).length = sz) :
    (p + (spl a).length < sz → (isW a = true → alB (xt (p + (spl a).length)) = false) ∧ (isL a = true → ¬ xt (p + (spl a).length) = 61)) ∧ (∀ j, p + (spl a).length ≤ j → j < p + (tkb a).length → xt j = 32 ∨ xt j = 10) ∧ (p + (tkb a).length < sz → ¬ xt (p + (tkb a).length) = 32 ∧ ¬ xt (p + (tkb a).length) = 10) := by
  have h0 : (okT a = true ∧ okN a (r.headD z) = true) ∧ gz r z = true := by
    have h1 : (okT a && okN a (r.headD z) && gz r z) = true := h
    simpa only [Bool.and_eq_true] using h1
  obtain ⟨⟨-, h2⟩, h3⟩ := h0
  have hL1 : Ly xt p (tkb a ++ fl r) := hL
  have hs1 : p + ((tkb a).length + (fl r).length) = sz := by rw [← List.length_append]; exact hs
  have e1 : (tkb a).length = (spl a).length + (blk a).length := List.length_append
  have hB : Ly xt (p + (spl a).length) (blk a) := Ly.right (Ly.left hL1)
  have hR : Ly xt (p + (tkb a).length) (fl r) := Ly.right hL1
  have hn : p + (tkb a).length < sz → ∃ b r2, r = b :: r2 ∧ okT b = true ∧ xt (p + (tkb a).length) = (spl b).getD 0 0 := by
    intro h5
    cases r with
    | nil =>
      have : (fl ([] : List Tok)).length = 0 := rfl
      omega
    | cons b r2 =>
      have h6 : (okT b && okN b (r2.headD z) && gz r2 z) = true := h3
      simp only [Bool.and_eq_true] at h6
      exact ⟨b, r2, rfl, h6.1.1, (Ly.left (Ly.left hR)) 0 (tk_len h6.1.1)⟩
  have hlast : p + (tkb a).length < sz → ¬ xt (p + (tkb a).length) = 32 ∧ ¬ xt (p + (tkb a).length) = 10 := by
    intro h5
    obtain ⟨b, r2, rfl, h6, h7⟩ := hn h5
    obtain ⟨t1, t2, -⟩ := tk_hd h6
    rw [h7]
    exact ⟨t1, t2⟩
  obtain ⟨t, v, b⟩ := a
  match b with
  | 0 =>
    have e2 : (tkb (t, v, 0)).length = (spl (t, v, 0)).length := e1
    refine ⟨fun h5 => ?_, fun j h5 h6 => by omega, hlast⟩
    rw [← e2] at h5 ⊢
    obtain ⟨b, r2, rfl, h6, h7⟩ := hn h5
    obtain ⟨-, -, t3, t4⟩ := tk_hd h6
    have h8 : (!(isW (t, v, 0) && isW b) && !(isL (t, v, 0) && isE b)) = true := h2
    simp only [Bool.and_eq_true, Bool.not_eq_true', Bool.and_eq_false_iff] at h8
    rw [h7]
    exact ⟨fun h9 => t3 (h8.1.resolve_left (by rw [h9]; decide)), fun h9 => t4 (h8.2.resolve_left (by rw [h9]; decide))⟩
  | 1 =>
    have e2 : (tkb (t, v, 1)).length = (spl (t, v, 1)).length + 1 := e1
    have h6 : xt (p + (spl (t, v, 1)).length) = 32 := Ly.hd hB
    refine ⟨fun _ => ?_, fun j h7 h8 => ?_, hlast⟩
    · rw [h6]
      exact ⟨fun _ => by decide, fun _ => by decide⟩
    · rw [show j = p + (spl (t, v, 1)).length by omega]
      exact Or.inl h6
  | b + 2 =>
    have e2 : (tkb (t, v, b + 2)).length = (spl (t, v, b + 2)).length + 1 := e1
    have h6 : xt (p + (spl (t, v, b + 2)).length) = 10 := Ly.hd hB
    refine ⟨fun _ => ?_, fun j h7 h8 => ?_, hlast⟩
    · rw [h6]
      exact ⟨fun _ => by decide, fun _ => by decide⟩
    · rw [show j = p + (spl (t, v, b + 2)).length by omega]
      exact Or.inr h6
/-- what the rows of tokens say -/
def Tks (tk tn : Nat → Int32) (tw : Nat → Int64) : Nat → List Tok → Prop
  | _, [] => True
  | i, a :: r => (tk i = kd a ∧ (a.1 = 3 → tn i = nI a.2.1) ∧ (a.1 = 1 ∨ a.1 = 2 → tw i = hsh (spl a))) ∧ Tks tk tn tw (i + 1) r
theorem Tks.app {tk tn : Nat → Int32} {tw : Nat → Int64} : ∀ x y i, Tks tk tn tw i (x ++ y) → Tks tk tn tw i x ∧ Tks tk tn tw (i + x.length) y
  | [], _, _, h => ⟨trivial, h⟩
  | a :: r, y, i, h => by
    obtain ⟨h1, h2⟩ := h
    obtain ⟨h3, h4⟩ := Tks.app r y (i + 1) h2
    refine ⟨⟨h1, h3⟩, ?_⟩
    show Tks tk tn tw (i + (r.length + 1)) y
    rw [show i + (r.length + 1) = i + 1 + r.length by omega]
    exact h4
theorem kd_ne {a : Tok} (h : okT a = true) : ¬ kd a = 132 ∧ ¬ kd a = 133 := by
  obtain ⟨t, v, b⟩ := a
  match t with
  | 0 => exact (by decide +kernel : ∀ v, v < 25 → ¬ (200 + nI v : Int32) = 132 ∧ ¬ (200 + nI v : Int32) = 133) v (of_decide_eq_true h)
  | 1 => exact (by decide : ¬ (130 : Int32) = 132 ∧ ¬ (130 : Int32) = 133)
  | 2 => exact (by decide : ¬ (130 : Int32) = 132 ∧ ¬ (130 : Int32) = 133)
  | 3 => exact (by decide : ¬ (131 : Int32) = 132 ∧ ¬ (131 : Int32) = 133)
  | 4 => exact (by decide +kernel : ∀ v, v < 256 → symB v = true → ¬ (nI v : Int32) = 132 ∧ ¬ (nI v : Int32) = 133) v (sym_lt h) h
  | 5 => exact (by decide : ¬ (128 : Int32) = 132 ∧ ¬ (128 : Int32) = 133)
  | t + 6 => exact (by decide : ¬ (129 : Int32) = 132 ∧ ¬ (129 : Int32) = 133)
theorem t_step {i s e : Nat} (hi : i < 400) {k0 num num2 kk : Int32} {word word2 : Int64} {q : Int32} {ks ss ns : Nat → Int32} {ws : Nat → Int64} (h1 : ¬ k0 = 132) (h2 : ¬ k0 = 133) (hb : f_To_skipBlanks N xt (nI sz) q = some (nI s)) (hk : f_To_nextKind N xt (nI sz) (nI s) num word 25 K = some (kk, nI e, num2, word2)) :
    f_To_split_L16 N xt 25 K (nI sz) (k0, nI i, q, num, word, ks, ss, ns, ws) = .inl (kk, nI (i + 1), nI e, num2, word2, upd ks i kk, upd ss i (nI s), upd ns i num2, vp_updL ws i word2) := by
  have ne : ¬ nI i = 400 := fun h => by
    have h5 : nI i < 400 := nI_lt (b := 400) hi (by decide)
    rw [h] at h5
    exact absurd h5 (by decide)
  unfold f_To_split_L16
  simp only [if_neg (show ¬ (400 : Int32) < nI i from nI_nlt (a := 400) (by omega) (by decide)), if_neg h1, if_neg h2, hb, hk, oB_s, if_neg ne, if_neg (show ¬ (401 : Int32) ≤ nI i from nI_ge (b := 401) (by omega) (by decide)), ib_nI (show i < 401 by omega) (show 401 < 2147483648 by decide), if_true, nI_clamp (show i < 2 ^ 31 by omega), rs (show i < 401 by omega) (show 401 < 2147483648 by decide), ← nI_succ]
theorem t_cut (hK : ∀ k, k < 25 → K k = hsh (kwT k)) (hz : sz ≤ 2000) (hN : 2000 < N) {z : Tok} : ∀ (ts : List Tok) (i p q n : Nat) (k0 num : Int32) (word : Int64) (ks ss ns : Nat → Int32) (ws : Nat → Int64), gz ts z = true → Ly xt p (fl ts) → p + (fl ts).length = sz → i + ts.length < 400 → ts.length + 1 < n → ¬ k0 = 132 → ¬ k0 = 133 → f_To_skipBlanks N xt (nI sz) (nI q) = some (nI p) →
    ∃ pl nu wo k2 s2 n2 w2, lpS (f_To_split_L16 N xt 25 K (nI sz)) none n (k0, nI i, nI q, num, word, ks, ss, ns, ws) = some (nI sz, pl, nu, wo, k2, s2, n2, w2) ∧ (∀ j, j < i → k2 j = ks j ∧ n2 j = ns j ∧ w2 j = ws j) ∧ Tks k2 n2 w2 i ts ∧ k2 (i + ts.length) = 132 := by
  intro ts
  induction ts with
  | nil =>
    intro i p q n k0 num word ks ss ns ws _ _ hs hi hn g1 g2 hb
    have e : p = sz := hs
    subst e
    have hi2 : i < 400 := hi
    have hk : f_To_nextKind N xt (nI p) (nI p) num word 25 K = some (132, nI p, num, word) := by
      unfold f_To_nextKind
      rw [if_neg (nI_nlt (Nat.le_refl _) (by omega))]
    have hst := t_step (sz := p) hi2 (ks := ks) (ss := ss) (ns := ns) (ws := ws) g1 g2 hb hk
    obtain ⟨n, rfl⟩ : ∃ m, n = m + 2 := ⟨n - 2, by have : 1 < n := hn; omega⟩
    rw [lp_in hst]
    refine ⟨_, _, _, _, _, _, _, lp_out (t := some (nI p, nI p, num, word, upd ks i 132, upd ss i (nI p), upd ns i num, vp_updL ws i word)) ?_, fun j hj => ⟨upd_ne (by omega), upd_ne (by omega), by unfold vp_updL; rw [if_neg (by omega)]⟩, trivial, upd_at⟩
    unfold f_To_split_L16
    by_cases h4 : (400 : Int32) < nI (i + 1)
    · rw [if_pos h4]
    · rw [if_neg h4, if_pos rfl]
  | cons a r ih =>
    intro i p q n k0 num word ks ss ns ws hg hL hs hi hn g1 g2 hb
    have hi2 : i + (r.length + 1) < 400 := hi
    have hn2 : r.length + 1 + 1 < n := hn
    have h0 : (okT a = true ∧ okN a (r.headD z) = true) ∧ gz r z = true := by
      have h1 : (okT a && okN a (r.headD z) && gz r z) = true := hg
      simpa only [Bool.and_eq_true] using h1
    obtain ⟨⟨ha, -⟩, hr⟩ := h0
    obtain ⟨c1, c2, c3⟩ := t_stop hg hL hs
    have hL1 : Ly xt p (tkb a ++ fl r) := hL
    have hs1 : p + ((tkb a).length + (fl r).length) = sz := by rw [← List.length_append]; exact hs
    have e1 : (tkb a).length = (spl a).length + (blk a).length := List.length_append
    obtain ⟨num2, word2, hk, k3, k4⟩ := t_next ha hK hz (Ly.left (Ly.left hL1)) (by omega) c1 hN num word
    have hst := t_step (show i < 400 by omega) (ks := ks) (ss := ss) (ns := ns) (ws := ws) g1 g2 hb hk
    obtain ⟨n, rfl⟩ : ∃ m, n = m + 1 := ⟨n - 1, by omega⟩
    rw [lp_in hst]
    have hb2 : f_To_skipBlanks N xt (nI sz) (nI (p + (spl a).length)) = some (nI (p + (tkb a).length)) := t_blank hz (by omega) (by omega) c2 c3 hN
    obtain ⟨kn1, kn2⟩ := kd_ne ha
    obtain ⟨pl, nu, wo, k2, s2, n2, w2, r1, r2, r3, r4⟩ := ih (i + 1) (p + (tkb a).length) (p + (spl a).length) n (kd a) num2 word2 _ _ _ _ hr (Ly.right hL1) (by omega) (by omega) (by omega) kn1 kn2 hb2
    refine ⟨pl, nu, wo, k2, s2, n2, w2, r1, fun j hj => ?_, ⟨?_, r3⟩, ?_⟩
    · obtain ⟨u1, u2, u3⟩ := r2 j (by omega)
      rw [u1, u2, u3]
      exact ⟨upd_ne (by omega), upd_ne (by omega), by unfold vp_updL; rw [if_neg (by omega)]⟩
    · obtain ⟨u1, u2, u3⟩ := r2 i (by omega)
      refine ⟨by rw [u1]; exact upd_at, fun h => by rw [u2, upd_at]; exact k3 h, fun h => by rw [u3, ← k4 h]; unfold vp_updL; rw [if_pos rfl]⟩
    · show k2 (i + (r.length + 1)) = 132
      rw [show i + (r.length + 1) = i + 1 + r.length by omega]
      exact r4
end TK
