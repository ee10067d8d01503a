/-! what the law says, of the Sim's own numbers -/
theorem CI.ac {g : GG} {ad : Nat → Nat} {w : va_W} {ne nt d : Nat} {cl : List (Nat → Int32)} {os : List OT} {ev cr : Int32} (h : CI g ad w ne nt cl os d ev cr) : ∃ A, AcS cl A := by
  obtain ⟨xi, xa, xj, xb, -, h1, h2, h3, h4, h5, h6, -, -, -, -, -, -, -, A, hw, -⟩ := h
  exact ⟨A, hw.2.1⟩
theorem CI.or {g : GG} {ad : Nat → Nat} {w : va_W} {ne nt d : Nat} {cl : List (Nat → Int32)} {os : List OT} {ev cr : Int32} (h : CI g ad w ne nt cl os d ev cr) : ∀ n q, q.1 < 1024 → (evS cl nt os n q).1 < 1024 := by
  obtain ⟨xi, xa, xj, xb, -, h1, h2, h3, h4, h5, h6, -, -, -, -, -, -, ho, -⟩ := h
  exact evS_lt ho (by omega)
section LF
variable {cl : List (Nat → Int32)} {A : Nat → Nat} {d nt : Nat}
theorem li_in (hA : AcS cl A) (hn : nt ≤ 10) : (LIs cl d nt).1 ∈ lvs cl d nt nt 0 ∧ (LIs cl d nt).2.2 = pcN (LIs cl d nt).1 ∧ (∀ z ∈ lvs cl d nt nt 0, (LIs cl d nt).2.2 ≤ pcN z) ∧ (LIs cl d nt).2.1 = ((lvs cl d nt nt 0).filter (fun x => pcN x == (LIs cl d nt).2.2)).length ∧ 0 < (LIs cl d nt).2.1 := by
  obtain ⟨h1, h2, h3, h4, h5⟩ := dcd_same (d := d) hA hn
  show (dcd cl d nt nt 0 (0, 0, 99)).1 ∈ _ ∧ (dcd cl d nt nt 0 (0, 0, 99)).2.2 = pcN (dcd cl d nt nt 0 (0, 0, 99)).1 ∧ (∀ z ∈ lvs cl d nt nt 0, (dcd cl d nt nt 0 (0, 0, 99)).2.2 ≤ pcN z) ∧ (dcd cl d nt nt 0 (0, 0, 99)).2.1 = ((lvs cl d nt nt 0).filter (fun x => pcN x == (dcd cl d nt nt 0 (0, 0, 99)).2.2)).length ∧ 0 < (dcd cl d nt nt 0 (0, 0, 99)).2.1
  rw [h1]
  exact ⟨h3, rfl, h4, h5, h2⟩
/-- the believed who are not in x -/
theorem rest_iff {x k : Nat} : (dif (belN nt d) x).testBit k = true ↔ k < nt ∧ d.testBit k = false ∧ x.testBit k = false := by
  rw [dif_bit, bel_bit, Bool.and_eq_true, Bool.and_eq_true, decide_eq_true_eq, Bool.not_eq_true', Bool.not_eq_true', and_assoc]
/-- a set is enough -/
theorem lv_iff (hA : AcS cl A) (hn : nt ≤ 10) {x : Nat} : x ∈ lvs cl d nt nt 0 ↔ ((∀ k, x.testBit k = true → k < nt ∧ d.testBit k = false) ∧ ∀ a b, a < nt → b < nt → d.testBit a = false → d.testBit b = false → x.testBit a = false → x.testBit b = false → cfS cl a b = false) := by
  rw [lvs_all hA hn, ext_iff_dif, en_iff]
  constructor
  · rintro ⟨h1, h2⟩
    refine ⟨fun k hk => ?_, fun a b ha hb da db xa xb => ?_⟩
    · have := h1 k hk
      rw [bel_bit, Bool.and_eq_true, decide_eq_true_eq, Bool.not_eq_true'] at this
      exact this
    · rw [← hA a b (by omega) (by omega)]
      exact h2 a ha (rest_iff.mpr ⟨ha, da, xa⟩) b (rest_iff.mpr ⟨hb, db, xb⟩)
  · rintro ⟨h1, h2⟩
    refine ⟨fun k hk => ?_, fun t ht ht2 j hj => ?_⟩
    · rw [bel_bit, Bool.and_eq_true, decide_eq_true_eq, Bool.not_eq_true']
      exact h1 k hk
    · obtain ⟨-, dt, xt⟩ := rest_iff.mp ht2
      obtain ⟨jn, dj, xj⟩ := rest_iff.mp hj
      rw [hA t j (by omega) (by omega)]
      exact h2 t j ht jn dt dj xt xj
theorem con_iff {a b : Nat} : conS cl d a b = true ↔ d.testBit a = false ∧ d.testBit b = false ∧ cfS cl a b = true := by
  rw [conS_cf, Bool.and_eq_true, Bool.and_eq_true, Bool.not_eq_true', Bool.not_eq_true', and_assoc]
/-- no two truthful tellers contradict each other -/
theorem f_truth (hA : AcS cl A) (hn : nt ≤ 10) {a b : Nat} (ha : a < nt) (hb : b < nt) (h : conS cl d a b = true) : (LIs cl d nt).1.testBit a = true ∨ (LIs cl d nt).1.testBit b = true := by
  obtain ⟨h1, -⟩ := li_in (d := d) hA hn
  obtain ⟨-, h2⟩ := (lv_iff hA hn).mp h1
  obtain ⟨da, db, hc⟩ := con_iff.mp h
  cases xa : (LIs cl d nt).1.testBit a with
  | true => exact Or.inl rfl
  | false =>
    cases xb : (LIs cl d nt).1.testBit b with
    | true => exact Or.inr rfl
    | false =>
      rw [h2 a b ha hb da db xa xb] at hc
      cases hc
theorem f_bel (hA : AcS cl A) (hn : nt ≤ 10) {a : Nat} (h : (LIs cl d nt).1.testBit a = true) : a < nt ∧ d.testBit a = false := by
  obtain ⟨h1, -⟩ := li_in (d := d) hA hn
  exact ((lv_iff hA hn).mp h1).1 a h
theorem li_10 (hA : AcS cl A) (hn : nt ≤ 10) : (LIs cl d nt).1 < 2 ^ nt := by
  obtain ⟨h1, -⟩ := li_in (d := d) hA hn
  rw [lvs_all hA hn] at h1
  exact Nat.lt_of_le_of_lt (le_of_dif h1.1) bel_lt
theorem p10 (hn : nt ≤ 10) : 2 ^ nt ≤ 1024 := (Nat.pow_le_pow_right (by decide) hn : 2 ^ nt ≤ 2 ^ 10)
/-- each liar is needed -/
theorem f_need (hA : AcS cl A) (hn : nt ≤ 10) {a : Nat} (h : (LIs cl d nt).1.testBit a = true) : conS cl d a a = true ∨ ∃ b, b < nt ∧ ¬ b = a ∧ conS cl d a b = true ∧ (LIs cl d nt).1.testBit b = false := by
  obtain ⟨h1, h2, h3, -⟩ := li_in (d := d) hA hn
  obtain ⟨g1, g2⟩ := (lv_iff hA hn).mp h1
  have hlt := li_10 (d := d) hA hn
  have hp := p10 hn
  obtain ⟨an, da⟩ := g1 a h
  generalize (LIs cl d nt).1 = L at *
  by_cases hx : dif L (2 ^ a) ∈ lvs cl d nt nt 0
  · have := h3 _ hx
    have h9 := pc_less L (by omega) a (by omega) h
    omega
  · have hbit : ∀ k, (dif L (2 ^ a)).testBit k = (L.testBit k && !decide (a = k)) := fun k => by rw [dif_bit, Nat.testBit_two_pow]
    have hx2 : ¬ ∀ p q, p < nt → q < nt → d.testBit p = false → d.testBit q = false → (dif L (2 ^ a)).testBit p = false → (dif L (2 ^ a)).testBit q = false → cfS cl p q = false := by
      intro h9
      refine hx ((lv_iff hA hn).mpr ⟨fun k hk => ?_, h9⟩)
      rw [hbit, Bool.and_eq_true] at hk
      exact g1 k hk.1
    have key : ∀ p q, p < nt → q < nt → d.testBit p = false → d.testBit q = false → (dif L (2 ^ a)).testBit p = false → (dif L (2 ^ a)).testBit q = false → cfS cl p q = true → p = a ∨ q = a := by
      intro p q hp1 hq1 dp dq xp xq hc
      by_cases e1 : p = a
      · exact Or.inl e1
      · by_cases e2 : q = a
        · exact Or.inr e2
        · have lp : L.testBit p = false := by
            rw [hbit, decide_eq_false (fun e => e1 e.symm)] at xp
            simpa using xp
          have lq : L.testBit q = false := by
            rw [hbit, decide_eq_false (fun e => e2 e.symm)] at xq
            simpa using xq
          rw [g2 p q hp1 hq1 dp dq lp lq] at hc
          cases hc
    have hex : ∃ p q, p < nt ∧ q < nt ∧ d.testBit p = false ∧ d.testBit q = false ∧ (dif L (2 ^ a)).testBit p = false ∧ (dif L (2 ^ a)).testBit q = false ∧ cfS cl p q = true := by
      refine Classical.byContradiction fun hno => hx2 ?_
      intro p q hp1 hq1 dp dq xp xq
      cases hc : cfS cl p q with
      | false => rfl
      | true => exact absurd ⟨p, q, hp1, hq1, dp, dq, xp, xq, hc⟩ hno
    obtain ⟨p, q, hp1, hq1, dp, dq, xp, xq, hc⟩ := hex
    have fin : ∀ q, q < nt → d.testBit q = false → (dif L (2 ^ a)).testBit q = false → cfS cl a q = true → conS cl d a a = true ∨ ∃ b, b < nt ∧ ¬ b = a ∧ conS cl d a b = true ∧ L.testBit b = false := by
      intro q hq1 dq xq hc
      by_cases e : q = a
      · rw [e] at hc
        exact Or.inl (con_iff.mpr ⟨da, da, hc⟩)
      · refine Or.inr ⟨q, hq1, e, con_iff.mpr ⟨da, dq, hc⟩, ?_⟩
        rw [hbit, decide_eq_false (fun e2 => e e2.symm)] at xq
        simpa using xq
    rcases key p q hp1 hq1 dp dq xp xq hc with e | e
    · rw [e] at hc
      exact fin q hq1 dq xq hc
    · rw [e, cfS_sym] at hc
      exact fin p hp1 dp xp hc
theorem f_count (hA : AcS cl A) (hn : nt ≤ 10) : sm nt (fun i => b1 ((LIs cl d nt).1.testBit i)) = (LIs cl d nt).2.2 := by
  have hl := li_10 (d := d) hA hn
  rw [(li_in (d := d) hA hn).2.1, pcS_eq]
  unfold pcS
  rw [sm_ext 10 hn (fun i hi _ => by rw [bits_of_lt hl hi]; rfl)]
theorem f_few (hA : AcS cl A) (hn : nt ≤ 10) : (LIs cl d nt).2.2 ≤ nt := by
  rw [← f_count hA hn]
  have := sm_le nt (fun i => b1 ((LIs cl d nt).1.testBit i)) 1 (fun i _ => b1_le _)
  omega
theorem sm_at {w : Nat} : ∀ n, w < n → sm n (fun i => b1 (decide (w = i))) = 1
  | 0, h => absurd h (Nat.not_lt_zero w)
  | n + 1, h => by
    show sm n _ + b1 (decide (w = n)) = 1
    by_cases e : w = n
    · rw [sm_z n (fun i hi => by rw [decide_eq_false (show ¬ w = i by omega)]; rfl), decide_eq_true e]
      rfl
    · rw [sm_at n (by omega), decide_eq_false e]
      rfl
theorem sm_ones : ∀ n, sm n (fun _ => 1) = n
  | 0 => rfl
  | n + 1 => by
    show sm n _ + 1 = _
    rw [sm_ones n]
theorem f_claims {ne : Nat} (hV : ∀ k, k < cl.length → CV1 ne nt (rw5 cl k)) (hn : nt ≤ 10) : sm nt (fun i => cntS cl (nI i) cl.length) = cl.length := by
  unfold cntS
  rw [sm_comm (fun i j => b1 (decide (rw5 cl j 1 = nI i))) cl.length nt]
  have h : ∀ j, j < cl.length → sm nt (fun i => b1 (decide (rw5 cl j 1 = nI i))) = 1 := by
    intro j hj
    obtain ⟨-, ⟨w, hw, e⟩, -⟩ := hV j hj
    refine (sm_congr nt fun i hi => ?_).trans (sm_at nt hw)
    show b1 (decide (rw5 cl j 1 = nI i)) = b1 (decide (w = i))
    rw [e]
    congr 1
    exact decide_eq_decide.mpr (nI_eq (by omega) (by omega))
  rw [sm_congr cl.length h, sm_ones]
theorem lvs_len {k s : Nat} : (lvs cl d nt k s).length ≤ 2 ^ k := by
  induction k generalizing s with
  | zero => exact Nat.le_refl 1
  | succ k ih =>
    rw [lvs, List.length_append, Nat.pow_succ]
    have h1 : (if canB cl d s (nt - (k + 1)) = true then lvs cl d nt k s else []).length ≤ 2 ^ k := by
      split
      · exact ih
      · exact Nat.zero_le _
    have h2 : (if d.testBit (nt - (k + 1)) = true then [] else lvs cl d nt k (s ||| 2 ^ (nt - (k + 1)))).length ≤ 2 ^ k := by
      split
      · exact Nat.zero_le _
      · exact ih
    omega
theorem f_sets (hA : AcS cl A) (hn : nt ≤ 6) : 1 ≤ (LIs cl d nt).2.1 ∧ (LIs cl d nt).2.1 ≤ 64 := by
  obtain ⟨-, -, -, h4, h5⟩ := li_in (d := d) hA (show nt ≤ 10 by omega)
  refine ⟨h5, ?_⟩
  rw [h4]
  have h1 := List.length_filter_le (fun x => pcN x == (LIs cl d nt).2.2) (lvs cl d nt nt 0)
  have h2 := lvs_len (cl := cl) (d := d) (nt := nt) (k := nt) (s := 0)
  have h3 : 2 ^ nt ≤ 64 := (Nat.pow_le_pow_right (by decide) hn : 2 ^ nt ≤ 2 ^ 6)
  omega
theorem pc_0 : ∀ x, x < 1024 → pcN x = 0 → x = 0 := by decide +kernel
theorem lvs_lt (hA : AcS cl A) (hn : nt ≤ 10) {x : Nat} (h : x ∈ lvs cl d nt nt 0) : x < 1024 := by
  rw [lvs_all hA hn] at h
  exact Nat.lt_of_lt_of_le (Nat.lt_of_le_of_lt (le_of_dif h.1) bel_lt) (p10 hn)
theorem f_one (hA : AcS cl A) (hn : nt ≤ 10) (h0 : (LIs cl d nt).2.2 = 0) : (LIs cl d nt).2.1 = 1 := by
  obtain ⟨-, -, -, h4, h5⟩ := li_in (d := d) hA hn
  have hpw := List.Pairwise.filter (fun x => pcN x == (LIs cl d nt).2.2) (lvs_pair (cl := cl) (d := d) hn nt 0 (Nat.le_refl _) (by rw [Nat.sub_self]; exact Nat.one_pos))
  have hz : ∀ x ∈ (lvs cl d nt nt 0).filter (fun x => pcN x == (LIs cl d nt).2.2), x = 0 := by
    intro x hx
    obtain ⟨h1, h2⟩ := List.mem_filter.mp hx
    rw [h0, beq_iff_eq] at h2
    exact pc_0 x (lvs_lt hA hn h1) h2
  rw [h4] at h5 ⊢
  generalize (lvs cl d nt nt 0).filter (fun x => pcN x == (LIs cl d nt).2.2) = F at *
  match F with
  | [] => exact absurd h5 (Nat.lt_irrefl 0)
  | [x] => rfl
  | x :: y :: F =>
    have e1 := hz x List.mem_cons_self
    have e2 := hz y (List.mem_cons_of_mem _ List.mem_cons_self)
    have := ((List.pairwise_cons.mp hpw).1 y List.mem_cons_self).2
    rw [e1, e2] at this
    exact absurd this (by decide)
theorem f_zero (hA : AcS cl A) (hn : nt ≤ 10) : (LIs cl d nt).1 = 0 ↔ (LIs cl d nt).2.2 = 0 := by
  have hl := li_10 (d := d) hA hn
  have hp := p10 hn
  rw [(li_in (d := d) hA hn).2.1]
  constructor
  · intro h
    rw [h]
    decide
  · exact pc_0 _ (by omega)
/-- doubting one more -/
theorem bit_orT (t j : Nat) : (d ||| 2 ^ t).testBit j = (d.testBit j || decide (t = j)) := bit_or j
theorem f_doubt (hA : AcS cl A) (hn : nt ≤ 10) {t : Nat} (ht : t < nt) (hd : d.testBit t = false) : (LIs cl (d ||| 2 ^ t) nt).2.2 ≤ (LIs cl d nt).2.2 ∧ (LIs cl d nt).2.2 ≤ (LIs cl (d ||| 2 ^ t) nt).2.2 + 1 := by
  obtain ⟨h1, h2, h3, -⟩ := li_in (d := d) hA hn
  obtain ⟨k1, k2, k3, -⟩ := li_in (d := d ||| 2 ^ t) hA hn
  obtain ⟨g1, g2⟩ := (lv_iff hA hn).mp h1
  obtain ⟨m1, m2⟩ := (lv_iff hA hn).mp k1
  have hl := li_10 (d := d) hA hn
  have hl2 := li_10 (d := d ||| 2 ^ t) hA hn
  have hp := p10 hn
  generalize (LIs cl d nt).1 = L at *
  generalize (LIs cl (d ||| 2 ^ t) nt).1 = K at *
  have hbL : ∀ k, (dif L (2 ^ t)).testBit k = (L.testBit k && !decide (t = k)) := fun k => by rw [dif_bit, Nat.testBit_two_pow]
  constructor
  · have hx : dif L (2 ^ t) ∈ lvs cl (d ||| 2 ^ t) nt nt 0 := by
      refine (lv_iff hA hn).mpr ⟨fun k hk => ?_, fun a b ha hb da db xa xb => ?_⟩
      · rw [hbL, Bool.and_eq_true, Bool.not_eq_true', decide_eq_false_iff_not] at hk
        obtain ⟨q1, q2⟩ := g1 k hk.1
        rw [bit_orT, q2, decide_eq_false hk.2]
        exact ⟨q1, rfl⟩
      · rw [bit_orT, Bool.or_eq_false_iff, decide_eq_false_iff_not] at da db
        rw [hbL, decide_eq_false da.2] at xa
        rw [hbL, decide_eq_false db.2] at xb
        exact g2 a b ha hb da.1 db.1 (by simpa using xa) (by simpa using xb)
    have h9 := k3 _ hx
    have h8 : pcN (dif L (2 ^ t)) ≤ pcN L := by
      cases hb : L.testBit t with
      | false => rw [dif_off hb]; exact Nat.le_refl _
      | true => exact Nat.le_of_lt (pc_less L (by omega) t (by omega) hb)
    omega
  · have hKt : K.testBit t = false := by
      cases hb : K.testBit t with
      | false => rfl
      | true =>
        have := (m1 t hb).2
        rw [bit_orT, decide_eq_true rfl, Bool.or_true] at this
        cases this
    have hx : K ||| 2 ^ t ∈ lvs cl d nt nt 0 := by
      refine (lv_iff hA hn).mpr ⟨fun k hk => ?_, fun a b ha hb da db xa xb => ?_⟩
      · rw [bit_or, Bool.or_eq_true, decide_eq_true_eq] at hk
        rcases hk with hk | hk
        · obtain ⟨q1, q2⟩ := m1 k hk
          rw [bit_orT, Bool.or_eq_false_iff] at q2
          exact ⟨q1, q2.1⟩
        · rw [← hk]
          exact ⟨ht, hd⟩
      · rw [bit_or, Bool.or_eq_false_iff, decide_eq_false_iff_not] at xa xb
        refine m2 a b ha hb ?_ ?_ xa.1 xb.1
        · rw [bit_orT, da, decide_eq_false xa.2]
          rfl
        · rw [bit_orT, db, decide_eq_false xb.2]
          rfl
    have h9 := h3 _ hx
    rw [pc_more K (by omega) t (by omega) hKt] at h9
    omega
/-- pairs and doubts -/
theorem sm_mono {f h : Nat → Nat} : ∀ n, (∀ i, i < n → f i ≤ h i) → sm n f ≤ sm n h
  | 0, _ => Nat.le_refl _
  | n + 1, hh => by
    have h1 := sm_mono (f := f) (h := h) n (fun i hi => hh i (by omega))
    have h2 := hh n (by omega)
    show sm n f + f n ≤ sm n h + h n
    omega
theorem sm_less {f h : Nat → Nat} {i : Nat} : ∀ n, (∀ i, i < n → f i ≤ h i) → i < n → f i < h i → sm n f < sm n h
  | 0, _, hi, _ => absurd hi (Nat.not_lt_zero i)
  | n + 1, hh, hi, hl => by
    have h2 := hh n (by omega)
    show sm n f + f n < sm n h + h n
    by_cases e : i = n
    · have h1 := sm_mono (f := f) (h := h) n (fun i hi => hh i (by omega))
      rw [e] at hl
      omega
    · have h1 := sm_less (f := f) (h := h) n (fun i hi => hh i (by omega)) (by omega) hl
      omega
theorem con_less {t a b : Nat} (h : conS cl (d ||| 2 ^ t) a b = true) : conS cl d a b = true := by
  obtain ⟨h1, h2, h3⟩ := con_iff.mp h
  rw [bit_orT, Bool.or_eq_false_iff] at h1 h2
  exact con_iff.mpr ⟨h1.1, h2.1, h3⟩
theorem b1_mono {a b : Bool} (h : a = true → b = true) : b1 a ≤ b1 b := by
  cases a
  · exact Nat.zero_le _
  · rw [h rfl]
    exact Nat.le_refl _
theorem pn_term {t a b : Nat} : b1 (decide (a < b) && conS cl (d ||| 2 ^ t) a b) ≤ b1 (decide (a < b) && conS cl d a b) := by
  refine b1_mono fun h => ?_
  rw [Bool.and_eq_true] at h ⊢
  exact ⟨h.1, con_less h.2⟩
theorem pn_less (t : Nat) : pnS cl (d ||| 2 ^ t) nt nt ≤ pnS cl d nt nt := sm_mono nt fun a _ => sm_mono nt fun b _ => pn_term
theorem pn_drop (hp : 0 < pnS cl d nt nt) : ∃ a, a < nt ∧ pnS cl (d ||| 2 ^ a) nt nt < pnS cl d nt nt := by
  obtain ⟨a, ha, h1⟩ := (sm_pos nt).mp hp
  obtain ⟨b, hb, h2⟩ := (sm_pos nt).mp h1
  refine ⟨a, ha, sm_less nt (fun a _ => sm_mono nt fun b _ => pn_term) ha (sm_less nt (fun b _ => pn_term) hb ?_)⟩
  rw [b1_pos] at h2
  rw [h2]
  have h3 : conS cl (d ||| 2 ^ a) a b = false := by
    rw [conS_cf, bit_orT, decide_eq_true rfl, Bool.or_true]
    rfl
  rw [h3, Bool.and_false]
  decide
theorem bs_inv : ∀ k, ((bsS cl d nt k).1 = -1 ∧ (bsS cl d nt k).2 = pnS cl d nt nt ∧ ∀ j, j < k → pnS cl d nt nt ≤ pnS cl (d ||| 2 ^ j) nt nt) ∨ ∃ b, b < k ∧ (bsS cl d nt k).1 = nI b ∧ (bsS cl d nt k).2 = pnS cl (d ||| 2 ^ b) nt nt ∧ (bsS cl d nt k).2 < pnS cl d nt nt ∧ (∀ j, j < k → (bsS cl d nt k).2 ≤ pnS cl (d ||| 2 ^ j) nt nt) ∧ ∀ j, j < b → (bsS cl d nt k).2 < pnS cl (d ||| 2 ^ j) nt nt
  | 0 => Or.inl ⟨rfl, rfl, fun j hj => absurd hj (Nat.not_lt_zero j)⟩
  | k + 1 => by
    have ih := bs_inv k
    rw [bsS]
    by_cases h : (bsS cl d nt k).2 ≤ pnS cl (d ||| 2 ^ k) nt nt
    · rw [if_pos h]
      rcases ih with ⟨h1, h2, h3⟩ | ⟨b, hb, h1, h2, h3, h4, h5⟩
      · refine Or.inl ⟨h1, h2, fun j hj => ?_⟩
        by_cases e : j = k
        · rw [e, ← h2]
          exact h
        · exact h3 j (by omega)
      · refine Or.inr ⟨b, by omega, h1, h2, h3, fun j hj => ?_, h5⟩
        by_cases e : j = k
        · rw [e]
          exact h
        · exact h4 j (by omega)
    · rw [if_neg h]
      have hle : (bsS cl d nt k).2 ≤ pnS cl d nt nt := by
        rcases ih with ⟨-, h2, -⟩ | ⟨b, -, -, -, h3, -⟩
        · omega
        · omega
      have hall : ∀ j, j < k → (bsS cl d nt k).2 ≤ pnS cl (d ||| 2 ^ j) nt nt := by
        rcases ih with ⟨-, h2, h3⟩ | ⟨b, -, -, -, -, h4, -⟩
        · intro j hj
          have := h3 j hj
          omega
        · exact h4
      refine Or.inr ⟨k, by omega, rfl, rfl, by show pnS cl (d ||| 2 ^ k) nt nt < _; omega, fun j hj => ?_, fun j hj => ?_⟩
      · show pnS cl (d ||| 2 ^ k) nt nt ≤ _
        by_cases e : j = k
        · rw [e]
          exact Nat.le_refl _
        · have := hall j (by omega)
          omega
      · show pnS cl (d ||| 2 ^ k) nt nt < _
        have := hall j hj
        omega
/-- whom one had best doubt: nobody, where no two contradict each other; else the first of the best -/
theorem f_best : ((bsS cl d nt nt).1 = -1 ∧ pnS cl d nt nt = 0) ∨ ∃ b, b < nt ∧ (bsS cl d nt nt).1 = nI b ∧ d.testBit b = false ∧ pnS cl (d ||| 2 ^ b) nt nt < pnS cl d nt nt ∧ (∀ j, j < nt → pnS cl (d ||| 2 ^ b) nt nt ≤ pnS cl (d ||| 2 ^ j) nt nt) ∧ ∀ j, j < b → pnS cl (d ||| 2 ^ b) nt nt < pnS cl (d ||| 2 ^ j) nt nt := by
  rcases bs_inv (cl := cl) (d := d) (nt := nt) nt with ⟨h1, h2, h3⟩ | ⟨b, hb, h1, h2, h3, h4, h5⟩
  · refine Or.inl ⟨h1, ?_⟩
    refine Classical.byContradiction fun h => ?_
    obtain ⟨a, ha, h9⟩ := pn_drop (cl := cl) (d := d) (nt := nt) (by omega)
    have := h3 a ha
    omega
  · rw [h2] at h3 h4 h5
    refine Or.inr ⟨b, hb, h1, ?_, h3, h4, h5⟩
    cases hd : d.testBit b with
    | false => rfl
    | true =>
      rw [or_on hd] at h3
      exact absurd h3 (Nat.lt_irrefl _)
/-- the order -/
theorem or_add : ∀ s, s < 256 → ∀ e, e < 8 → s.testBit e = false → s ||| 2 ^ e = s + 2 ^ e := by decide +kernel
theorem pc_full : ∀ n, n < 9 → ∀ q, q < 256 → q < 2 ^ n → pcN q = n → q = 2 ^ n - 1 := by decide +kernel
theorem og_inv {ne tr : Nat} (hne : ne ≤ 8) : ∀ k q, ogS cl ne tr k = some q → q.1 < 2 ^ ne ∧ pcN q.1 = k ∧ sm k (fun i => 2 ^ q.2 i) = q.1 ∧ (∀ i, i < k → q.2 i < ne) ∧ (∀ j, q.1.testBit j = true ↔ ∃ i, i < k ∧ q.2 i = j) ∧ (∀ i j, i < k → j < k → q.2 i = q.2 j → i = j) ∧ ∀ i c, i < k → c < cl.length → rw5 cl c 0 = 1 → rw5 cl c 3 = nI (q.2 i) → tr.testBit (tN (rwK cl 1) c) = true → ∃ i2, i2 < i ∧ q.2 i2 = tN (rwK cl 2) c
  | 0, q, h => by
    cases h
    refine ⟨Nat.two_pow_pos _, by decide, rfl, fun i hi => absurd hi (Nat.not_lt_zero i), fun j => ⟨fun h => (by rw [Nat.zero_testBit] at h; cases h), fun ⟨i, hi, _⟩ => absurd hi (Nat.not_lt_zero i)⟩, fun i j hi => absurd hi (Nat.not_lt_zero i), fun i c hi => absurd hi (Nat.not_lt_zero i)⟩
  | k + 1, q, h => by
    have h8 : 2 ^ ne ≤ 256 := (Nat.pow_le_pow_right (by decide) hne : 2 ^ ne ≤ 2 ^ 8)
    unfold ogS og at h
    split at h
    · cases h
    · rename_i q0 h0
      split at h
      · cases h
      · rename_i e he
        cases h
        obtain ⟨g1, g2, g3, g4, g5, g6, g7⟩ := og_inv hne k q0 h0
        obtain ⟨-, e2, e3⟩ := ff_in _ _ _ he
        have ene : e < ne := by omega
        unfold okB at e3
        rw [Bool.and_eq_true, Bool.not_eq_true', decide_eq_true_eq] at e3
        obtain ⟨hb, hc⟩ := e3
        have hq : ∀ i, i < k → (if i = k then e else q0.2 i) = q0.2 i := fun i hi => if_neg (by omega)
        have hqk : (if k = k then e else q0.2 k) = e := if_pos rfl
        refine ⟨Nat.or_lt_two_pow g1 (Nat.pow_lt_pow_right (by decide) ene), ?_, ?_, fun i hi => ?_, fun j => ?_, fun i j hi hj hij => ?_, fun i c hi hcl c0 c3 ct => ?_⟩
        · show pcN (q0.1 ||| 2 ^ e) = k + 1
          rw [pc_more q0.1 (by omega) e (by omega) hb, g2]
        · show sm k (fun i => 2 ^ (if i = k then e else q0.2 i)) + 2 ^ (if k = k then e else q0.2 k) = q0.1 ||| 2 ^ e
          rw [sm_congr k (fun i hi => by rw [hq i hi]), g3, hqk, or_add q0.1 (by omega) e (by omega) hb]
        · show (if i = k then e else q0.2 i) < ne
          split
          · exact ene
          · exact g4 i (by omega)
        · show (q0.1 ||| 2 ^ e).testBit j = true ↔ ∃ i, i < k + 1 ∧ (if i = k then e else q0.2 i) = j
          rw [bit_or, Bool.or_eq_true, g5, decide_eq_true_eq]
          constructor
          · rintro (⟨i, hi, h9⟩ | h9)
            · exact ⟨i, by omega, by rw [hq i hi]; exact h9⟩
            · exact ⟨k, by omega, by rw [hqk]; exact h9⟩
          · rintro ⟨i, hi, h9⟩
            by_cases ik : i = k
            · rw [if_pos ik] at h9
              exact Or.inr h9
            · rw [if_neg ik] at h9
              exact Or.inl ⟨i, by omega, h9⟩
        · have hij' : (if i = k then e else q0.2 i) = (if j = k then e else q0.2 j) := hij
          have hno : ∀ m, m < k → ¬ q0.2 m = e := fun m hm h9 => by
            rw [(g5 e).mpr ⟨m, hm, h9⟩] at hb
            cases hb
          by_cases ik : i = k
          · by_cases jk : j = k
            · omega
            · rw [if_pos ik, if_neg jk] at hij'
              exact absurd hij'.symm (hno j (by omega))
          · by_cases jk : j = k
            · rw [if_neg ik, if_pos jk] at hij'
              exact absurd hij' (hno i (by omega))
            · rw [if_neg ik, if_neg jk] at hij'
              exact g6 i j (by omega) (by omega) hij'
        · have c3' : rw5 cl c 3 = nI (if i = k then e else q0.2 i) := c3
          by_cases ik : i = k
          · rw [if_pos ik] at c3'
            have := hc c hcl ⟨c0, c3', ct⟩
            obtain ⟨i2, hi2, h9⟩ := (g5 _).mp this
            exact ⟨i2, by omega, by show (if i2 = k then e else q0.2 i2) = _; rw [hq i2 hi2]; exact h9⟩
          · rw [if_neg ik] at c3'
            obtain ⟨i2, hi2, h9⟩ := g7 i c (by omega) hcl c0 c3' ct
            exact ⟨i2, hi2, by show (if i2 = k then e else q0.2 i2) = _; rw [hq i2 (by omega)]; exact h9⟩
theorem f_sum {ne tr : Nat} (hne : ne ≤ 8) {q : Nat × (Nat → Nat)} (h : ogS cl ne tr ne = some q) : sm ne (fun i => 2 ^ q.2 i) = 2 ^ ne - 1 ∧ ∀ e, e < ne → ∃ i, i < ne ∧ q.2 i = e := by
  obtain ⟨g1, g2, g3, -, g5, -, -⟩ := og_inv hne ne q h
  have h8 : 2 ^ ne ≤ 256 := (Nat.pow_le_pow_right (by decide) hne : 2 ^ ne ≤ 2 ^ 8)
  have e := pc_full ne (by omega) q.1 (by omega) g1 g2
  refine ⟨by rw [g3, e], fun j hj => (g5 j).mp ?_⟩
  rw [e, full_bit, decide_eq_true hj]
/-- evenings -/
theorem ff_no {P : Nat → Bool} : ∀ k p, ff P k p = none → ∀ j, p ≤ j → j < p + k → P j = false
  | 0, _, _, j, h1, h2 => by omega
  | k + 1, p, h, j, h1, h2 => by
    unfold ff at h
    split at h
    · cases h
    · rename_i hp
      by_cases e : j = p
      · rw [e]
        simpa using hp
      · exact ff_no k (p + 1) h j (by omega) (by omega)
theorem ff_fst {P : Nat → Bool} : ∀ k p e, ff P k p = some e → ∀ j, p ≤ j → j < e → P j = false
  | 0, _, _, h => nomatch h
  | k + 1, p, e, h => by
    unfold ff at h
    split at h
    · cases h
      intro j h1 h2
      omega
    · rename_i hp
      intro j h1 h2
      by_cases ej : j = p
      · rw [ej]
        simpa using hp
      · exact ff_fst k (p + 1) e h j (by omega) h2
theorem un_iff {os : List OT} {q : Nat × Int32 × Int32} (hA : AcS cl A) (hn : nt ≤ 10) (n : Nat) : unP cl nt os q n = true ↔ (LIs cl (evS cl nt os n q).1 nt).2.2 = 0 := by
  unfold unP
  rw [decide_eq_true_eq]
  exact f_zero hA hn
/-- behind how many evenings there is one story -/
theorem f_until {os : List OT} {q : Nat × Int32 × Int32} (hA : AcS cl A) (hn : nt ≤ 10) : (unS cl nt os q = -1 ∧ ∀ k, k ≤ 30 → ¬ (LIs cl (evS cl nt os k q).1 nt).2.2 = 0) ∨ ∃ n, n ≤ 30 ∧ unS cl nt os q = nI n ∧ (LIs cl (evS cl nt os n q).1 nt).2.2 = 0 ∧ ∀ k, k < n → ¬ (LIs cl (evS cl nt os k q).1 nt).2.2 = 0 := by
  unfold unS
  cases h : ff (unP cl nt os q) 31 0 with
  | none =>
    refine Or.inl ⟨rfl, fun k hk h9 => ?_⟩
    have := ff_no 31 0 h k (Nat.zero_le _) (by omega)
    rw [(un_iff hA hn k).mpr h9] at this
    cases this
  | some n =>
    obtain ⟨-, h2, h3⟩ := ff_in _ _ _ h
    refine Or.inr ⟨n, by omega, rfl, (un_iff hA hn n).mp h3, fun k hk h9 => ?_⟩
    have := ff_fst 31 0 n h k (Nat.zero_le _) hk
    rw [(un_iff hA hn k).mpr h9] at this
    cases this
end LF
