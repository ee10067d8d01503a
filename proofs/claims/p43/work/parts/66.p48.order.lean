/-! the order of the events -/
def ff (P : Nat → Bool) : Nat → Nat → Option Nat
  | 0, _ => none
  | k + 1, p => if P p = true then some p else ff P k (p + 1)
theorem ff_none {P : Nat → Bool} : ∀ k p, (∀ j, p ≤ j → j < p + k → P j = false) → ff P k p = none := by
  intro k
  induction k with
  | zero => intro p _; rfl
  | succ k ih =>
    intro p h
    show (if P p = true then some p else ff P k (p + 1)) = none
    rw [h p (Nat.le_refl _) (by omega), if_neg (by decide)]
    exact ih (p + 1) (fun j h1 h2 => h j (by omega) (by omega))
theorem ff_some {P : Nat → Bool} {e : Nat} : ∀ k p, p ≤ e → e < p + k → P e = true → (∀ j, p ≤ j → j < e → P j = false) → ff P k p = some e := by
  intro k
  induction k with
  | zero => intro p h1 h2; omega
  | succ k ih =>
    intro p h1 h2 h3 h4
    show (if P p = true then some p else ff P k (p + 1)) = some e
    by_cases h5 : p = e
    · subst h5
      rw [if_pos h3]
    · rw [h4 p (Nat.le_refl _) (by omega), if_neg (by decide)]
      exact ih (p + 1) (by omega) (by omega) h3 (fun j h6 h7 => h4 j (by omega) h7)
section OD
variable {A : Nat → Nat} {f1 f2 : Nat → Int32} {nt ne n d : Nat} {xT xK xE xF xL uK uB uO uR uL : Nat → Int32}
/-- whether the event may stand next -/
def okB (uK uB uO uR : Nat → Int32) (n tr s e : Nat) : Bool := !s.testBit e && decide (∀ c, c < n → (uK c = 1 ∧ uR c = nI e ∧ tr.testBit (tN uB c) = true) → s.testBit (tN uO c) = true)
def og (uK uB uO uR : Nat → Int32) (n ne tr : Nat) : Nat → Option (Nat × (Nat → Nat))
  | 0 => some (0, fun _ => 0)
  | k + 1 => match og uK uB uO uR n ne tr k with
    | none => none
    | some q => match ff (okB uK uB uO uR n tr q.1) ne 0 with
      | none => none
      | some e => some (q.1 ||| 2 ^ e, fun j => if j = k then e else q.2 j)
theorem og_none {tr k : Nat} (h : og uK uB uO uR n ne tr k = none) : ∀ m, k ≤ m → og uK uB uO uR n ne tr m = none := by
  intro m
  induction m with
  | zero => intro h2; rw [show k = 0 by omega] at h; exact h
  | succ m ih =>
    intro h2
    by_cases e : k = m + 1
    · rw [← e]; exact h
    · show (match og uK uB uO uR n ne tr m with | none => none | some q => _) = none
      rw [ih (by omega)]
theorem cr_e (h : CR nt ne n xT xK xE xF xL uK uB uO uR uL) (hne : ne ≤ 8) {a : Nat} (ha : a < n) : uO a = nI (tN uO a) ∧ tN uO a < ne := by
  obtain ⟨-, -, -, ⟨t, h1, h2⟩, -⟩ := h.2 a ha
  have e : tN uO a = t := by unfold tN; rw [h2, nI_clamp (by omega)]
  rw [e]
  exact ⟨h2, h1⟩
theorem cr_r (h : CR nt ne n xT xK xE xF xL uK uB uO uR uL) (hne : ne ≤ 8) {a : Nat} (ha : a < n) (hk : ¬ uK a = 0) : uR a = nI (tN uR a) ∧ tN uR a < ne := by
  obtain ⟨-, -, -, -, h3⟩ := h.2 a ha
  obtain ⟨t, h1, h2⟩ := h3 hk
  have e : tN uR a = t := by unfold tN; rw [h2, nI_clamp (by omega)]
  rw [e]
  exact ⟨h2, h1⟩
/-- what stands ahead of each event -/
def AhS (uK uB uO uR : Nat → Int32) (n tr : Nat) (g : Nat → Int32) : Prop := ∃ V : Nat → Nat, (∀ e, e < 8 → g e = nI (V e) ∧ V e < 256) ∧ ∀ e, e < 8 → ∀ k, ((V e).testBit k = true ↔ ∃ c, c < n ∧ uK c = 1 ∧ tr.testBit (tN uB c) = true ∧ uR c = nI e ∧ tN uO c = k)
theorem x_ahead (h : CR nt ne n xT xK xE xF xL uK uB uO uR uL) (hn : nt ≤ 10) (hne : ne ≤ 8) {N : Nat} (hN : 60 < N) {tr : Nat} (htr : tr < 1024) (f0 : Nat → Int32) : ∃ g, f_Ve_gatherAhead N (nI n) xT xK xE xF f0 (nI tr) = some g ∧ AhS uK uB uO uR n tr g := by
  have hle := h.1
  have L25 : ∀ f, (∀ j, j < 8 → f j = 0) → ∃ t, lpS (f_Ve_gatherAhead_L25 (nI n) xT xK xE xF (nI tr)) (.inr none) N (0, f) = t ∧ ∃ g, t = .inr (some g) ∧ AhS uK uB uO uR n tr g := by
    intro f hf
    refine lp_inv (fun i z => z.1 = nI i ∧ AhS uK uB uO uR i tr z.2) n _ ?_ ?_ (by omega) ⟨rfl, fun _ => 0, fun e he => ⟨hf e he, (by decide : (0 : Nat) < 256)⟩, fun e _ k => by rw [Nat.zero_testBit]; exact ⟨fun h => (nomatch h), fun ⟨c, h, _⟩ => absurd h (Nat.not_lt_zero _)⟩⟩
    · rintro i ⟨z1, z2⟩ hi ⟨rfl, V, hz1, hz2⟩
      obtain ⟨⟨-, a2, a3, a4, -⟩, -⟩ := h.2 i hi
      obtain ⟨t1, t2, t3⟩ := cr_t h hn hi
      obtain ⟨o1, o2⟩ := cr_e h hne hi
      unfold f_Ve_gatherAhead_L25
      show ∃ s2, (if nI n ≤ nI i then _ else _) = Sum.inl s2 ∧ _
      rw [if_neg (nI_ge hi (by omega)), rg (by omega) (by decide), rg (by omega) (by decide), rg (by omega) (by decide), rg (by omega) (by decide), a2, a3, a4, t3, q_has (by omega) (by omega), o1, q_bit _ (by omega), ← nI_succ]
      by_cases hk : uK i = 1
      · rw [if_pos hk]
        by_cases hb : tr.testBit (tN uB i) = true
        · obtain ⟨r1, r2⟩ := cr_r h hne hi (by rw [hk]; decide)
          rw [if_pos hb, if_neg one_ne, r1]
          show ∃ s2, Sum.inl (nI (i + 1), rset 8 z2 (nI (tN uR i)) (rget 8 z2 (nI (tN uR i)) ||| nI (2 ^ tN uO i))) = Sum.inl s2 ∧ _
          rw [rs (by omega) (by decide), rg (by omega) (by decide)]
          refine ⟨_, rfl, rfl, fun j => if j = tN uR i then V (tN uR i) ||| 2 ^ tN uO i else V j, fun e he => ?_, fun e he k => ?_⟩
          · show upd z2 (tN uR i) _ e = _ ∧ _
            unfold upd
            by_cases e1 : e = tN uR i
            · subst e1
              simp only [if_true]
              have hz1' : ∀ e, e < 8 → z2 e = nI (V e) ∧ V e < 256 := hz1
              rw [(hz1' _ he).1, q_or]
              exact ⟨rfl, or_lt (n := 8) (hz1 _ he).2 (Nat.pow_lt_pow_right (by decide) (by omega))⟩
            · simp only [if_neg e1]
              exact hz1 e he
          · by_cases e1 : e = tN uR i
            · subst e1
              simp only [if_true]
              rw [Nat.testBit_or, Nat.testBit_two_pow, Bool.or_eq_true, decide_eq_true_eq, hz2 _ he k]
              constructor
              · rintro (⟨c, p, q⟩ | p)
                · exact ⟨c, by omega, q⟩
                · exact ⟨i, by omega, hk, hb, r1, p⟩
              · rintro ⟨c, p, q1, q2, q3, q4⟩
                by_cases e2 : c = i
                · subst e2; exact Or.inr q4
                · exact Or.inl ⟨c, by omega, q1, q2, q3, q4⟩
            · simp only [if_neg e1]
              rw [hz2 _ he k]
              constructor
              · rintro ⟨c, p, q⟩
                exact ⟨c, by omega, q⟩
              · rintro ⟨c, p, q1, q2, q3, q4⟩
                by_cases e2 : c = i
                · subst e2
                  rw [r1] at q3
                  exact absurd ((nI_eq (by omega) (by omega)).mp q3).symm e1
                · exact ⟨c, by omega, q1, q2, q3, q4⟩
        · rw [if_neg hb, if_pos rfl]
          refine ⟨_, rfl, rfl, V, hz1, fun e he k => ?_⟩
          rw [hz2 e he k]
          constructor
          · rintro ⟨c, p, q⟩; exact ⟨c, by omega, q⟩
          · rintro ⟨c, p, q1, q2, q3, q4⟩
            by_cases e2 : c = i
            · subst e2; exact absurd q2 hb
            · exact ⟨c, by omega, q1, q2, q3, q4⟩
      · rw [if_neg hk]
        refine ⟨_, rfl, rfl, V, hz1, fun e he k => ?_⟩
        rw [hz2 e he k]
        constructor
        · rintro ⟨c, p, q⟩; exact ⟨c, by omega, q⟩
        · rintro ⟨c, p, q1, q2, q3, q4⟩
          by_cases e2 : c = i
          · subst e2; exact absurd q1 hk
          · exact ⟨c, by omega, q1, q2, q3, q4⟩
    · rintro ⟨z1, z2⟩ ⟨rfl, hz⟩
      unfold f_Ve_gatherAhead_L25
      show ∃ t, (if nI n ≤ nI n then _ else _) = Sum.inr t ∧ _
      rw [if_pos (nI_le (Nat.le_refl _) (by omega))]
      exact ⟨_, rfl, z2, rfl, hz⟩
  have L2 : ∃ t, lpS (f_Ve_gatherAhead_L2 N (nI n) xT xK xE xF (nI tr)) none N (0, f0) = t ∧ ∃ g, t = some g ∧ AhS uK uB uO uR n tr g := by
    refine lp_inv (fun a z => z.1 = nI a ∧ ∀ j, j < a → z.2 j = 0) 8 _ ?_ ?_ (by omega) ⟨rfl, fun j hj => absurd hj (Nat.not_lt_zero _)⟩
    · rintro a ⟨z1, z2⟩ ha ⟨rfl, hz⟩
      unfold f_Ve_gatherAhead_L2
      show ∃ s2, (if (8 : Int32) ≤ nI a then _ else _) = Sum.inl s2 ∧ _
      rw [if_neg (show ¬ (8 : Int32) ≤ nI a from nI_ge (b := 8) ha (by decide)), rs ha (by decide), ← nI_succ]
      refine ⟨_, rfl, rfl, fun j hj => ?_⟩
      show upd z2 a 0 j = 0
      unfold upd
      by_cases e : j = a
      · rw [if_pos e]
      · rw [if_neg e]; exact hz j (by omega)
    · rintro ⟨z1, z2⟩ ⟨rfl, hz⟩
      obtain ⟨t, e1, f2, rfl, e2⟩ := L25 z2 hz
      unfold f_Ve_gatherAhead_L2
      show ∃ t, (if (8 : Int32) ≤ nI 8 then _ else _) = Sum.inr t ∧ _
      rw [if_pos (by decide)]
      exact ⟨_, e1, f2, rfl, e2⟩
  obtain ⟨t, e1, f, rfl, e2⟩ := L2
  exact ⟨f, e1, e2⟩
theorem x_next {N : Nat} (hN : 60 < N) (hne : ne ≤ 8) {g : Nat → Int32} {tr s : Nat} (hs : s < 256) (hg : AhS uK uB uO uR n tr g) : f_Ve_nextEvent N (nI ne) g (nI s) = some (match ff (okB uK uB uO uR n tr s) ne 0 with | some e => nI e | none => -1) := by
  obtain ⟨V, v1, v2⟩ := hg
  have hok : ∀ e, e < 8 → (okB uK uB uO uR n tr s e = (!s.testBit e && (dif (V e) s == 0))) := by
    intro e he
    unfold okB
    cases s.testBit e with
    | true => rfl
    | false =>
      show (true && _) = (true && _)
      rw [Bool.true_and, Bool.true_and]
      have : (dif (V e) s = 0) ↔ ∀ c, c < n → (uK c = 1 ∧ uR c = nI e ∧ tr.testBit (tN uB c) = true) → s.testBit (tN uO c) = true := by
        rw [ext_iff_dif]
        constructor
        · intro h c hc ⟨q1, q2, q3⟩
          exact h _ ((v2 e he _).mpr ⟨c, hc, q1, q3, q2, rfl⟩)
        · intro h k hk
          obtain ⟨c, hc, q1, q3, q2, q4⟩ := (v2 e he k).mp hk
          rw [← q4]
          exact h c hc ⟨q1, q2, q3⟩
      by_cases h9 : dif (V e) s = 0
      · rw [decide_eq_true (this.mp h9), h9]; rfl
      · rw [decide_eq_false (fun h => h9 (this.mpr h))]
        exact (beq_eq_false_iff_ne.mpr h9).symm
  have hstep : ∀ e, e < ne → f_Ve_nextEvent_L2 (nI ne) g (nI s) (nI e) = if okB uK uB uO uR n tr s e = true then .inr (some (nI e)) else .inl (nI (e + 1)) := by
    intro e he
    unfold f_Ve_nextEvent_L2
    have hV := (v1 e (by omega)).2
    have hl : dif (V e) s < 2 ^ 31 := Nat.lt_of_lt_of_le (dif_lt (n := 8) hV) (by decide)
    rw [if_neg (nI_ge he (by omega)), q_has (by omega) (by omega), rg (by omega) (by decide), (v1 e (by omega)).1, q_dif, hok e (by omega), ← nI_succ]
    cases s.testBit e with
    | true => rfl
    | false =>
      rw [if_pos (show (if false = true then (1 : Int32) else 0) = 0 from rfl)]
      by_cases h9 : dif (V e) s = 0
      · rw [if_pos ((q_0 hl).mpr h9), h9]; rfl
      · rw [if_neg (fun h => h9 ((q_0 hl).mp h)), beq_eq_false_iff_ne.mpr h9]; rfl
  have hend : f_Ve_nextEvent_L2 (nI ne) g (nI s) (nI ne) = .inr (some (-1)) := by
    unfold f_Ve_nextEvent_L2
    rw [if_pos (nI_le (Nat.le_refl _) (by omega))]
  have key : ∀ m i N, i + m = ne → m < N → lpS (f_Ve_nextEvent_L2 (nI ne) g (nI s)) none N (nI i) = some (match ff (okB uK uB uO uR n tr s) m i with | some e => nI e | none => -1) := by
    intro m
    induction m with
    | zero =>
      intro i N hi hN
      cases N with
      | zero => omega
      | succ N =>
        rw [show i = ne by omega, lp_out hend]
        rfl
    | succ m ih =>
      intro i N hi hN
      cases N with
      | zero => omega
      | succ N =>
        have h1 := hstep i (by omega)
        show _ = some (match (if okB uK uB uO uR n tr s i = true then some i else ff (okB uK uB uO uR n tr s) m (i + 1)) with | some e => nI e | none => -1)
        by_cases h2 : okB uK uB uO uR n tr s i = true
        · rw [if_pos h2] at h1
          rw [lp_out h1, if_pos h2]
        · rw [if_neg h2] at h1
          rw [lp_in h1, if_neg h2]
          exact ih (i + 1) N (by omega) (by omega)
  exact key ne 0 N (by omega) (by omega)
theorem ff_lt {P : Nat → Bool} {e : Nat} : ∀ k p, ff P k p = some e → e < p + k := by
  intro k
  induction k with
  | zero => intro p h; cases h
  | succ k ih =>
    intro p h
    have h2 : (if P p = true then some p else ff P k (p + 1)) = some e := h
    by_cases h3 : P p = true
    · rw [if_pos h3] at h2; cases h2; omega
    · rw [if_neg h3] at h2; have := ih _ h2; omega
theorem x_arr (h : CR nt ne n xT xK xE xF xL uK uB uO uR uL) (h1 : Ag A f1) (hn : nt ≤ 10) (hne : ne ≤ 8) (hsym : symA A) (hd : d < 1024) {N : Nat} {j l c : Int32} (hc : XC A nt j l c) (hN : 2000 < N) (a0 o0 : Nat → Int32) :
    ∃ a2 o2, f_Ve_arrange N (nI ne) (nI nt) (nI n) xT xK xE xF j l c f1 a0 o0 (nI d) = some (bI (og uK uB uO uR n ne (trN A nt d) ne).isSome, nI d, nI (lsN A nt d), nI (csN A nt d), a2, o2) ∧ ∀ q, og uK uB uO uR n ne (trN A nt d) ne = some q → ∀ i, i < ne → o2 i = nI (q.2 i) := by
  unfold f_Ve_arrange
  have hb := bel_10 (d := d) hn
  rw [x_liar h1 hn hsym hd hc hN, oB_s, x_bel (by omega)]
  show ∃ a2 o2, oB none (f_Ve_gatherAhead N (nI n) xT xK xE xF a0 (nI (belN nt d) &&& (nI (lsN A nt d) ^^^ (-1)))) (fun r947 => lpS (f_Ve_arrange_L21 N (nI ne) r947 (nI d) (nI (lsN A nt d)) (nI (csN A nt d))) none N (0, 0, o0)) = _ ∧ _
  rw [q_dif]
  obtain ⟨g, e1, e2⟩ := x_ahead h hn hne (N := N) (by omega) (tr := trN A nt d) (dif_lt (n := 10) hb) a0
  have e1' : f_Ve_gatherAhead N (nI n) xT xK xE xF a0 (nI (dif (belN nt d) (lsN A nt d))) = some g := e1
  rw [e1', oB_s]
  have key := lp_inv2 (step := f_Ve_arrange_L21 N (nI ne) g (nI d) (nI (lsN A nt d)) (nI (csN A nt d))) (fail := none) (fun k z => ∃ q, og uK uB uO uR n ne (trN A nt d) k = some q ∧ z.1 = nI q.1 ∧ z.2.1 = nI k ∧ q.1 < 256 ∧ ∀ i, i < k → z.2.2 i = nI (q.2 i)) ne
    (fun t => ∃ a2 o2, t = some (bI (og uK uB uO uR n ne (trN A nt d) ne).isSome, nI d, nI (lsN A nt d), nI (csN A nt d), a2, o2) ∧ ∀ q, og uK uB uO uR n ne (trN A nt d) ne = some q → ∀ i, i < ne → o2 i = nI (q.2 i)) ?_ ?_ (n := N) (s := (0, 0, o0)) (by omega) ⟨(0, fun _ => 0), rfl, rfl, rfl, by decide, fun i hi => absurd hi (Nat.not_lt_zero _)⟩
  · obtain ⟨t, k1, a2, o2, rfl, k2⟩ := key
    exact ⟨a2, o2, k1, k2⟩
  · rintro k ⟨z1, z2, z3⟩ hk ⟨q, hq, rfl, hz2, hs, hr⟩
    have hz2' : z2 = nI k := hz2
    subst hz2'
    unfold f_Ve_arrange_L21
    show (∃ s2, (if nI ne ≤ nI k then _ else _) = Sum.inl s2 ∧ _) ∨ (∃ t, (if nI ne ≤ nI k then _ else _) = Sum.inr t ∧ _)
    have hog : og uK uB uO uR n ne (trN A nt d) (k + 1) = (match ff (okB uK uB uO uR n (trN A nt d) q.1) ne 0 with | none => none | some e => some (q.1 ||| 2 ^ e, fun j => if j = k then e else q.2 j)) := by
      show (match og uK uB uO uR n ne (trN A nt d) k with | none => none | some q => _) = _
      rw [hq]
    simp only [if_neg (nI_ge hk (show ne < 2 ^ 31 by omega)), x_next (N := N) (by omega) hne hs e2, oB_s]
    cases hf : ff (okB uK uB uO uR n (trN A nt d) q.1) ne 0 with
    | none =>
      rw [hf] at hog
      right
      show ∃ t, (if (0 : Int32) ≤ -1 then _ else _) = Sum.inr t ∧ _
      rw [if_neg (by decide)]
      have := og_none hog ne (by omega)
      refine ⟨_, rfl, g, z3, ?_, fun q h => ?_⟩
      · rw [this]; rfl
      · rw [this] at h; cases h
    | some e =>
      rw [hf] at hog
      left
      have he := ff_lt _ _ hf
      show ∃ s2, (if (0 : Int32) ≤ nI e then _ else _) = Sum.inl s2 ∧ _
      rw [if_pos (nI_pos' (by omega)), q_bit e (by omega), q_or, rs (by omega) (by decide), ← nI_succ]
      refine ⟨_, rfl, _, hog, rfl, rfl, or_lt (n := 8) hs (Nat.pow_lt_pow_right (by decide) (by omega)), fun i hi => ?_⟩
      show upd z3 k (nI e) i = nI (if i = k then e else q.2 i)
      unfold upd
      by_cases h9 : i = k
      · rw [if_pos h9, if_pos h9]
      · rw [if_neg h9, if_neg h9]; exact hr i (by omega)
  · rintro ⟨z1, z2, z3⟩ ⟨q, hq, rfl, hz2, hs, hr⟩
    have hz2' : z2 = nI ne := hz2
    subst hz2'
    unfold f_Ve_arrange_L21
    show ∃ t, (if nI ne ≤ nI ne then _ else _) = Sum.inr t ∧ _
    rw [if_pos (nI_le (Nat.le_refl _) (by omega))]
    refine ⟨_, rfl, g, z3, by rw [hq]; rfl, fun q2 h => ?_⟩
    rw [hq] at h
    cases h
    exact hr
end OD
