/-! the Sim's liars are the class's: the tellers one by one against all subsets -/
/-- who contradicts whom, whoever is doubted -/
def cfS (cl : List (Nat → Int32)) (a b : Nat) : Bool := decide (0 < prsS cl (nI a) (nI b) cl.length)
theorem conS_cf (cl : List (Nat → Int32)) (d a b : Nat) : conS cl d a b = (!d.testBit a && !d.testBit b && cfS cl a b) := rfl
theorem pP_sym (uB : Nat → Int32) (p q : Int32) (a b : Nat) : pP uB p q a b = pP uB q p a b := by
  unfold pP
  rw [Bool.or_comm]
theorem prsS_sym (cl : List (Nat → Int32)) (p q : Int32) (k : Nat) : prsS cl p q k = prsS cl q p k := by
  unfold prsS pinS
  refine sm_congr _ fun a _ => sm_congr _ fun b _ => ?_
  rw [pP_sym]
theorem cfS_sym (cl : List (Nat → Int32)) (a b : Nat) : cfS cl a b = cfS cl b a := by unfold cfS; rw [prsS_sym]
theorem conS_sym (cl : List (Nat → Int32)) (d a b : Nat) : conS cl d a b = conS cl d b a := by
  rw [conS_cf, conS_cf, cfS_sym cl a b, Bool.and_comm (!d.testBit a)]
/-- the sets that are looked at, in their order -/
def lvs (cl : List (Nat → Int32)) (d nt : Nat) : Nat → Nat → List Nat
  | 0, s => [s]
  | k + 1, s => (if canB cl d s (nt - (k + 1)) = true then lvs cl d nt k s else []) ++ (if d.testBit (nt - (k + 1)) = true then [] else lvs cl d nt k (s ||| 2 ^ (nt - (k + 1))))
def stp (q : Nat × Nat × Nat) (s : Nat) : Nat × Nat × Nat := if q.2.2 < pcN s then q else if pcN s < q.2.2 then (s, 1, pcN s) else (q.1, q.2.1 + 1, q.2.2)
theorem bit_or {s t : Nat} (j : Nat) : (s ||| 2 ^ t).testBit j = (s.testBit j || decide (t = j)) := by rw [Nat.testBit_or, Nat.testBit_two_pow]
theorem lvs_pc {cl : List (Nat → Int32)} {d nt : Nat} (hn : nt ≤ 10) : ∀ k s, k ≤ nt → s < 2 ^ (nt - k) → ∀ x ∈ lvs cl d nt k s, pcN s ≤ pcN x := by
  intro k
  induction k with
  | zero =>
    intro s _ _ x hx
    rw [List.mem_singleton.mp hx]
    exact Nat.le_refl _
  | succ k ih =>
    intro s hk hs x hx
    have hs2 : s < 2 ^ (nt - k) := Nat.lt_of_lt_of_le hs (Nat.pow_le_pow_right (by decide) (by omega))
    have hs3 : s ||| 2 ^ (nt - (k + 1)) < 2 ^ (nt - k) := Nat.or_lt_two_pow hs2 (Nat.pow_lt_pow_right (by decide) (by omega))
    have hsb : s.testBit (nt - (k + 1)) = false := bits_of_lt hs (Nat.le_refl _)
    have hs10 : s < 1024 := Nat.lt_of_lt_of_le hs (Nat.pow_le_pow_right (by decide) (by omega : nt - (k + 1) ≤ 10))
    rcases List.mem_append.mp hx with h | h
    · split at h
      · exact ih s (by omega) hs2 x h
      · exact nomatch h
    · split at h
      · exact nomatch h
      · have h1 := ih _ (by omega) hs3 x h
        rw [pc_more s hs10 _ (by omega) hsb] at h1
        omega
theorem fold_skip {q : Nat × Nat × Nat} : ∀ L : List Nat, (∀ x ∈ L, q.2.2 < pcN x) → L.foldl stp q = q
  | [], _ => rfl
  | x :: L, h => by
    rw [List.foldl_cons]
    have e : stp q x = q := if_pos (h x List.mem_cons_self)
    rw [e]
    exact fold_skip L (fun y hy => h y (List.mem_cons_of_mem _ hy))
theorem dcd_fold {cl : List (Nat → Int32)} {d nt : Nat} (hn : nt ≤ 10) : ∀ k s q, k ≤ nt → s < 2 ^ (nt - k) → dcd cl d nt k s q = (lvs cl d nt k s).foldl stp q := by
  intro k
  induction k with
  | zero => intro s q _ _; rfl
  | succ k ih =>
    intro s q hk hs
    have hs2 : s < 2 ^ (nt - k) := Nat.lt_of_lt_of_le hs (Nat.pow_le_pow_right (by decide) (by omega))
    have hs3 : s ||| 2 ^ (nt - (k + 1)) < 2 ^ (nt - k) := Nat.or_lt_two_pow hs2 (Nat.pow_lt_pow_right (by decide) (by omega))
    rw [dcd]
    by_cases h0 : q.2.2 < pcN s
    · rw [if_pos h0, fold_skip _ (fun x hx => Nat.lt_of_lt_of_le h0 (lvs_pc hn (k + 1) s hk hs x hx))]
    · rw [if_neg h0, lvs, List.foldl_append]
      have e1 : (if canB cl d s (nt - (k + 1)) = true then dcd cl d nt k s q else q) = (if canB cl d s (nt - (k + 1)) = true then lvs cl d nt k s else []).foldl stp q := by
        by_cases h2 : canB cl d s (nt - (k + 1)) = true
        · rw [if_pos h2, if_pos h2]
          exact ih s q (by omega) hs2
        · rw [if_neg h2, if_neg h2]
          rfl
      by_cases h1 : d.testBit (nt - (k + 1)) = true
      · rw [if_pos h1, if_pos h1, e1]
        rfl
      · rw [if_neg h1, if_neg h1, e1]
        exact ih _ _ (by omega) hs3
/-- what the fold gives: the first of the smallest, how many -/
theorem fold_rest {m : Nat} : ∀ (L : List Nat) (l c : Nat), (∀ x ∈ L, m ≤ pcN x) → L.foldl stp (l, c, m) = (l, c + (L.filter (fun x => pcN x == m)).length, m)
  | [], l, c, _ => rfl
  | x :: L, l, c, h => by
    rw [List.foldl_cons]
    have hx := h x List.mem_cons_self
    have h2 := fun y hy => h y (List.mem_cons_of_mem x hy)
    by_cases he : pcN x = m
    · have e : stp (l, c, m) x = (l, c + 1, m) := by
        unfold stp
        rw [if_neg (by show ¬ m < pcN x; omega), if_neg (by show ¬ pcN x < m; omega)]
      rw [e, fold_rest L _ _ h2, List.filter_cons_of_pos (by simp [he]), List.length_cons]
      congr 2
      omega
    · have e : stp (l, c, m) x = (l, c, m) := if_pos (by show m < pcN x; omega)
      rw [e, fold_rest L _ _ h2, List.filter_cons_of_neg (by simp [he])]
theorem fold_all {m : Nat} : ∀ (L : List Nat) (q : Nat × Nat × Nat), m < q.2.2 → (∀ x ∈ L, m ≤ pcN x) → ∀ y E, L.filter (fun x => pcN x == m) = y :: E → L.foldl stp q = (y, E.length + 1, m)
  | [], q, _, _, y, E, h => nomatch h
  | x :: L, q, hq, h, y, E, hE => by
    rw [List.foldl_cons]
    have hx := h x List.mem_cons_self
    have h2 := fun y hy => h y (List.mem_cons_of_mem x hy)
    by_cases he : pcN x = m
    · rw [List.filter_cons_of_pos (by simp [he])] at hE
      obtain ⟨rfl, rfl⟩ := List.cons.inj hE
      have e : stp q x = (x, 1, m) := by
        unfold stp
        rw [if_neg (by omega), if_pos (by omega), he]
      rw [e, fold_rest L _ _ h2, Nat.add_comm]
    · rw [List.filter_cons_of_neg (by simp [he])] at hE
      refine fold_all L _ ?_ h2 y E hE
      unfold stp
      split
      · exact hq
      · split
        · show m < pcN x
          omega
        · exact hq
/-- which sets are looked at -/
theorem canS_cong {cl : List (Nat → Int32)} {d s x t : Nat} : ∀ o, (∀ j, j < o → s.testBit j = x.testBit j) → canS cl d s t o = canS cl d x t o
  | 0, _ => rfl
  | o + 1, h => by
    show (canS cl d s t o && (s.testBit o || !conS cl d t o)) = (canS cl d x t o && (x.testBit o || !conS cl d t o))
    rw [canS_cong o (fun j hj => h j (by omega)), h o (by omega)]
theorem canB_cong {cl : List (Nat → Int32)} {d s x t : Nat} (h : ∀ j, j < t → s.testBit j = x.testBit j) : canB cl d s t = canB cl d x t := by
  unfold canB
  rw [canS_cong t h]
theorem canS_iff {cl : List (Nat → Int32)} {d s t : Nat} : ∀ o, canS cl d s t o = true ↔ ((d.testBit t = true ∨ conS cl d t t = false) ∧ ∀ j, j < o → (s.testBit j = true ∨ conS cl d t j = false))
  | 0 => by
    unfold canS
    rw [Bool.or_eq_true, Bool.not_eq_true']
    exact ⟨fun h => ⟨h, fun j hj => absurd hj (Nat.not_lt_zero _)⟩, fun h => h.1⟩
  | o + 1 => by
    rw [canS, Bool.and_eq_true, canS_iff o, Bool.or_eq_true, Bool.not_eq_true']
    constructor
    · rintro ⟨⟨h1, h2⟩, h3⟩
      refine ⟨h1, fun j hj => ?_⟩
      by_cases hjo : j < o
      · exact h2 j hjo
      · have e : j = o := by omega
        rw [e]
        exact h3
    · rintro ⟨h1, h2⟩
      exact ⟨⟨h1, fun j hj => h2 j (by omega)⟩, h2 o (by omega)⟩
theorem canB_iff {cl : List (Nat → Int32)} {d s t : Nat} : canB cl d s t = true ↔ (d.testBit t = true ∨ (conS cl d t t = false ∧ ∀ j, j < t → (s.testBit j = true ∨ conS cl d t j = false))) := by
  unfold canB
  by_cases h : d.testBit t = true
  · rw [if_pos h]
    exact ⟨fun _ => Or.inl h, fun _ => rfl⟩
  · rw [if_neg h, canS_iff]
    constructor
    · rintro ⟨h1, h2⟩
      rcases h1 with h1 | h1
      · exact absurd h1 h
      · exact Or.inr ⟨h1, h2⟩
    · rintro (h1 | ⟨h1, h2⟩)
      · exact absurd h1 h
      · exact ⟨Or.inr h1, h2⟩
/-- the set x from the place p on -/
def Lf (cl : List (Nat → Int32)) (d nt p x : Nat) : Prop := x < 2 ^ nt ∧ ∀ t, p ≤ t → t < nt → (x.testBit t = true → d.testBit t = false) ∧ (x.testBit t = false → canB cl d x t = true)
theorem eq_bits {a b n : Nat} (ha : a < 2 ^ n) (hb : b < 2 ^ n) (h : ∀ j, j < n → a.testBit j = b.testBit j) : a = b := by
  refine Nat.eq_of_testBit_eq fun j => ?_
  by_cases hj : j < n
  · exact h j hj
  · rw [bits_of_lt ha (by omega), bits_of_lt hb (by omega)]
theorem lvs_iff {cl : List (Nat → Int32)} {d nt : Nat} : ∀ k s, k ≤ nt → s < 2 ^ (nt - k) → ∀ x, x ∈ lvs cl d nt k s ↔ ((∀ j, j < nt - k → x.testBit j = s.testBit j) ∧ Lf cl d nt (nt - k) x) := by
  intro k
  induction k with
  | zero =>
    intro s _ hs x
    rw [Nat.sub_zero] at hs ⊢
    show x ∈ [s] ↔ _
    rw [List.mem_singleton]
    constructor
    · rintro rfl
      exact ⟨fun _ _ => rfl, hs, fun t h1 h2 => absurd h2 (by omega)⟩
    · rintro ⟨h1, h2, -⟩
      exact eq_bits h2 hs h1
  | succ k ih =>
    intro s hk hs x
    have e1 : nt - k = nt - (k + 1) + 1 := by omega
    have hs2 : s < 2 ^ (nt - k) := Nat.lt_of_lt_of_le hs (Nat.pow_le_pow_right (by decide) (by omega))
    have hs3 : s ||| 2 ^ (nt - (k + 1)) < 2 ^ (nt - k) := Nat.or_lt_two_pow hs2 (Nat.pow_lt_pow_right (by decide) (by omega))
    have hsb : s.testBit (nt - (k + 1)) = false := bits_of_lt hs (Nat.le_refl _)
    have i1 := ih s (by omega) hs2 x
    have i2 := ih _ (by omega) hs3 x
    rw [lvs, List.mem_append]
    generalize nt - (k + 1) = p at *
    have hp : p < nt := by omega
    rw [e1] at i1 i2
    constructor
    · rintro (h | h)
      · split at h
        · rename_i hc
          obtain ⟨h1, h2, h3⟩ := i1.mp h
          refine ⟨fun j hj => h1 j (by omega), h2, fun t ht1 ht2 => ?_⟩
          by_cases htp : t = p
          · subst htp
            have hx : x.testBit t = false := (h1 t (by omega)).trans hsb
            refine ⟨fun h9 => ?_, fun _ => ?_⟩
            · rw [hx] at h9
              cases h9
            · rw [canB_cong (x := s) (fun j hj => h1 j (by omega))]
              exact hc
          · exact h3 t (by omega) ht2
        · exact nomatch h
      · split at h
        · exact nomatch h
        · rename_i hd
          obtain ⟨h1, h2, h3⟩ := i2.mp h
          refine ⟨fun j hj => ?_, h2, fun t ht1 ht2 => ?_⟩
          · rw [h1 j (by omega), bit_or, decide_eq_false (show ¬ p = j by omega), Bool.or_false]
          · by_cases htp : t = p
            · subst htp
              have hx : x.testBit t = true := by rw [h1 t (by omega), bit_or, decide_eq_true rfl, Bool.or_true]
              refine ⟨fun _ => ?_, fun h9 => ?_⟩
              · simpa using hd
              · rw [hx] at h9
                cases h9
            · exact h3 t (by omega) ht2
    · rintro ⟨h1, h2, h3⟩
      cases hx : x.testBit p with
      | false =>
        refine Or.inl ?_
        have hc := (h3 p (Nat.le_refl _) hp).2 hx
        rw [canB_cong (x := s) (fun j hj => h1 j hj)] at hc
        rw [if_pos hc]
        refine i1.mpr ⟨fun j hj => ?_, h2, fun t ht1 ht2 => h3 t (by omega) ht2⟩
        by_cases hjp : j = p
        · rw [hjp, hx, hsb]
        · exact h1 j (by omega)
      | true =>
        refine Or.inr ?_
        have hd := (h3 p (Nat.le_refl _) hp).1 hx
        rw [if_neg (by rw [hd]; decide)]
        refine i2.mpr ⟨fun j hj => ?_, h2, fun t ht1 ht2 => h3 t (by omega) ht2⟩
        rw [bit_or]
        by_cases hjp : j = p
        · rw [hjp, hx, decide_eq_true rfl, Bool.or_true]
        · rw [h1 j (by omega), decide_eq_false (show ¬ p = j by omega), Bool.or_false]
/-- their order: the first is preferred to all behind it -/
theorem low_least : ∀ d, d < 1024 → ∀ k, k < 10 → d.testBit k = true → (∀ j, j < k → d.testBit j = false) → lowN d = 2 ^ k := by decide +kernel
theorem and_pow (a k : Nat) : a &&& 2 ^ k = 0 ↔ a.testBit k = false := by
  constructor
  · intro h
    have : (a &&& 2 ^ k).testBit k = false := by rw [h, Nat.zero_testBit]
    rw [Nat.testBit_and, Nat.testBit_two_pow_self, Bool.and_true] at this
    exact this
  · intro h
    refine Nat.eq_of_testBit_eq fun j => ?_
    rw [Nat.testBit_and, Nat.testBit_two_pow, Nat.zero_testBit]
    by_cases hj : k = j
    · rw [← hj, h]
      rfl
    · rw [decide_eq_false hj, Bool.and_false]
theorem pref_at {x z p : Nat} (hx : x < 1024) (hz : z < 1024) (hp : p < 10) (h : ∀ j, j < p → x.testBit j = z.testBit j) (hxp : x.testBit p = false) (hzp : z.testBit p = true) : pref x z = true ∧ pref z x = false := by
  have hd : ∀ a b : Nat, (∀ j, j < p → a.testBit j = b.testBit j) → a.testBit p ≠ b.testBit p → a < 1024 → b < 1024 → lowN (a ^^^ b) = 2 ^ p := by
    intro a b h1 h2 ha hb
    refine low_least _ (xor_lt (n := 10) ha hb) p hp ?_ (fun j hj => ?_)
    · rw [Nat.testBit_xor]
      revert h2
      cases a.testBit p <;> cases b.testBit p <;> decide
    · rw [Nat.testBit_xor, h1 j hj, Bool.xor_self]
  unfold pref
  rw [hd x z h (by rw [hxp, hzp]; decide) hx hz, hd z x (fun j hj => (h j hj).symm) (by rw [hxp, hzp]; decide) hz hx]
  refine ⟨by rw [(and_pow x p).mpr hxp]; rfl, ?_⟩
  have : ¬ z &&& 2 ^ p = 0 := fun h9 => by
    rw [(and_pow z p).mp h9] at hzp
    cases hzp
  simpa using this
theorem lvs_pair {cl : List (Nat → Int32)} {d nt : Nat} (hn : nt ≤ 10) : ∀ k s, k ≤ nt → s < 2 ^ (nt - k) → (lvs cl d nt k s).Pairwise (fun x z => pref x z = true ∧ pref z x = false) := by
  intro k
  induction k with
  | zero => intro s _ _; exact List.pairwise_singleton _ _
  | succ k ih =>
    intro s hk hs
    have hs2 : s < 2 ^ (nt - k) := Nat.lt_of_lt_of_le hs (Nat.pow_le_pow_right (by decide) (by omega))
    have hs3 : s ||| 2 ^ (nt - (k + 1)) < 2 ^ (nt - k) := Nat.or_lt_two_pow hs2 (Nat.pow_lt_pow_right (by decide) (by omega))
    have hsb : s.testBit (nt - (k + 1)) = false := bits_of_lt hs (Nat.le_refl _)
    rw [lvs]
    refine List.pairwise_append.mpr ⟨?_, ?_, ?_⟩
    · split
      · exact ih s (by omega) hs2
      · exact List.Pairwise.nil
    · split
      · exact List.Pairwise.nil
      · exact ih _ (by omega) hs3
    · intro x hx z hz
      split at hx
      · split at hz
        · exact nomatch hz
        · obtain ⟨x1, x2, -⟩ := (lvs_iff k s (by omega) hs2 x).mp hx
          obtain ⟨z1, z2, -⟩ := (lvs_iff k _ (by omega) hs3 z).mp hz
          have w : 2 ^ nt ≤ 1024 := (Nat.pow_le_pow_right (by decide) hn : 2 ^ nt ≤ 2 ^ 10)
          refine pref_at (p := nt - (k + 1)) (by omega) (by omega) (by omega) (fun j hj => ?_) ?_ ?_
          · rw [x1 j (by omega), z1 j (by omega), bit_or, decide_eq_false (show ¬ nt - (k + 1) = j by omega), Bool.or_false]
          · rw [x1 _ (by omega), hsb]
          · rw [z1 _ (by omega), bit_or, decide_eq_true rfl, Bool.or_true]
      · exact nomatch hx
/-- who is against whom, as the class keeps it -/
def AcS (cl : List (Nat → Int32)) (A : Nat → Nat) : Prop := ∀ t s, t < 10 → s < 10 → (A t).testBit s = cfS cl t s
theorem enough_iff {cl : List (Nat → Int32)} {A : Nat → Nat} {d nt x : Nat} (hA : AcS cl A) (hn : nt ≤ 10) (hx : dif x (belN nt d) = 0) : enB A nt (dif (belN nt d) x) = true ↔ ∀ t, t < nt → x.testBit t = false → canB cl d x t = true := by
  have hb : ∀ k, x.testBit k = true → k < nt ∧ d.testBit k = false := by
    intro k hk
    have := (ext_iff_dif.mp hx) k hk
    rw [bel_bit, Bool.and_eq_true, decide_eq_true_eq, Bool.not_eq_true'] at this
    exact this
  have hr : ∀ k, (dif (belN nt d) x).testBit k = true ↔ k < nt ∧ d.testBit k = false ∧ x.testBit k = false := by
    intro k
    rw [dif_bit, bel_bit, Bool.and_eq_true, Bool.and_eq_true, decide_eq_true_eq, Bool.not_eq_true', Bool.not_eq_true', and_assoc]
  rw [en_iff]
  constructor
  · intro h t ht hxt
    rw [canB_iff]
    by_cases hd : d.testBit t = true
    · exact Or.inl hd
    · have hd0 : d.testBit t = false := by simpa using hd
      have ht2 := (hr t).mpr ⟨ht, hd0, hxt⟩
      refine Or.inr ⟨?_, fun j hj => ?_⟩
      · have := h t ht ht2 t ht2
        rw [hA t t (by omega) (by omega)] at this
        rw [conS_cf, this, Bool.and_false]
      · by_cases hxj : x.testBit j = true
        · exact Or.inl hxj
        · refine Or.inr ?_
          have hxj0 : x.testBit j = false := by simpa using hxj
          rw [conS_cf]
          cases hdj : d.testBit j with
          | true => simp
          | false =>
            have := h t ht ht2 j ((hr j).mpr ⟨by omega, hdj, hxj0⟩)
            rw [hA t j (by omega) (by omega)] at this
            rw [this, Bool.and_false]
  · intro h t ht ht2 j hj
    obtain ⟨-, dt, xt⟩ := (hr t).mp ht2
    obtain ⟨jn, dj, xj⟩ := (hr j).mp hj
    rw [hA t j (by omega) (by omega)]
    have key : ∀ a b, a < nt → b ≤ a → d.testBit a = false → d.testBit b = false → x.testBit a = false → x.testBit b = false → cfS cl a b = false := by
      intro a b ha hba da db xa xb
      have hc := (canB_iff.mp (h a ha xa)).resolve_left (by rw [da]; decide)
      by_cases e : b = a
      · have h1 := hc.1
        rw [conS_cf, da] at h1
        rw [e]
        simpa using h1
      · have h1 := (hc.2 b (by omega)).resolve_left (by rw [xb]; decide)
        rw [conS_cf, da, db] at h1
        simpa using h1
    by_cases hjt : j ≤ t
    · exact key t j ht hjt dt dj xt xj
    · rw [cfS_sym]
      exact key j t jn (by omega) dj dt xj xt
theorem lvs_all {cl : List (Nat → Int32)} {A : Nat → Nat} {d nt x : Nat} (hA : AcS cl A) (hn : nt ≤ 10) : x ∈ lvs cl d nt nt 0 ↔ (dif x (belN nt d) = 0 ∧ enB A nt (dif (belN nt d) x) = true) := by
  rw [lvs_iff nt 0 (Nat.le_refl _) (by rw [Nat.sub_self]; exact Nat.one_pos), Nat.sub_self]
  constructor
  · rintro ⟨-, h1, h2⟩
    have hs : dif x (belN nt d) = 0 := by
      rw [ext_iff_dif]
      intro k hk
      have hk2 : k < nt := by
        by_cases h : k < nt
        · exact h
        · rw [bits_of_lt h1 (by omega)] at hk
          cases hk
      rw [bel_bit, (h2 k (Nat.zero_le _) hk2).1 hk, decide_eq_true hk2]
      rfl
    exact ⟨hs, (enough_iff hA hn hs).mpr (fun t ht => (h2 t (Nat.zero_le _) ht).2)⟩
  · rintro ⟨h1, h2⟩
    have hlt : x < 2 ^ nt := Nat.lt_of_le_of_lt (le_of_dif h1) bel_lt
    refine ⟨fun j hj => absurd hj (Nat.not_lt_zero _), hlt, fun t _ ht => ⟨fun hx => ?_, (enough_iff hA hn h1).mp h2 t ht⟩⟩
    have := (ext_iff_dif.mp h1) t hx
    rw [bel_bit, Bool.and_eq_true, Bool.not_eq_true'] at this
    exact this.2
theorem pk_first {x : Nat} : ∀ (E : List Nat) (l : Nat), (l = x ∨ x ∈ E) → (∀ z, (z = l ∨ z ∈ E) → z = x ∨ (pref x z = true ∧ pref z x = false)) → E.foldl pk l = x
  | [], l, h, _ => h.elim (fun e => e) (fun e => nomatch e)
  | s :: E, l, h, hz => by
    rw [List.foldl_cons]
    have hl := hz l (Or.inl rfl)
    have hs := hz s (Or.inr List.mem_cons_self)
    have hp : pk l s = l ∨ pk l s = s := by unfold pk; split <;> simp
    refine pk_first E (pk l s) ?_ (fun z hz2 => ?_)
    · by_cases hx : x ∈ E
      · exact Or.inr hx
      · refine Or.inl ?_
        unfold pk
        by_cases e1 : s = x
        · subst e1
          by_cases e2 : l = s
          · rw [e2]
            split <;> rfl
          · rw [if_pos (hl.resolve_left e2).1]
        · have e2 : l = x := by
            rcases h with h | h
            · exact h
            · rcases List.mem_cons.mp h with h9 | h9
              · exact absurd h9.symm e1
              · exact absurd h9 hx
          subst e2
          rw [if_neg (by rw [(hs.resolve_left e1).2]; decide)]
    · rcases hz2 with rfl | h9
      · rcases hp with e | e
        · rw [e]; exact hl
        · rw [e]; exact hs
      · exact hz z (Or.inr (List.mem_cons_of_mem _ h9))
theorem symA_of {cl : List (Nat → Int32)} {A : Nat → Nat} (hA : AcS cl A) : symA A := fun i j hi hj => by rw [hA i j hi hj, hA j i hj hi, cfS_sym]
/-- both ways give the same -/
theorem dcd_same {cl : List (Nat → Int32)} {A : Nat → Nat} {d nt : Nat} (hA : AcS cl A) (hn : nt ≤ 10) : dcd cl d nt nt 0 (0, 0, 99) = (lsN A nt d, csN A nt d, pcN (lsN A nt d)) ∧ 0 < csN A nt d ∧ lsN A nt d ∈ lvs cl d nt nt 0 ∧ (∀ z ∈ lvs cl d nt nt 0, pcN (lsN A nt d) ≤ pcN z) ∧ csN A nt d = ((lvs cl d nt nt 0).filter (fun x => pcN x == pcN (lsN A nt d))).length := by
  obtain ⟨m, l, c, e1, -, e3, e4, e5, e6⟩ := same_sets (A := A) (bel := belN nt d) hn bel_lt (symA_of hA)
  have hL : lsN A nt d = l := by unfold lsN resN; rw [e1]
  have hC : csN A nt d = c := by unfold csN resN; rw [e1]
  rw [hL, hC]
  have hLM : ∀ z, z ∈ listM (belN nt d) ↔ dif z (belN nt d) = 0 := by
    intro z
    unfold listM
    rw [List.mem_filter, List.mem_range, beq_iff_eq]
    exact ⟨fun h => h.2, fun h => ⟨Nat.lt_succ_of_le (le_of_dif h), h⟩⟩
  obtain ⟨s0, m0, ⟨q1, q2⟩, q3, hmin⟩ := ex_min (Q := fun s => dif s (belN nt d) = 0 ∧ enB A nt (dif (belN nt d) s) = true) (f := pcN) (pcN (belN nt d)) (belN nt d) ⟨by unfold dif; rw [Nat.and_self, Nat.xor_self], by rw [show dif (belN nt d) (belN nt d) = 0 by unfold dif; rw [Nat.and_self, Nat.xor_self], en_iff]; intro t _ h; rw [Nat.zero_testBit] at h; cases h⟩ rfl
  have hne : (listM (belN nt d)).filter (cand A nt (belN nt d) m0) ≠ [] := by
    intro h
    have : s0 ∈ (listM (belN nt d)).filter (cand A nt (belN nt d) m0) := List.mem_filter.mpr ⟨(hLM s0).mpr q1, by unfold cand; rw [q2, q3]; simp⟩
    rw [h] at this
    exact nomatch this
  have e7 := psi_all A nt (belN nt d) m0 (listM (belN nt d)) none (fun q h => nomatch h) (fun s hs he => hmin s ⟨(hLM s).mp hs, he⟩) hne
  rw [e1] at e7
  generalize hF2 : (listM (belN nt d)).filter (cand A nt (belN nt d) m0) = F2 at e7 hne
  cases F2 with
  | nil => exact absurd rfl hne
  | cons y E =>
    have e8 : some (m, l, c) = some (m0, E.foldl pk y, E.length + 1) := e7
    injection e8 with e8
    injection e8 with em e8
    injection e8 with el ec
    subst em
    have mem2 : ∀ z, z ∈ (lvs cl d nt nt 0).filter (fun x => pcN x == m) ↔ z ∈ y :: E := by
      intro z
      rw [← hF2, List.mem_filter, List.mem_filter, lvs_all hA hn, hLM]
      unfold cand
      rw [Bool.and_eq_true, and_assoc]
    have hpw := List.Pairwise.filter (fun x => pcN x == m) (lvs_pair (cl := cl) (d := d) hn nt 0 (Nat.le_refl _) (by rw [Nat.sub_self]; exact Nat.one_pos))
    have hnd1 : ((lvs cl d nt nt 0).filter (fun x => pcN x == m)).Nodup := hpw.imp (fun {a b} h e => by
      subst e
      rw [h.1] at h
      exact absurd h.2 (by decide))
    have hnd2 : (y :: E).Nodup := by
      rw [← hF2]
      exact (List.Pairwise.filter _ (List.Pairwise.filter _ List.nodup_range))
    have hlen : ((lvs cl d nt nt 0).filter (fun x => pcN x == m)).length = (y :: E).length := (List.Perm.length_eq ((List.perm_ext_iff_of_nodup hnd1 hnd2).mpr mem2))
    have hmall : ∀ z ∈ lvs cl d nt nt 0, m ≤ pcN z := fun z hz => hmin z ((lvs_all hA hn).mp hz)
    generalize hF1 : (lvs cl d nt nt 0).filter (fun x => pcN x == m) = F1 at hpw hlen mem2
    cases F1 with
    | nil => exact absurd hlen (by simp)
    | cons x E1 =>
      have hx : l = x := by
        rw [el]
        refine pk_first E y ?_ (fun z hz => ?_)
        · rcases List.mem_cons.mp ((mem2 x).mp List.mem_cons_self) with h | h
          · exact Or.inl h.symm
          · exact Or.inr h
        · have hz1 : z ∈ x :: E1 := (mem2 z).mpr (List.mem_cons.mpr hz)
          rcases List.mem_cons.mp hz1 with h | h
          · exact Or.inl h
          · exact Or.inr ((List.pairwise_cons.mp hpw).1 z h)
      have hxm : x ∈ lvs cl d nt nt 0 := by
        have : x ∈ (lvs cl d nt nt 0).filter (fun x => pcN x == m) := by rw [hF1]; exact List.mem_cons_self
        exact (List.mem_filter.mp this).1
      refine ⟨?_, by omega, by rw [hx]; exact hxm, by rw [← e3]; exact hmall, by rw [← e3, hF1, hlen, ec]; rfl⟩
      rw [dcd_fold hn nt 0 _ (Nat.le_refl _) (by rw [Nat.sub_self]; exact Nat.one_pos), fold_all (lvs cl d nt nt 0) (0, 0, 99) (by show m < 99; omega) hmall x E1 hF1, hx, ← hx, ← e3, ec]
      have h9 : E1.length = E.length := by simpa using hlen
      rw [h9]
