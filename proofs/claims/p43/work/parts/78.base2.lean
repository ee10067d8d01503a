def o1 (c : Int32) : Nat → Int32 := upd (fun _ => 0) 0 c
theorem o1_0 (c : Int32) : o1 c 0 = c := rfl
theorem o1_u (c v : Int32) : upd (o1 c) 0 v = o1 v := by
  funext j
  unfold o1 upd
  by_cases h : j = 0
  · rw [if_pos h, if_pos h]
  · rw [if_neg h, if_neg h, if_neg h]
theorem dbF_zero : (fun _ => (0 : Int32)) = dbF 0 := by
  funext j
  rw [dbF_f (Nat.zero_testBit j)]
theorem dbF_on {s t : Nat} : upd (dbF s) t 1 = dbF (s ||| 2 ^ t) := by
  funext j
  unfold upd dbF
  by_cases h : j = t
  · subst h
    rw [if_pos rfl, Nat.testBit_or, Nat.testBit_two_pow_self, Bool.or_true, if_pos rfl]
  · rw [if_neg h, Nat.testBit_or, Nat.testBit_two_pow, decide_eq_false (fun e => h e.symm), Bool.or_false]
theorem dbF_off {s t : Nat} (hs : s.testBit t = false) : upd (dbF s) t 0 = dbF s := by
  funext j
  unfold upd
  by_cases h : j = t
  · subst h
    rw [if_pos rfl, dbF_f hs]
  · rw [if_neg h]
theorem dbF_out {s t : Nat} (hs : s.testBit t = false) : upd (dbF (s ||| 2 ^ t)) t 0 = dbF s := by
  rw [← dbF_on]
  funext j
  unfold upd
  by_cases h : j = t
  · rw [if_pos h, h, dbF_f hs]
  · rw [if_neg h, if_neg h]
theorem pc_more : ∀ s, s < 1024 → ∀ t, t < 10 → s.testBit t = false → pcN (s ||| 2 ^ t) = pcN s + 1 := by decide +kernel
/-- the teller t may be truthful beside the liars s of those before -/
def canS (cl : List (Nat → Int32)) (d s t : Nat) : Nat → Bool
  | 0 => d.testBit t || !conS cl d t t
  | o + 1 => canS cl d s t o && (s.testBit o || !conS cl d t o)
def canB (cl : List (Nat → Int32)) (d s t : Nat) : Bool := if d.testBit t = true then true else canS cl d s t t
def dcd (cl : List (Nat → Int32)) (d nt : Nat) : Nat → Nat → Nat × Nat × Nat → Nat × Nat × Nat
  | 0, s, q => if q.2.2 < pcN s then q else if pcN s < q.2.2 then (s, 1, pcN s) else (q.1, q.2.1 + 1, q.2.2)
  | k + 1, s, q => if q.2.2 < pcN s then q else
      if d.testBit (nt - (k + 1)) = true then (if canB cl d s (nt - (k + 1)) = true then dcd cl d nt k s q else q)
      else dcd cl d nt k (s ||| 2 ^ (nt - (k + 1))) (if canB cl d s (nt - (k + 1)) = true then dcd cl d nt k s q else q)
theorem dcd_ok (cl : List (Nat → Int32)) (d nt : Nat) (hn : nt ≤ 10) : ∀ k s q, k ≤ nt → s < 2 ^ (nt - k) → q.1 < 2 ^ nt → q.2.2 ≤ 99 → (dcd cl d nt k s q).1 < 2 ^ nt ∧ (dcd cl d nt k s q).2.2 ≤ 99 := by
  intro k
  induction k with
  | zero =>
    intro s q _ hs h1 h2
    show (if q.2.2 < pcN s then q else if pcN s < q.2.2 then (s, 1, pcN s) else (q.1, q.2.1 + 1, q.2.2)).1 < 2 ^ nt ∧ _
    rw [dcd]
    split
    · exact ⟨h1, h2⟩
    · split
      · exact ⟨by simpa using hs, by show pcN s ≤ 99; omega⟩
      · exact ⟨h1, h2⟩
  | succ k ih =>
    intro s q hk hs h1 h2
    have e1 : nt - k = nt - (k + 1) + 1 := by omega
    have hs2 : s < 2 ^ (nt - k) := Nat.lt_of_lt_of_le hs (Nat.pow_le_pow_right (by decide) (by omega))
    have hs3 : s ||| 2 ^ (nt - (k + 1)) < 2 ^ (nt - k) := Nat.or_lt_two_pow hs2 (Nat.pow_lt_pow_right (by decide) (by omega))
    have hq : (if canB cl d s (nt - (k + 1)) = true then dcd cl d nt k s q else q).1 < 2 ^ nt ∧ (if canB cl d s (nt - (k + 1)) = true then dcd cl d nt k s q else q).2.2 ≤ 99 := by
      split
      · exact ih s q (by omega) hs2 h1 h2
      · exact ⟨h1, h2⟩
    rw [dcd]
    split
    · exact ⟨h1, h2⟩
    · split
      · exact hq
      · exact ih _ _ (by omega) hs3 hq.1 hq.2
/-- rows of truths, one after the other -/
def agW (g : GG) (r : Nat → Nat) (n m : Nat) (G : Nat → Nat → Int32) : va_W := (List.range n).map (fun i => (r i, zA g m (G i)))
theorem agW_get {g : GG} {r : Nat → Nat} {n m a : Nat} {G : Nat → Nat → Int32} {t : va_W} (ha : a < n) : (agW g r n m G ++ t)[a]? = some (r a, zA g m (G a)) := by
  unfold agW
  rw [List.getElem?_append_left (by simpa using ha), List.getElem?_map, List.getElem?_range ha]
  rfl
theorem agW_set {g : GG} {r : Nat → Nat} {n m a : Nat} {G G2 : Nat → Nat → Int32} {t : va_W} (ha : a < n) (h : ∀ i, i ≠ a → G2 i = G i) : (agW g r n m G ++ t).set a (r a, zA g m (G2 a)) = agW g r n m G2 ++ t := by
  unfold agW
  rw [List.set_append_left _ _ (by simpa using ha)]
  congr 1
  apply List.ext_getElem?
  intro i
  by_cases hi : i = a
  · subst hi
    rw [List.getElem?_set_self (by simpa using ha), List.getElem?_map, List.getElem?_range ha]
    rfl
  · rw [List.getElem?_set_ne (fun e => hi e.symm), List.getElem?_map, List.getElem?_map]
    by_cases h2 : i < n
    · rw [List.getElem?_range h2]
      show some (r i, zA g m (G i)) = some (r i, zA g m (G2 i))
      rw [h i hi]
    · rw [List.getElem?_eq_none (by simpa using h2)]
      rfl
theorem agW_mem {g : GG} {r : Nat → Nat} {n m a : Nat} {G : Nat → Nat → Int32} (ha : a < n) : (r a, zA g m (G a)) ∈ agW g r n m G := List.mem_map.mpr ⟨a, List.mem_range.mpr ha, rfl⟩
def agF (cl : List (Nat → Int32)) (d nt a b : Nat) : Nat → Nat → Int32 := fun i j => if (i < a ∨ (i = a ∧ j < b)) ∧ j < nt then bI (conS cl d i j) else 0
theorem agF_0 (cl : List (Nat → Int32)) (d nt : Nat) : (fun _ => (fun _ => (0 : Int32))) = agF cl d nt 0 0 := by
  funext i j
  unfold agF
  rw [if_neg (by omega)]
theorem agF_row (cl : List (Nat → Int32)) (d nt a : Nat) : agF cl d nt a nt = agF cl d nt (a + 1) 0 := by
  funext i j
  unfold agF
  by_cases h : (i < a ∨ (i = a ∧ j < nt)) ∧ j < nt
  · rw [if_pos h, if_pos ⟨by omega, h.2⟩]
  · rw [if_neg h, if_neg (by omega)]
theorem agF_put (cl : List (Nat → Int32)) (d nt a b : Nat) (hb : b < nt) : upd (agF cl d nt a b a) b (bI (conS cl d a b)) = agF cl d nt a (b + 1) a ∧ ∀ i, i ≠ a → agF cl d nt a (b + 1) i = agF cl d nt a b i := by
  refine ⟨?_, fun i hi => ?_⟩
  · funext j
    unfold upd agF
    by_cases h : j = b
    · subst h
      rw [if_pos rfl, if_pos ⟨Or.inr ⟨rfl, by omega⟩, hb⟩]
    · rw [if_neg h]
      by_cases h2 : (a < a ∨ (a = a ∧ j < b)) ∧ j < nt
      · rw [if_pos h2, if_pos ⟨by omega, h2.2⟩]
      · rw [if_neg h2, if_neg (by omega)]
  · funext j
    unfold agF
    by_cases h2 : (i < a ∨ (i = a ∧ j < b)) ∧ j < nt
    · rw [if_pos h2, if_pos ⟨by omega, h2.2⟩]
    · rw [if_neg h2, if_neg (by omega)]
def bestF (b0 b1 b2 : Nat) : Nat → Option Nat := va_up (va_up (va_up (fun _ => none) 0 (some b0)) 1 (some b1)) 2 (some b2)
theorem bI_nar (b : Bool) : vp_nar .boolean (bI b) = bI b := by cases b <;> rfl
theorem cpR {l s nt : Nat} : ∀ k, k ≤ nt → True := fun _ _ => trivial
/-- the first k places of s put over those of l -/
def mixF (l s k : Nat) : Nat → Int32 := fun j => if j < k then dbF s j else dbF l j
theorem mix_0 (l s : Nat) : dbF l = mixF l s 0 := by funext j; unfold mixF; rw [if_neg (by omega)]
theorem mix_s (l s k : Nat) : upd (mixF l s k) k (dbF s k) = mixF l s (k + 1) := by
  funext j
  unfold upd mixF
  by_cases h : j = k
  · subst h; rw [if_pos rfl, if_pos (by omega)]
  · rw [if_neg h]
    by_cases h2 : j < k
    · rw [if_pos h2, if_pos (by omega)]
    · rw [if_neg h2, if_neg (by omega)]
theorem mix_n {l s nt : Nat} (hl : l < 2 ^ nt) (hs : s < 2 ^ nt) : mixF l s nt = dbF s := by
  funext j
  unfold mixF
  by_cases h : j < nt
  · rw [if_pos h]
  · rw [if_neg h, dbF_f (bits_of_lt hl (by omega)), dbF_f (bits_of_lt hs (by omega))]
