/-! the text as tokens, and the class's cutting of it -/
theorem lp_mono {S T : Type} {step : S → S ⊕ Option T} {v : T} : ∀ {n : Nat} {s : S}, lpS step none n s = some v → ∀ m, n ≤ m → lpS step none m s = some v := by
  intro n
  induction n with
  | zero => intro s h; cases h
  | succ n ih =>
    intro s h m hm
    cases m with
    | zero => omega
    | succ m =>
      cases hs : step s with
      | inl s2 =>
        rw [lp_in hs] at h ⊢
        exact ih h m (by omega)
      | inr t =>
        rw [lp_out hs] at h ⊢
        exact h
theorem lp_from {S T : Type} {step : S → S ⊕ T} {fail t : T} (σ : Nat → S) {p q n : Nat} {s : S} (hs : s = σ p) (hpq : p ≤ q) (h1 : ∀ j, p ≤ j → j < q → step (σ j) = .inl (σ (j + 1))) (h2 : step (σ q) = .inr t) (hn : q - p < n) : lpS step fail n s = t := by
  rw [hs]
  exact lp_tr σ (q - p) n p (fun j a b => h1 j a (by omega)) (by rw [show p + (q - p) = q by omega]; exact h2) hn
def symB (b : Nat) : Bool := [40, 41, 91, 93, 59, 44, 43, 45, 42, 47, 60, 62, 61].contains b
theorem sym30 : ∀ b, b < 256 → (match f_J0_indexOf_0f7a4 30 12 ((nI b).toUInt32 % 65536).toInt32 with | some v => decide (v < 0) == !symB b | none => false) = true := by decide +kernel
theorem symN {b N : Nat} (hb : b < 256) (hN : 30 ≤ N) : ∃ v, f_J0_indexOf_0f7a4 N 12 ((nI b).toUInt32 % 65536).toInt32 = some v ∧ (v < 0 ↔ symB b = false) := by
  have h := sym30 b hb
  cases h1 : f_J0_indexOf_0f7a4 30 12 ((nI b).toUInt32 % 65536).toInt32 with
  | none => rw [h1] at h; cases h
  | some v =>
    rw [h1] at h
    refine ⟨v, ?_, ?_⟩
    · unfold f_J0_indexOf_0f7a4 f_J0_indexOf_7cf53 f_J1_indexOf_4cfef f_J1_indexOfChar_4cfef at h1 ⊢
      generalize ((nI b).toUInt32 % 65536).toInt32 = c at h1 ⊢
      by_cases c1 : f_J1_canEncode_9a6ad c = 0
      · simp only [if_pos c1] at h1 ⊢
        exact h1
      · simp only [if_neg c1] at h1 ⊢
        split at h1
        · rename_i c2
          simp only [if_pos c2]
          cases hl : lpS (f_J1_indexOfChar_4cfef_L7 12 (f_J9_min_7cf53 (f_J0_length_8abf5 12) (Int32.ofNat (lenS.getD 12 0))) c.toInt8.toInt32) none 30 (f_J9_max_7cf53 0 0) with
          | none => rw [hl] at h1; cases h1
          | some w =>
            rw [hl] at h1
            rw [lp_mono hl N hN]
            exact h1
        · rename_i c2
          simp only [if_neg c2]
          exact h1
    · have h2 : (decide (v < 0) == !symB b) = true := h
      cases hs : symB b with
      | true =>
        rw [hs] at h2
        simp at h2
        exact ⟨fun h3 => absurd h3 (Int32.not_lt.mpr h2), fun h3 => by cases h3⟩
      | false =>
        rw [hs] at h2
        simp at h2
        exact ⟨fun _ => rfl, fun _ => h2⟩
theorem tI_sub {s q : Nat} (h : s ≤ q) : nI q - nI s = nI (q - s) := by
  have e : nI (q - s) + nI s = nI q := by rw [nI_add, show q - s + s = q by omega]
  rw [← e, Int32.add_sub_cancel]
/-- where a row of bytes lies -/
def Ly (xt : Nat → Int32) (p : Nat) (l : List Int32) : Prop := ∀ j, j < l.length → xt (p + j) = l.getD j 0
theorem Ly.left {xt : Nat → Int32} {p : Nat} {l m : List Int32} (h : Ly xt p (l ++ m)) : Ly xt p l := by
  intro j hj
  have := h j (by rw [List.length_append]; omega)
  rw [this, List.getD_eq_getElem?_getD, List.getD_eq_getElem?_getD, List.getElem?_append_left hj]
theorem Ly.right {xt : Nat → Int32} {p : Nat} {l m : List Int32} (h : Ly xt p (l ++ m)) : Ly xt (p + l.length) m := by
  intro j hj
  have := h (l.length + j) (by rw [List.length_append]; omega)
  rw [Nat.add_assoc, this, List.getD_eq_getElem?_getD, List.getD_eq_getElem?_getD, List.getElem?_append_right (by omega), Nat.add_sub_cancel_left]
theorem Ly.hd {xt : Nat → Int32} {p : Nat} {c : Int32} {l : List Int32} (h : Ly xt p (c :: l)) : xt p = c := h 0 (Nat.zero_lt_succ _)
theorem fo_take {α : Type} (f : α → Int32 → α) (x : α) (l : List Int32) {j : Nat} (h : j < l.length) : (l.take (j + 1)).foldl f x = f ((l.take j).foldl f x) (l.getD j 0) := by
  have e : l.take (j + 1) = l.take j ++ [l.getD j 0] := by
    rw [List.take_add_one, List.getD_eq_getElem?_getD, List.getElem?_eq_getElem h]
    rfl
  rw [e, List.foldl_append]
  rfl
def alB (c : Int32) : Bool := decide (f_To_isLetter c = 1) || decide (f_To_isDigit c = 1)
def diB (c : Int32) : Bool := decide (f_To_isDigit c = 1)
theorem alB_f {c : Int32} (h : alB c = false) : f_To_isLetter c = 0 ∧ f_To_isDigit c = 0 := by
  unfold alB at h
  simp only [Bool.or_eq_false_iff, decide_eq_false_iff_not] at h
  exact ⟨(zb_To_isLetter c).resolve_right h.1, (zb_To_isDigit c).resolve_right h.2⟩
theorem alB_t {c : Int32} (h : alB c = true) : f_To_isLetter c = 1 ∨ f_To_isDigit c = 1 := by
  unfold alB at h
  simpa using h
def hsh (l : List Int32) : Int64 := l.foldl f_To_pack 0
def numL (l : List Int32) : Int32 := l.foldl (fun n c => n * (10 : Int32) + (c - (48 : Int32))) 0
section TK
variable {xt : Nat → Int32} {sz N p : Nat} {K : Nat → Int64}
theorem t_word {l : List Int32} (hz : sz ≤ 2000) (hL : Ly xt p l) (hs : p + l.length ≤ sz) (hall : ∀ j, j < l.length → alB (l.getD j 0) = true) (hstop : p + l.length < sz → alB (xt (p + l.length)) = false) (h10 : l.length ≤ 10) (hN : 2000 < N) (w0 : Int64) :
    f_To_wordKind N xt (nI sz) (nI p) w0 25 K = some ((if nfind 25 K 25 (hsh l) < 0 then 130 else 200 + nfind 25 K 25 (hsh l)), nI (p + l.length), hsh l) := by
  have et : l.take l.length = l := List.take_length
  have fin : (if (nI (p + l.length) - nI p) ≤ (10 : Int32) then (if (nfind 25 K 25 (hsh l)) < 0 then (Sum.inr (some ((130 : Int32), nI (p + l.length), hsh l)) : (Int32 × Int64) ⊕ (Option (Int32 × Int32 × Int64))) else (.inr (some (((200 : Int32) + (nfind 25 K 25 (hsh l))), nI (p + l.length), hsh l)))) else (.inr (some ((133 : Int32), nI (p + l.length), hsh l)))) = .inr (some ((if nfind 25 K 25 (hsh l) < 0 then 130 else 200 + nfind 25 K 25 (hsh l)), nI (p + l.length), hsh l)) := by
    rw [tI_sub (by omega), if_pos (show nI (p + l.length - p) ≤ 10 from nI_le (b := 10) (by omega) (by decide))]
    split <;> rfl
  unfold f_To_wordKind
  refine lp_0 (fun j => (nI (p + j), (l.take j).foldl f_To_pack 0)) l.length rfl ?_ ?_ (by omega)
  · intro j hj
    have hd := hall j hj
    have a2 : rget 2000 xt (nI (p + j)) = l.getD j 0 := by rw [rg (by omega) (by decide), hL j hj]
    have e2 := fo_take f_To_pack 0 l hj
    unfold f_To_wordKind_L10
    simp only [if_neg (nI_ge (show p + j < sz by omega) (show sz < 2 ^ 31 by omega)), a2, ← e2, ← nI_succ]
    by_cases h5 : f_To_isLetter (l.getD j 0) = 0
    · rw [if_pos h5]
      rcases alB_t hd with h6 | h6
      · rw [h5] at h6; exact absurd h6 (by decide)
      · rw [h6, if_neg n10]; rfl
    · rw [if_neg h5]; rfl
  · unfold f_To_wordKind_L10
    simp only [et]
    by_cases h5 : p + l.length < sz
    · obtain ⟨b1, b2⟩ := alB_f (hstop h5)
      rw [if_neg (nI_ge h5 (by omega)), rg (show p + l.length < 2000 by omega) (by decide), b1, if_pos rfl, b2, if_pos rfl]
      exact fin
    · rw [if_pos (nI_le (by omega) (by omega))]
      exact fin
theorem t_num {l : List Int32} (hz : sz ≤ 2000) (hL : Ly xt p l) (hs : p + l.length ≤ sz) (hall : ∀ j, j < l.length → diB (l.getD j 0) = true) (hstop : p + l.length < sz → f_To_isDigit (xt (p + l.length)) = 0) (h6 : l.length ≤ 6) (hN : 2000 < N) (n0 : Int32) :
    f_To_numberKind N xt (nI sz) (nI p) n0 = some (131, nI (p + l.length), numL l) := by
  have et : l.take l.length = l := List.take_length
  have fin : (if (nI (p + l.length) - nI p) ≤ (6 : Int32) then (Sum.inr (some ((131 : Int32), nI (p + l.length), numL l)) : (Int32 × Int32) ⊕ (Option (Int32 × Int32 × Int32))) else (.inr (some ((133 : Int32), nI (p + l.length), numL l)))) = .inr (some (131, nI (p + l.length), numL l)) := by
    rw [tI_sub (by omega), if_pos (show nI (p + l.length - p) ≤ 6 from nI_le (b := 6) (by omega) (by decide))]
  unfold f_To_numberKind
  refine lp_0 (fun j => (nI (p + j), (l.take j).foldl (fun n c => n * (10 : Int32) + (c - (48 : Int32))) 0)) l.length rfl ?_ ?_ (by omega)
  · intro j hj
    have hd : f_To_isDigit (l.getD j 0) = 1 := of_decide_eq_true (hall j hj)
    have a2 : rget 2000 xt (nI (p + j)) = l.getD j 0 := by rw [rg (by omega) (by decide), hL j hj]
    have e2 := fo_take (fun (n : Int32) c => n * (10 : Int32) + (c - (48 : Int32))) 0 l hj
    unfold f_To_numberKind_L10
    simp only [if_neg (nI_ge (show p + j < sz by omega) (show sz < 2 ^ 31 by omega)), a2, hd, if_neg n10, e2, ← nI_succ]
    rfl
  · unfold f_To_numberKind_L10
    simp only [et]
    by_cases h5 : p + l.length < sz
    · rw [if_neg (nI_ge h5 (by omega)), rg (show p + l.length < 2000 by omega) (by decide), hstop h5, if_pos rfl]
      exact fin
    · rw [if_pos (nI_le (by omega) (by omega))]
      exact fin
theorem t_blank {s : Nat} (hz : sz ≤ 2000) (hp : p ≤ s) (hs : s ≤ sz) (hall : ∀ j, p ≤ j → j < s → xt j = 32 ∨ xt j = 10) (hstop : s < sz → ¬ xt s = 32 ∧ ¬ xt s = 10) (hN : 2000 < N) : f_To_skipBlanks N xt (nI sz) (nI p) = some (nI s) := by
  unfold f_To_skipBlanks
  refine lp_from (fun j => nI j) (p := p) (q := s) rfl hp (fun j a1 a2 => ?_) ?_ (by omega)
  · have hd := hall j a1 a2
    unfold f_To_skipBlanks_L0
    rw [if_neg (nI_ge (show j < sz by omega) (by omega)), rg (show j < 2000 by omega) (by decide), ← nI_succ]
    by_cases h5 : xt j = 32
    · rw [if_pos h5]
    · rw [if_neg h5, if_pos (hd.resolve_left h5)]
  · unfold f_To_skipBlanks_L0
    by_cases h5 : s < sz
    · have hd := hstop h5
      rw [if_neg (nI_ge h5 (by omega)), rg (show s < 2000 by omega) (by decide), if_neg hd.1, if_neg hd.2]
    · rw [if_pos (nI_le (by omega) (by omega))]
end TK
/-- tokens: tag (0 keyword, 1 an event, 2 a teller, 3 number, 4 one sign, 5 <=, 6 >=), which, blank behind -/
abbrev Tok : Type := Nat × Nat × Nat
def kwT (j : Nat) : List Int32 := ([[101, 118, 101, 110, 116], [116, 101, 108, 108, 101, 114], [116, 101, 108, 108, 115], [97, 116], [116, 111], [98, 101, 102, 111, 114, 101], [119, 105, 116, 104], [100, 111, 117, 98, 116], [98, 101, 108, 105, 101, 118, 101], [119, 104, 101, 110], [101, 118, 101, 110, 105, 110, 103], [108, 105, 97, 114, 115], [99, 111, 110, 102, 108, 105, 99, 116, 115], [100, 111, 117, 98, 116, 101, 100], [99, 108, 97, 105, 109, 115], [119, 105, 110, 100, 111, 119], [111, 102], [99, 111, 110, 116, 114, 97, 100, 105, 99, 116], [108, 105, 97, 114], [97, 103, 114, 101, 101, 100], [110, 111, 116], [97, 110, 100], [111, 114], [109, 105, 110], [109, 97, 120]] : List (List Int32)).getD j []
def spl (a : Tok) : List Int32 := match a.1 with | 0 => kwT a.2.1 | 1 => [101, nI (48 + a.2.1)] | 2 => [116, nI (48 + a.2.1)] | 3 => dgL a.2.1 | 4 => [nI a.2.1] | 5 => [60, 61] | _ => [62, 61]
def blk (a : Tok) : List Int32 := match a.2.2 with | 0 => [] | 1 => [32] | _ => [10]
def kd (a : Tok) : Int32 := match a.1 with | 0 => 200 + nI a.2.1 | 1 => 130 | 2 => 130 | 3 => 131 | 4 => nI a.2.1 | 5 => 128 | _ => 129
def okT (a : Tok) : Bool := match a.1 with | 0 => decide (a.2.1 < 25) | 1 => decide (a.2.1 < 10) | 2 => decide (a.2.1 < 10) | 3 => decide (a.2.1 < 1000000) | 4 => symB a.2.1 | _ => true
def isW (a : Tok) : Bool := decide (a.1 < 4)
def isL (a : Tok) : Bool := decide (a.1 = 4) && (decide (a.2.1 = 60) || decide (a.2.1 = 62))
def isE (a : Tok) : Bool := decide (a.1 = 4) && decide (a.2.1 = 61)
def okN (a b : Tok) : Bool := !(decide (a.2.2 = 0)) || (!(isW a && isW b) && !(isL a && isE b))
def tkb (a : Tok) : List Int32 := spl a ++ blk a
def fl : List Tok → List Int32
  | [] => []
  | a :: r => tkb a ++ fl r
theorem fl_app : ∀ x y, fl (x ++ y) = fl x ++ fl y
  | [], _ => rfl
  | a :: r, y => by
    show tkb a ++ fl (r ++ y) = (tkb a ++ fl r) ++ fl y
    rw [fl_app r y, List.append_assoc]
def gz : List Tok → Tok → Bool
  | [], _ => true
  | a :: r, z => okT a && okN a (r.headD z) && gz r z
theorem gz_app : ∀ x y z, gz (x ++ y) z = (gz x (y.headD z) && gz y z)
  | [], _, _ => rfl
  | a :: r, y, z => by
    show (okT a && okN a ((r ++ y).headD z) && gz (r ++ y) z) = (okT a && okN a (r.headD (y.headD z)) && gz r (y.headD z) && gz y z)
    rw [gz_app r y z, show (r ++ y).headD z = r.headD (y.headD z) by cases r <;> rfl, Bool.and_assoc, Bool.and_assoc, Bool.and_assoc]
theorem kw_al : ∀ k, k < 25 → (kwT k).length ≤ 10 ∧ 0 < (kwT k).length ∧ f_To_isLetter ((kwT k).getD 0 0) = 1 ∧ ∀ j, j < (kwT k).length → alB ((kwT k).getD j 0) = true := by decide +kernel
theorem nm_al : ∀ v, v < 10 → alB (nI (48 + v)) = true ∧ diB (nI (48 + v)) = true := by decide +kernel
theorem nfF_c {w w2 : Nat → Int64} {x : Int64} {c : Int32} : ∀ m p, (∀ k, p ≤ k → k < p + m → w k = w2 k) → nfindF w c x m p = nfindF w2 c x m p
  | 0, _, _ => rfl
  | m + 1, p, h => by
    show (if nI p < c then (if w p = x then nI p else nfindF w c x m (p + 1)) else -1) = (if nI p < c then (if w2 p = x then nI p else nfindF w2 c x m (p + 1)) else -1)
    rw [h p (Nat.le_refl _) (by omega), nfF_c m (p + 1) (fun k a b => h k (by omega) (by omega))]
theorem kw_at : ∀ k, k < 25 → nfind 25 (fun j => hsh (kwT j)) 25 (hsh (kwT k)) = nI k := by decide +kernel
theorem kw_no : ∀ v, v < 10 → nfind 25 (fun j => hsh (kwT j)) 25 (hsh [101, nI (48 + v)]) < 0 ∧ nfind 25 (fun j => hsh (kwT j)) 25 (hsh [116, nI (48 + v)]) < 0 := by decide +kernel
theorem kw_nn : ∀ k, k < 25 → ¬ nI k < 0 := by decide +kernel
theorem dg_fact : ∀ i v, i ≤ 6 → v < 10 ^ i → (∀ j, j < (dgL v).length → diB ((dgL v).getD j 0) = true) ∧ numL (dgL v) = nI v := by
  intro i
  induction i with
  | zero =>
    intro v _ hv
    have e : v = 0 := by have : v < 1 := hv; omega
    subst e
    decide +kernel
  | succ i ih =>
    intro v hi hv
    by_cases h1 : v < 10
    · rw [dgL_1 h1]
      refine ⟨fun j hj => ?_, ?_⟩
      · have e : j = 0 := by have : j < 1 := hj; omega
        subst e
        exact (nm_al v h1).2
      · show (0 : Int32) * 10 + (nI (48 + v) - 48) = nI v
        rw [show (48 : Int32) = nI 48 from rfl, tI_sub (by omega), show 48 + v - 48 = v by omega, Int32.zero_mul, Int32.zero_add]
    · have h7 : 10 ^ (i + 1) ≤ 10 ^ 6 := Nat.pow_le_pow_right (by decide) hi
      have h8 : (10 : Nat) ^ 6 = 1000000 := by decide
      have h9 : 10 ^ (i + 1) = 10 ^ i * 10 := Nat.pow_succ ..
      have hd : v / 10 < 10 ^ i := by rw [Nat.div_lt_iff_lt_mul (by decide)]; omega
      obtain ⟨a1, a2⟩ := ih (v / 10) (by omega) hd
      rw [dgL_s (by omega) (by omega)]
      refine ⟨fun j hj => ?_, ?_⟩
      · rw [List.length_append] at hj
        have hj2 : j < (dgL (v / 10)).length + 1 := hj
        by_cases h3 : j < (dgL (v / 10)).length
        · rw [List.getD_eq_getElem?_getD, List.getElem?_append_left h3, ← List.getD_eq_getElem?_getD]
          exact a1 j h3
        · rw [List.getD_eq_getElem?_getD, List.getElem?_append_right (by omega), show j - (dgL (v / 10)).length = 0 by omega]
          exact (nm_al (v % 10) (by omega)).2
      · show (dgL (v / 10) ++ [nI (48 + v % 10)]).foldl _ 0 = nI v
        rw [List.foldl_append]
        show numL (dgL (v / 10)) * 10 + (nI (48 + v % 10) - 48) = nI v
        rw [a2, show (48 : Int32) = nI 48 from rfl, tI_sub (by omega), show 48 + v % 10 - 48 = v % 10 by omega, show nI (v / 10) * (10 : Int32) = nI (v / 10 * 10) from (Int32.ofNat_mul _ 10).symm, nI_add, show v / 10 * 10 + v % 10 = v by omega]
