/-- the text's bytes, blanks behind it, and four of them as one number -/
def ASC (L : List Int32) : Prop := ∀ j, j < L.length → ∃ c, c < 128 ∧ L.getD j 0 = nI c
def bt (L : List Int32) (i : Nat) : Nat := if i < L.length then nN (L.getD i 0) else 32
theorem bt_in {L : List Int32} (h : ASC L) {i : Nat} (hi : i < L.length) : L.getD i 0 = nI (bt L i) ∧ bt L i < 128 := by
  obtain ⟨c, h1, h2⟩ := h i hi
  unfold bt
  rw [if_pos hi, h2, nN_nI (by omega)]
  exact ⟨rfl, h1⟩
theorem bt_out {L : List Int32} {i : Nat} (hi : L.length ≤ i) : bt L i = 32 := by
  unfold bt
  rw [if_neg (by omega)]
theorem bt_lt {L : List Int32} (h : ASC L) (i : Nat) : bt L i < 128 := by
  by_cases hi : i < L.length
  · exact (bt_in h hi).2
  · rw [bt_out (by omega)]
    decide
def pkV (L : List Int32) (p : Nat) : Nat → Nat
  | 0 => 0
  | m + 1 => pkV L p m * 256 + bt L (p + m)
theorem pkV_4 {L : List Int32} (h : ASC L) (p : Nat) : pkV L p 0 = 0 ∧ pkV L p 1 < 128 ∧ pkV L p 2 < 32768 ∧ pkV L p 3 < 8388608 ∧ pkV L p 4 < 2147483648 := by
  have h0 := bt_lt h (p + 0)
  have h1 := bt_lt h (p + 1)
  have h2 := bt_lt h (p + 2)
  have h3 := bt_lt h (p + 3)
  have e1 : pkV L p 1 = 0 * 256 + bt L (p + 0) := rfl
  have e2 : pkV L p 2 = pkV L p 1 * 256 + bt L (p + 1) := rfl
  have e3 : pkV L p 3 = pkV L p 2 * 256 + bt L (p + 2) := rfl
  have e4 : pkV L p 4 = pkV L p 3 * 256 + bt L (p + 3) := rfl
  refine ⟨rfl, ?_, ?_, ?_, ?_⟩ <;> omega
theorem pkV_lt {L : List Int32} (h : ASC L) (p : Nat) {m : Nat} (hm : m < 4) : pkV L p m < 8388608 := by
  obtain ⟨h0, h1, h2, h3, -⟩ := pkV_4 h p
  have hc : m = 0 ∨ m = 1 ∨ m = 2 ∨ m = 3 := by omega
  rcases hc with rfl | rfl | rfl | rfl <;> omega
theorem pk_or {L : List Int32} (h : ASC L) (p : Nat) {m : Nat} (hm : m < 4) : (nI (pkV L p m) <<< ((8 : Int32) &&& 31)) ||| nI (bt L (p + m)) = nI (pkV L p (m + 1)) := by
  have h1 := pkV_lt h p hm
  have h2 := bt_lt h (p + m)
  rw [pk_shlN (n := pkV L p m) ((8 : Int32) &&& 31) 8 (by decide) (by omega), q_or]
  show nI _ = nI (pkV L p m * 256 + bt L (p + m))
  rw [Nat.mul_comm (pkV L p m), ← Nat.two_pow_add_eq_or_of_lt (show bt L (p + m) < 2 ^ 8 by omega)]
theorem byt_pk {L : List Int32} (h : ASC L) (p : Nat) {r : Nat} (hr : r < 4) : byt (nI (pkV L p 4)) r = nI (bt L (p + r)) := by
  have hl := (pkV_4 h p).2.2.2.2
  have h0 := bt_lt h (p + 0)
  have h1 := bt_lt h (p + 1)
  have h2 := bt_lt h (p + 2)
  have h3 := bt_lt h (p + 3)
  have e4 : pkV L p 4 = (((0 * 256 + bt L (p + 0)) * 256 + bt L (p + 1)) * 256 + bt L (p + 2)) * 256 + bt L (p + 3) := rfl
  have g : ∀ (s : Int32) (k : Nat), (s.toBitVec.smod 32).toNat = k → (nI (pkV L p 4) >>> s) &&& (255 : Int32) = nI (pkV L p 4 / 2 ^ k % 256) := fun s k hs => by
    rw [pk_shrN (by omega) s k hs, pk_andN (n := pkV L p 4 / 2 ^ k) (Nat.lt_of_le_of_lt (Nat.div_le_self _ _) (by omega)) (m := 255) 8 (by decide)]
  unfold byt
  have hc : r = 0 ∨ r = 1 ∨ r = 2 ∨ r = 3 := by omega
  rcases hc with rfl | rfl | rfl | rfl
  · rw [g _ 24 (by decide)]; congr 1; omega
  · rw [g _ 16 (by decide)]; congr 1; omega
  · rw [g _ 8 (by decide)]; congr 1; omega
  · rw [g _ 0 (by decide)]; congr 1; omega
/-- the tape holds the text's bytes, and blanks -/
def TP (L : List Int32) (tape : Nat → Int32) (n : Nat) : Prop := ∀ j, j < n → tape j = nI (bt L j)
theorem tp_fed {L : List Int32} {tape : Nat → Int32} {n : Nat} (hA : ASC L) (h : TP L tape n) : TP L (fed (nI (pkV L (n + 4 * 0) 4)) (nI (pkV L (n + 4 * 1) 4)) (nI (pkV L (n + 4 * 2) 4)) (nI (pkV L (n + 4 * 3) 4)) (nI (pkV L (n + 4 * 4) 4)) n 20 tape) (n + 20) := by
  intro j hj
  unfold fed
  by_cases h1 : n ≤ j ∧ j < n + 20
  · rw [if_pos h1]
    obtain ⟨q, hq⟩ : ∃ q, q = (j - n) / 4 := ⟨_, rfl⟩
    have e : n + 4 * q + (j - n) % 4 = j := by omega
    rw [← hq]
    have hc : q = 0 ∨ q = 1 ∨ q = 2 ∨ q = 3 ∨ q = 4 := by omega
    rcases hc with rfl | rfl | rfl | rfl | rfl
    · show byt (nI (pkV L (n + 4 * 0) 4)) _ = _
      rw [byt_pk hA _ (by omega), e]
    · show byt (nI (pkV L (n + 4 * 1) 4)) _ = _
      rw [byt_pk hA _ (by omega), e]
    · show byt (nI (pkV L (n + 4 * 2) 4)) _ = _
      rw [byt_pk hA _ (by omega), e]
    · show byt (nI (pkV L (n + 4 * 3) 4)) _ = _
      rw [byt_pk hA _ (by omega), e]
    · show byt (nI (pkV L (n + 4 * 4) 4)) _ = _
      rw [byt_pk hA _ (by omega), e]
  · rw [if_neg h1]
    exact h j (by omega)
theorem TP.ly {L : List Int32} {tape : Nat → Int32} {n : Nat} (hA : ASC L) (h : TP L tape n) (hn : L.length ≤ n) : Ly tape 0 L := by
  intro j hj
  rw [Nat.zero_add, h j (by omega), (bt_in hA hj).1]
theorem u2 {f : Nat → Int32} {k : Nat} {a b : Int32} : upd (upd f k a) k b = upd f k b := by
  funext j
  unfold upd
  split <;> rfl
theorem asc_app {L M : List Int32} (h1 : ASC L) (h2 : ASC M) : ASC (L ++ M) := by
  intro j hj
  rw [List.length_append] at hj
  by_cases h : j < L.length
  · rw [List.getD_eq_getElem?_getD, List.getElem?_append_left h, ← List.getD_eq_getElem?_getD]
    exact h1 j h
  · rw [List.getD_eq_getElem?_getD, List.getElem?_append_right (by omega), ← List.getD_eq_getElem?_getD]
    exact h2 (j - L.length) (by omega)
theorem asc_one {c : Nat} (h : c < 128) : ASC [nI c] := by
  intro j hj
  have e : j = 0 := by have : j < 1 := hj; omega
  subst e
  exact ⟨c, h, rfl⟩
theorem asc_nil : ASC [] := fun j hj => absurd hj (Nat.not_lt_zero j)
theorem asc_all {L : List Int32} (h : L.all (fun v => decide (0 ≤ v) && decide (v < 128)) = true) : ASC L := by
  intro j hj
  have h1 := List.all_eq_true.mp h (L.getD j 0) (by rw [List.getD_eq_getElem?_getD, List.getElem?_eq_getElem hj]; exact List.getElem_mem hj)
  simp only [Bool.and_eq_true, decide_eq_true_eq] at h1
  refine ⟨nN (L.getD j 0), ?_, ?_⟩
  · have h2 := Int32.lt_iff_toInt_lt.mp h1.2
    have h3 := Int32.le_iff_toInt_le.mp h1.1
    have e1 : (128 : Int32).toInt = 128 := by decide
    have e0 : (0 : Int32).toInt = 0 := by decide
    rw [e1] at h2
    rw [e0] at h3
    show (L.getD j 0).toInt.toNat < 128
    omega
  · have h3 := Int32.le_iff_toInt_le.mp h1.1
    have e0 : (0 : Int32).toInt = 0 := by decide
    rw [e0] at h3
    show L.getD j 0 = Int32.ofNat (L.getD j 0).toInt.toNat
    rw [← Int32.ofInt_eq_ofNat, Int.toNat_of_nonneg h3, Int32.ofInt_toInt]
theorem kw_asc : ∀ k, k < 25 → (kwT k).all (fun v => decide (0 ≤ v) && decide (v < 128)) = true := by decide +kernel
theorem sym_128 {b : Nat} (h : symB b = true) : b < 128 := by
  unfold symB at h
  simp at h
  omega
theorem asc_dg : ∀ i v, i ≤ 6 → v < 10 ^ i → ASC (dgL v) := by
  intro i
  induction i with
  | zero =>
    intro v _ hv
    have e : v = 0 := by have : v < 1 := hv; omega
    subst e
    exact asc_all (by decide +kernel)
  | succ i ih =>
    intro v hi hv
    by_cases h1 : v < 10
    · rw [dgL_1 h1]
      exact asc_one (by omega)
    · have h7 : 10 ^ (i + 1) ≤ 10 ^ 6 := Nat.pow_le_pow_right (by decide) hi
      have h8 : (10 : Nat) ^ 6 = 1000000 := by decide
      have h9 : 10 ^ (i + 1) = 10 ^ i * 10 := Nat.pow_succ ..
      rw [dgL_s (by omega) (by omega)]
      exact asc_app (ih (v / 10) (by omega) (by rw [Nat.div_lt_iff_lt_mul (by decide)]; omega)) (asc_one (by omega))
theorem asc_spl {a : Tok} (h : okT a = true) : ASC (spl a) := by
  obtain ⟨t, v, b⟩ := a
  match t with
  | 0 => exact asc_all (kw_asc v (of_decide_eq_true h))
  | 1 =>
    have hv : v < 10 := of_decide_eq_true h
    exact asc_app (L := [101]) (asc_one (c := 101) (by decide)) (asc_one (show 48 + v < 128 by omega))
  | 2 =>
    have hv : v < 10 := of_decide_eq_true h
    exact asc_app (L := [116]) (asc_one (c := 116) (by decide)) (asc_one (show 48 + v < 128 by omega))
  | 3 => exact asc_dg 6 v (Nat.le_refl _) (of_decide_eq_true h)
  | 4 => exact asc_one (sym_128 h)
  | 5 => exact asc_all (L := [60, 61]) (by decide)
  | t + 6 => exact asc_all (L := [62, 61]) (by decide)
theorem asc_blk (a : Tok) : ASC (blk a) := by
  obtain ⟨t, v, b⟩ := a
  match b with
  | 0 => exact asc_nil
  | 1 => exact asc_all (L := [32]) (by decide)
  | b + 2 => exact asc_all (L := [10]) (by decide)
theorem asc_fl {z : Tok} : ∀ ts, gz ts z = true → ASC (fl ts)
  | [], _ => asc_nil
  | a :: r, h => by
    have h1 : (okT a && okN a (r.headD z) && gz r z) = true := h
    simp only [Bool.and_eq_true] at h1
    exact asc_app (asc_app (asc_spl h1.1.1) (asc_blk a)) (asc_fl r h1.2)
