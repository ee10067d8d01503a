/-! counts: pairs, claims, windows -/
def sm : Nat → (Nat → Nat) → Nat
  | 0, _ => 0
  | n + 1, f => sm n f + f n
theorem sm_congr {f g : Nat → Nat} : ∀ n, (∀ i, i < n → f i = g i) → sm n f = sm n g := by
  intro n
  induction n with
  | zero => intro _; rfl
  | succ n ih =>
    intro h
    show sm n f + f n = sm n g + g n
    rw [ih (fun i hi => h i (by omega)), h n (by omega)]
theorem sm_add (f g : Nat → Nat) : ∀ n, sm n (fun i => f i + g i) = sm n f + sm n g := by
  intro n
  induction n with
  | zero => rfl
  | succ n ih =>
    show sm n (fun i => f i + g i) + (f n + g n) = sm n f + f n + (sm n g + g n)
    rw [ih]
    omega
theorem sm_z {f : Nat → Nat} : ∀ n, (∀ i, i < n → f i = 0) → sm n f = 0 := by
  intro n
  induction n with
  | zero => intro _; rfl
  | succ n ih =>
    intro h
    show sm n f + f n = 0
    rw [ih (fun i hi => h i (by omega)), h n (by omega)]
theorem sm_comm (f : Nat → Nat → Nat) (m : Nat) : ∀ n, sm n (fun a => sm m (fun b => f a b)) = sm m (fun b => sm n (fun a => f a b)) := by
  intro n
  induction n with
  | zero => exact (sm_z m (fun i _ => rfl)).symm
  | succ n ih =>
    show sm n (fun a => sm m (fun b => f a b)) + sm m (fun b => f n b) = sm m (fun b => sm n (fun a => f a b) + f n b)
    rw [ih, sm_add]
theorem sm_ext {f : Nat → Nat} {n : Nat} : ∀ m, n ≤ m → (∀ i, n ≤ i → i < m → f i = 0) → sm m f = sm n f := by
  intro m
  induction m with
  | zero => intro h _; rw [show n = 0 by omega]
  | succ m ih =>
    intro h h2
    by_cases e : n = m + 1
    · rw [e]
    · show sm m f + f m = sm n f
      rw [ih (by omega) (fun i h3 h4 => h2 i h3 (by omega)), h2 m (by omega) (by omega)]
      rfl
def b1 (b : Bool) : Nat := if b = true then 1 else 0
theorem b1_t {b : Bool} (h : b = true) : b1 b = 1 := if_pos h
theorem b1_f {b : Bool} (h : b = false) : b1 b = 0 := by rw [h]; rfl
theorem and1 (x : Int32) : x &&& 1 = 0 ∨ x &&& 1 = 1 := by
  have h : (x &&& 1).toBitVec = BitVec.setWidth 32 (BitVec.ofBool (x.toBitVec.getLsbD 0)) := by
    rw [Int32.toBitVec_and]
    show x.toBitVec &&& 1#32 = _
    exact BitVec.and_one_eq_setWidth_ofBool_getLsbD
  cases hb : x.toBitVec.getLsbD 0 with
  | false =>
    rw [hb] at h
    exact Or.inl (Int32.toBitVec_inj.mp h)
  | true =>
    rw [hb] at h
    exact Or.inr (Int32.toBitVec_inj.mp h)

def pcS (s : Nat) : Nat := sm 10 (fun k => b1 (s.testBit k))
theorem pcS_eq (s : Nat) : pcN s = pcS s := rfl
section CRs
variable {nt ne n : Nat} {xT xK xE xF xL uK uB uO uR uL : Nat → Int32}
def pP (uB : Nat → Int32) (p q : Int32) (a b : Nat) : Bool := (decide (uB a = p) && decide (uB b = q)) || (decide (uB a = q) && decide (uB b = p))
theorem x_isPair (a b p q : Int32) : f_Cl_isPairOf a b p q = bI ((decide (a = p) && decide (b = q)) || (decide (a = q) && decide (b = p))) := by
  have e : (if a = q then (if b = p then (1 : Int32) else 0) else 0) = bI (decide (a = q) && decide (b = p)) := by
    by_cases h3 : a = q
    · rw [if_pos h3, decide_eq_true h3]
      by_cases h4 : b = p
      · rw [if_pos h4, decide_eq_true h4]; rfl
      · rw [if_neg h4, decide_eq_false h4]; rfl
    · rw [if_neg h3, decide_eq_false h3]; rfl
  unfold f_Cl_isPairOf
  rw [e]
  by_cases h1 : a = p
  · rw [if_pos h1, decide_eq_true h1]
    by_cases h2 : b = q
    · rw [if_pos h2, decide_eq_true h2]; rfl
    · rw [if_neg h2, decide_eq_false h2]
      cases decide (a = q) <;> cases decide (b = p) <;> rfl
  · rw [if_neg h1, decide_eq_false h1]
    cases decide (a = q) <;> cases decide (b = p) <;> rfl
theorem x_pairs (h : CR nt ne n xT xK xE xF xL uK uB uO uR uL) {N : Nat} (hN : 60 < N) (p q : Int32) : f_Cl_pairsOf N (nI n) xT xK xE xF xL p q = some (nI (sm n (fun a => sm n (fun b => b1 (decide (a < b) && pP uB p q a b && ctU uK uO uR uL a b))))) := by
  have hle := h.1
  have L20 : ∀ a c0, a < n → lpS (f_Cl_pairsOf_L20 (nI n) xT xK xE xF xL p q (nI a)) (.inr none) N (nI c0, nI a + 1) = .inl (nI (c0 + sm n (fun b => b1 (decide (a < b) && pP uB p q a b && ctU uK uO uR uL a b))), nI (a + 1)) := by
    intro a c0 ha
    refine lp_0 (fun i => (nI (c0 + sm (a + 1 + i) (fun b => b1 (decide (a < b) && pP uB p q a b && ctU uK uO uR uL a b))), nI (a + 1 + i))) (n - (a + 1)) ?_ ?_ ?_ (by omega)
    · show _ = (nI (c0 + sm (a + 1) _), nI (a + 1))
      rw [sm_z (a + 1) (fun i hi => by rw [decide_eq_false (show ¬ a < i by omega)]; rfl), nI_succ a]
      rfl
    · intro i hi
      have hb : a + 1 + i < n := by omega
      unfold f_Cl_pairsOf_L20
      show (if nI n ≤ nI (a + 1 + i) then _ else _) = _
      obtain ⟨⟨a1, -⟩, -⟩ := h.2 a ha
      obtain ⟨⟨b1', -⟩, -⟩ := h.2 _ hb
      rw [if_neg (nI_ge hb (by omega)), cr_x h ha hb, rg (by omega) (by decide), rg (by omega) (by decide), a1, b1', x_isPair, ← nI_succ, ← nI_succ]
      show (if bI (pP uB p q a (a + 1 + i)) = 0 then _ else _) = Sum.inl (nI (c0 + (sm (a + 1 + i) (fun b => b1 (decide (a < b) && pP uB p q a b && ctU uK uO uR uL a b)) + b1 (decide (a < a + 1 + i) && pP uB p q a (a + 1 + i) && ctU uK uO uR uL a (a + 1 + i)))), nI (a + 1 + i + 1))
      rw [decide_eq_true (show a < a + 1 + i by omega)]
      cases h1 : pP uB p q a (a + 1 + i) with
      | false => rfl
      | true =>
        rw [if_neg (by decide)]
        cases h2 : ctU uK uO uR uL a (a + 1 + i) with
        | false => rfl
        | true =>
          rw [if_neg (by decide)]
          rfl
    · unfold f_Cl_pairsOf_L20
      show (if nI n ≤ nI (a + 1 + (n - (a + 1))) then _ else _) = _
      rw [if_pos (nI_le (by omega) (by omega)), show a + 1 + (n - (a + 1)) = n by omega, ← nI_succ]
  unfold f_Cl_pairsOf
  refine lp_0 (fun a => (nI (sm a (fun a => sm n (fun b => b1 (decide (a < b) && pP uB p q a b && ctU uK uO uR uL a b)))), nI a)) n rfl ?_ ?_ (by omega)
  · intro a ha
    unfold f_Cl_pairsOf_L5
    show (if nI n ≤ nI a then _ else _) = _
    rw [if_neg (nI_ge ha (by omega))]
    exact L20 a _ ha
  · unfold f_Cl_pairsOf_L5
    show (if nI n ≤ nI n then _ else _) = _
    rw [if_pos (nI_le (Nat.le_refl _) (by omega))]
def pM (uB : Nat → Int32) (p q : Int32) (c d : Nat) : Bool := decide (uB c = p) && decide (uB d = q) && (!decide (p = q) || decide (d < c))
theorem pairs_same (uK uO uR uL uB : Nat → Int32) (p q : Int32) : sm n (fun a => sm n (fun b => b1 (decide (a < b) && pP uB p q a b && ctU uK uO uR uL a b))) = sm n (fun c => sm n (fun d => b1 (pM uB p q c d && ctU uK uO uR uL c d))) := by
  by_cases hpq : p = q
  · subst hpq
    rw [sm_comm]
    refine sm_congr n (fun b _ => sm_congr n (fun a _ => ?_))
    rw [ctU_sym]
    unfold pP pM
    rw [decide_eq_true (rfl : p = p)]
    cases decide (a < b) <;> cases decide (uB a = p) <;> cases decide (uB b = p) <;> rfl
  · have h1 : ∀ c d, b1 (pM uB p q c d && ctU uK uO uR uL c d) = b1 (decide (c < d) && (decide (uB c = p) && decide (uB d = q)) && ctU uK uO uR uL c d) + b1 (decide (d < c) && (decide (uB c = p) && decide (uB d = q)) && ctU uK uO uR uL c d) := by
      intro c d
      unfold pM
      rw [decide_eq_false hpq]
      by_cases h3 : c < d
      · rw [decide_eq_true h3, decide_eq_false (show ¬ d < c by omega)]
        cases decide (uB c = p) <;> cases decide (uB d = q) <;> cases ctU uK uO uR uL c d <;> rfl
      · rw [decide_eq_false h3]
        by_cases h4 : d < c
        · rw [decide_eq_true h4]
          cases decide (uB c = p) <;> cases decide (uB d = q) <;> cases ctU uK uO uR uL c d <;> rfl
        · have e : c = d := by omega
          subst e
          rw [decide_eq_false h4]
          by_cases h5 : uB c = p
          · rw [decide_eq_false (show ¬ uB c = q from fun h => hpq (h5.symm.trans h))]
            cases decide (uB c = p) <;> rfl
          · rw [decide_eq_false h5]; rfl
    have h2 : ∀ a b, b1 (decide (a < b) && pP uB p q a b && ctU uK uO uR uL a b) = b1 (decide (a < b) && (decide (uB a = p) && decide (uB b = q)) && ctU uK uO uR uL a b) + b1 (decide (a < b) && (decide (uB b = p) && decide (uB a = q)) && ctU uK uO uR uL b a) := by
      intro a b
      rw [ctU_sym uK uO uR uL b a]
      unfold pP
      by_cases h5 : uB a = p
      · rw [decide_eq_true h5, decide_eq_false (show ¬ uB a = q from fun h => hpq (h5.symm.trans h))]
        cases decide (a < b) <;> cases decide (uB b = q) <;> cases decide (uB b = p) <;> cases ctU uK uO uR uL a b <;> rfl
      · rw [decide_eq_false h5]
        cases decide (a < b) <;> cases decide (uB b = q) <;> cases decide (uB b = p) <;> cases decide (uB a = q) <;> cases ctU uK uO uR uL a b <;> rfl
    have e1 : sm n (fun a => sm n (fun b => b1 (decide (a < b) && pP uB p q a b && ctU uK uO uR uL a b))) = sm n (fun a => sm n (fun b => b1 (decide (a < b) && (decide (uB a = p) && decide (uB b = q)) && ctU uK uO uR uL a b))) + sm n (fun a => sm n (fun b => b1 (decide (a < b) && (decide (uB b = p) && decide (uB a = q)) && ctU uK uO uR uL b a))) := by
      rw [← sm_add]
      refine sm_congr n (fun a _ => ?_)
      rw [← sm_add]
      exact sm_congr n (fun b _ => h2 a b)
    have e2 : sm n (fun c => sm n (fun d => b1 (pM uB p q c d && ctU uK uO uR uL c d))) = sm n (fun c => sm n (fun d => b1 (decide (c < d) && (decide (uB c = p) && decide (uB d = q)) && ctU uK uO uR uL c d))) + sm n (fun c => sm n (fun d => b1 (decide (d < c) && (decide (uB c = p) && decide (uB d = q)) && ctU uK uO uR uL c d))) := by
      rw [← sm_add]
      refine sm_congr n (fun a _ => ?_)
      rw [← sm_add]
      exact sm_congr n (fun b _ => h1 a b)
    rw [e1, e2]
    congr 1
    exact sm_comm (fun a b => b1 (decide (a < b) && (decide (uB b = p) && decide (uB a = q)) && ctU uK uO uR uL b a)) n n
/-- how many claims are one teller's -/
theorem x_count (h : CR nt ne n xT xK xE xF xL uK uB uO uR uL) {N : Nat} (hN : 60 < N) (p : Int32) : f_Cl_countOf N (nI n) xT p = some (nI (sm n (fun j => b1 (decide (uB j = p))))) := by
  have hle := h.1
  unfold f_Cl_countOf
  refine lp_0 (fun a => (nI (sm a (fun j => b1 (decide (uB j = p)))), nI a)) n rfl ?_ ?_ (by omega)
  · intro a ha
    unfold f_Cl_countOf_L4
    obtain ⟨⟨a1, -⟩, -⟩ := h.2 a ha
    show (if nI n ≤ nI a then _ else _) = _
    rw [if_neg (nI_ge ha (by omega)), rg (by omega) (by decide), a1, ← nI_succ, ← nI_succ]
    show _ = Sum.inl (nI (sm a (fun j => b1 (decide (uB j = p))) + b1 (decide (uB a = p))), nI (a + 1))
    by_cases h1 : uB a = p
    · rw [if_pos h1, decide_eq_true h1]; rfl
    · rw [if_neg h1, decide_eq_false h1]; rfl
  · unfold f_Cl_countOf_L4
    show (if nI n ≤ nI n then _ else _) = _
    rw [if_pos (nI_le (Nat.le_refl _) (by omega))]
/-- windows -/
def hB (uK uB uO : Nat → Int32) (e D : Int32) (j : Nat) : Bool := decide (uK j = 0) && decide (uO j = e) && decide (f_Main_has D (uB j) = 0)
def wb (uK uB uO uR : Nat → Int32) (e D : Int32) : Nat → Int32
  | 0 => 0
  | j + 1 => if hB uK uB uO e D j = true then f_J9_max_7cf53 (wb uK uB uO uR e D j) (uR j) else wb uK uB uO uR e D j
def we (uK uB uO uL : Nat → Int32) (e D : Int32) : Nat → Int32
  | 0 => 99
  | j + 1 => if hB uK uB uO e D j = true then f_J9_min_7cf53 (we uK uB uO uL e D j) (uL j) else we uK uB uO uL e D j
theorem x_heard (h : CR nt ne n xT xK xE xF xL uK uB uO uR uL) {j : Nat} (hj : j < n) (e D : Int32) : f_Ve_isHeard xT xK xE (nI j) e D = bI (hB uK uB uO e D j) := by
  have hle := h.1
  obtain ⟨⟨a1, a2, a3, -⟩, -⟩ := h.2 j hj
  unfold f_Ve_isHeard hB
  rw [rg (by omega) (by decide), rg (by omega) (by decide), rg (by omega) (by decide), a1, a2, a3]
  by_cases h1 : uK j = 0
  · rw [if_pos h1, decide_eq_true h1]
    by_cases h2 : uO j = e
    · rw [if_pos h2, decide_eq_true h2]
      by_cases h3 : f_Main_has D (uB j) = 0
      · rw [if_pos h3, decide_eq_true h3]; rfl
      · rw [if_neg h3, decide_eq_false h3]; rfl
    · rw [if_neg h2, decide_eq_false h2]; rfl
  · rw [if_neg h1, decide_eq_false h1]; rfl
theorem x_first (h : CR nt ne n xT xK xE xF xL uK uB uO uR uL) {N : Nat} (hN : 60 < N) (e D : Int32) : f_Ve_firstHour N (nI n) xT xK xE xF e D = some (wb uK uB uO uR e D n) := by
  have hle := h.1
  unfold f_Ve_firstHour
  refine lp_0 (fun a => (wb uK uB uO uR e D a, nI a)) n rfl ?_ ?_ (by omega)
  · intro a ha
    obtain ⟨⟨-, -, -, a4, -⟩, -⟩ := h.2 a ha
    unfold f_Ve_firstHour_L5
    show (if nI n ≤ nI a then _ else _) = _
    rw [if_neg (nI_ge ha (by omega)), x_heard h ha, rg (by omega) (by decide), a4, ← nI_succ]
    show _ = Sum.inl ((if hB uK uB uO e D a = true then f_J9_max_7cf53 (wb uK uB uO uR e D a) (uR a) else wb uK uB uO uR e D a), nI (a + 1))
    cases hB uK uB uO e D a with
    | false => rfl
    | true => rw [if_neg (by decide)]; rfl
  · unfold f_Ve_firstHour_L5
    show (if nI n ≤ nI n then _ else _) = _
    rw [if_pos (nI_le (Nat.le_refl _) (by omega))]
theorem x_last (h : CR nt ne n xT xK xE xF xL uK uB uO uR uL) {N : Nat} (hN : 60 < N) (e D : Int32) : f_Ve_lastHour N (nI n) xT xK xE xL e D = some (we uK uB uO uL e D n) := by
  have hle := h.1
  unfold f_Ve_lastHour
  refine lp_0 (fun a => (we uK uB uO uL e D a, nI a)) n rfl ?_ ?_ (by omega)
  · intro a ha
    obtain ⟨⟨-, -, -, -, a4⟩, -⟩ := h.2 a ha
    unfold f_Ve_lastHour_L6
    show (if nI n ≤ nI a then _ else _) = _
    rw [if_neg (nI_ge ha (by omega)), x_heard h ha, rg (by omega) (by decide), a4, ← nI_succ]
    show _ = Sum.inl ((if hB uK uB uO e D a = true then f_J9_min_7cf53 (we uK uB uO uL e D a) (uL a) else we uK uB uO uL e D a), nI (a + 1))
    cases hB uK uB uO e D a with
    | false => rfl
    | true => rw [if_neg (by decide)]; rfl
  · unfold f_Ve_lastHour_L6
    show (if nI n ≤ nI n then _ else _) = _
    rw [if_pos (nI_le (Nat.le_refl _) (by omega))]
def wh (uK uB uO uR uL : Nat → Int32) (e D : Int32) (n : Nat) : Int32 := f_J9_max_7cf53 0 ((we uK uB uO uL e D n - wb uK uB uO uR e D n) + 1)
theorem x_hours (h : CR nt ne n xT xK xE xF xL uK uB uO uR uL) {N : Nat} (hN : 60 < N) (e D : Int32) : f_Ve_windowHours N (nI n) xT xK xE xF xL e D = some (wh uK uB uO uR uL e D n) := by
  unfold f_Ve_windowHours
  rw [x_last h hN, oB_s, x_first h hN, oB_s]
  rfl
theorem max0 (x : Int32) : (f_J9_max_7cf53 0 x = 0 ↔ f_J9_max_7cf53 0 x ≤ 0) := by
  unfold f_J9_max_7cf53
  by_cases h : (0 : Int32) < x
  · rw [if_pos h]
    constructor
    · intro e; rw [e] at h; exact absurd h (by decide)
    · intro e; exact absurd h (Int32.not_lt.mpr e)
  · rw [if_neg h]
    exact ⟨fun _ => by decide, fun _ => rfl⟩
end CRs
section PN
variable {A : Nat → Nat} {f1 f2 : Nat → Int32} {nt d : Nat}
def lat (bel t : Nat) : Nat := dif bel (2 ^ t - 1)
theorem lat_bit (bel t k : Nat) : (lat bel t).testBit k = (bel.testBit k && !decide (k < t)) := by
  unfold lat
  rw [dif_bit, full_bit]
theorem q_dif1 {s t : Nat} (ht : t < 32) : nI s &&& (((1 : Int32) <<< (nI t &&& 31)) ^^^ (-1)) = nI (dif s (2 ^ t)) := by rw [q_bit t ht, q_dif]
theorem lat_in {bel t : Nat} (h : bel.testBit t = true) : dif (lat bel t) (2 ^ t) = lat bel (t + 1) := by
  apply Nat.eq_of_testBit_eq
  intro k
  rw [dif_bit, lat_bit, lat_bit, Nat.testBit_two_pow]
  by_cases e : k = t
  · subst e
    rw [h, decide_eq_true (rfl : k = k), decide_eq_true (show k < k + 1 by omega)]
    simp
  · rw [decide_eq_false (show ¬ t = k from fun h => e h.symm)]
    by_cases h2 : k < t
    · rw [decide_eq_true h2, decide_eq_true (show k < t + 1 by omega)]; simp
    · rw [decide_eq_false h2, decide_eq_false (show ¬ k < t + 1 by omega)]; simp
theorem lat_out {bel t : Nat} (h : bel.testBit t = false) : lat bel t = lat bel (t + 1) := by
  apply Nat.eq_of_testBit_eq
  intro k
  rw [lat_bit, lat_bit]
  by_cases e : k = t
  · subst e
    rw [h]; rfl
  · by_cases h2 : k < t
    · rw [decide_eq_true h2, decide_eq_true (show k < t + 1 by omega)]
    · rw [decide_eq_false h2, decide_eq_false (show ¬ k < t + 1 by omega)]
theorem lat_lt {bel t : Nat} (h : bel < 1024) : lat bel t < 1024 := dif_lt (n := 10) h
def pnT (A : Nat → Nat) (bel nt : Nat) : Nat := sm nt (fun t => sm nt (fun k => b1 (bel.testBit t && bel.testBit k && decide (t < k) && (A t).testBit k)))
theorem x_pn (hA : Ag A f1) (hn : nt ≤ 10) {N : Nat} (hN : 60 < N) (d : Nat) : f_Ve_pairCount N (nI nt) f1 (nI d) = some (nI (pnT A (belN nt d) nt)) := by
  have hb := bel_10 (d := d) hn
  unfold f_Ve_pairCount
  rw [x_bel (by omega)]
  generalize hbel : belN nt d = bel at hb
  have hbk : ∀ k, nt ≤ k → bel.testBit k = false := fun k hk => by rw [← hbel, bel_bit, decide_eq_false (by omega)]; rfl
  refine lp_0 (fun t => (nI (sm t (fun t => sm nt (fun k => b1 (bel.testBit t && bel.testBit k && decide (t < k) && (A t).testBit k)))), nI (lat bel t), nI t)) nt ?_ ?_ ?_ (by omega)
  · show ((0 : Int32), nI bel, (0 : Int32)) = (nI 0, nI (lat bel 0), nI 0)
    have : lat bel 0 = bel := by
      apply Nat.eq_of_testBit_eq
      intro k
      rw [lat_bit, decide_eq_false (show ¬ k < 0 by omega)]
      simp
    rw [this]; rfl
  · intro t ht
    unfold f_Ve_pairCount_L11
    show (if nI nt ≤ nI t then _ else (if f_Main_has (nI (lat bel t)) (nI t) = 0 then Sum.inl (nI (sm t _), nI (lat bel t), nI t + 1) else Sum.inl (nI (sm t _) + f_J6_bitCount_0f7a4 (rget 10 f1 (nI t) &&& (nI (lat bel t) &&& ((1 <<< (nI t &&& 31)) ^^^ (-1)))), nI (lat bel t) &&& ((1 <<< (nI t &&& 31)) ^^^ (-1)), nI t + 1))) = Sum.inl (nI (sm t _ + sm nt (fun k => b1 (bel.testBit t && bel.testBit k && decide (t < k) && (A t).testBit k))), nI (lat bel (t + 1)), nI (t + 1))
    have hl := lat_lt (t := t) hb
    rw [if_neg (nI_ge ht (by omega)), q_has (by omega) (by omega), lat_bit, decide_eq_false (show ¬ t < t by omega), q_dif1 (by omega), rg (by omega) (by decide), (hA t (by omega)).1, q_and, q_pc _ (and_lt (n := 10) (hA t (by omega)).2), nI_add, ← nI_succ]
    cases hbt : bel.testBit t with
    | false =>
      rw [if_neg (show ¬ (false && !false) = true by decide), if_pos rfl, lat_out hbt, sm_z nt (fun k _ => by simp [b1])]
      rfl
    | true =>
      rw [if_pos (show (true && !false) = true by decide), if_neg one_ne, lat_in hbt]
      have e : pcN (A t &&& lat bel (t + 1)) = sm nt (fun k => b1 (true && bel.testBit k && decide (t < k) && (A t).testBit k)) := by
        rw [pcS_eq]
        unfold pcS
        rw [sm_ext (n := nt) 10 hn (fun k h1 _ => by rw [Nat.testBit_and, lat_bit, hbk k h1]; simp [b1])]
        refine sm_congr nt (fun k _ => ?_)
        rw [Nat.testBit_and, lat_bit]
        by_cases h3 : t < k
        · rw [decide_eq_true h3, decide_eq_false (show ¬ k < t + 1 by omega)]
          cases bel.testBit k <;> cases (A t).testBit k <;> rfl
        · rw [decide_eq_false h3, decide_eq_true (show k < t + 1 by omega)]
          cases bel.testBit k <;> cases (A t).testBit k <;> rfl
      rw [e]
  · unfold f_Ve_pairCount_L11
    show (if nI nt ≤ nI nt then _ else _) = _
    rw [if_pos (nI_le (Nat.le_refl _) (by omega))]
    rfl
end PN
