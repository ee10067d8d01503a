/-! who is against whom: hearing the claims and weaving -/
def CR (nt ne n : Nat) (xT xK xE xF xL uK uB uO uR uL : Nat → Int32) : Prop :=
  n ≤ 40 ∧ ∀ j, j < n → (xT j = uB j ∧ xK j = uK j ∧ xE j = uO j ∧ xF j = uR j ∧ xL j = uL j) ∧ k3 (uK j) ∧ (∃ t, t < nt ∧ uB j = nI t) ∧ (∃ e, e < ne ∧ uO j = nI e) ∧ (¬ uK j = 0 → ∃ e, e < ne ∧ uR j = nI e)
def ctU (uK uO uR uL : Nat → Int32) (a b : Nat) : Bool := ctB (uK a) (uO a) (uR a) (uL a) (uK b) (uO b) (uR b) (uL b)
theorem ctU_sym (uK uO uR uL : Nat → Int32) (a b : Nat) : ctU uK uO uR uL a b = ctU uK uO uR uL b a := ctB_sym _ _ _ _ _ _ _ _
section CRs
variable {nt ne n : Nat} {xT xK xE xF xL uK uB uO uR uL : Nat → Int32}
theorem cr_x (h : CR nt ne n xT xK xE xF xL uK uB uO uR uL) {a b : Nat} (ha : a < n) (hb : b < n) : f_Cl_contradict xK xE xF xL (nI a) (nI b) = bI (ctU uK uO uR uL a b) := by
  have h0 := h.1
  rw [x_ctr (by omega) (by omega)]
  obtain ⟨⟨-, a2, a3, a4, a5⟩, -⟩ := h.2 a ha
  obtain ⟨⟨-, b2, b3, b4, b5⟩, -⟩ := h.2 b hb
  rw [a2, a3, a4, a5, b2, b3, b4, b5]
  rfl
def tN (f : Nat → Int32) (j : Nat) : Nat := (f j).toNatClampNeg
theorem cr_t (h : CR nt ne n xT xK xE xF xL uK uB uO uR uL) (hn : nt ≤ 10) {a : Nat} (ha : a < n) : uB a = nI (tN uB a) ∧ tN uB a < nt ∧ xT a = nI (tN uB a) := by
  obtain ⟨⟨a1, -⟩, -, ⟨t, h1, h2⟩, -⟩ := h.2 a ha
  have e : tN uB a = t := by unfold tN; rw [h2, nI_clamp (by omega)]
  rw [a1, e]
  exact ⟨h2, h1, h2⟩
end CRs
def AgS (S : Nat → Nat → Prop) (f : Nat → Int32) : Prop := ∃ A : Nat → Nat, Ag A f ∧ ∀ t, t < 10 → ∀ s, ((A t).testBit s = true ↔ S t s)
theorem ags_iff {S S2 : Nat → Nat → Prop} {f : Nat → Int32} (h : AgS S f) (h2 : ∀ t s, S t s ↔ S2 t s) : AgS S2 f := by
  obtain ⟨A, h3, h4⟩ := h
  exact ⟨A, h3, fun t ht s => (h4 t ht s).trans (h2 t s)⟩
theorem ags_or {S : Nat → Nat → Prop} {f : Nat → Int32} {t s : Nat} (h : AgS S f) (ht : t < 10) (hs : s < 10) : AgS (fun a b => S a b ∨ (a = t ∧ b = s)) (upd f t (f t ||| nI (2 ^ s))) := by
  obtain ⟨A, h1, h2⟩ := h
  refine ⟨fun j => if j = t then A t ||| 2 ^ s else A j, fun j hj => ?_, fun a ha b => ?_⟩
  · unfold upd
    by_cases e : j = t
    · subst e
      simp only [if_true]
      rw [(h1 j hj).1, q_or]
      exact ⟨rfl, or_lt (n := 10) (h1 j hj).2 (Nat.pow_lt_pow_right (by decide) hs)⟩
    · simp only [if_neg e]
      exact h1 j hj
  · by_cases e : a = t
    · subst e
      simp only [if_true]
      rw [Nat.testBit_or, Nat.testBit_two_pow, Bool.or_eq_true, decide_eq_true_eq, h2 a ha b]
      constructor
      · rintro (h | h)
        · exact Or.inl h
        · exact Or.inr ⟨trivial, h.symm⟩
      · rintro (h | ⟨-, h⟩)
        · exact Or.inl h
        · exact Or.inr h.symm
    · simp only [if_neg e]
      rw [h2 a ha b]
      constructor
      · exact Or.inl
      · rintro (h | ⟨h, -⟩)
        · exact h
        · exact absurd h e
def sa (f : Nat → Int32) (t s : Nat) : Nat → Int32 := upd (upd f t (f t ||| nI (2 ^ s))) s (upd f t (f t ||| nI (2 ^ s)) s ||| nI (2 ^ t))
theorem ags_sa {S : Nat → Nat → Prop} {f : Nat → Int32} {t s : Nat} (h : AgS S f) (ht : t < 10) (hs : s < 10) : AgS (fun a b => (S a b ∨ (a = t ∧ b = s)) ∨ (a = s ∧ b = t)) (sa f t s) := ags_or (ags_or h ht hs) hs ht
theorem x_sa {f : Nat → Int32} {t s : Nat} (ht : t < 10) (hs : s < 10) : f_Ve_setAgainst f (nI t) (nI s) = some (sa f t s) := by
  unfold f_Ve_setAgainst
  rw [q_bit t (by omega), q_bit s (by omega), rg ht (by decide), rs ht (by decide), rg hs (by decide), rs hs (by decide)]
  rfl
def prs (P : Nat → Nat → Prop) (ct : Nat → Nat → Bool) (T : Nat → Nat) (t s : Nat) : Prop := ∃ c d, P c d ∧ ct c d = true ∧ ((t = T c ∧ s = T d) ∨ (t = T d ∧ s = T c))
theorem prs_add {P P2 : Nat → Nat → Prop} {ct : Nat → Nat → Bool} {T : Nat → Nat} {a b : Nat} (h1 : ∀ c d, P2 c d ↔ P c d ∨ (c = a ∧ d = b)) (hc : ct a b = true) (t s : Nat) : ((prs P ct T t s ∨ (t = T a ∧ s = T b)) ∨ (t = T b ∧ s = T a)) ↔ prs P2 ct T t s := by
  constructor
  · rintro ((⟨c, d, p, q, r⟩ | r) | r)
    · exact ⟨c, d, (h1 c d).mpr (Or.inl p), q, r⟩
    · exact ⟨a, b, (h1 a b).mpr (Or.inr ⟨rfl, rfl⟩), hc, Or.inl r⟩
    · exact ⟨a, b, (h1 a b).mpr (Or.inr ⟨rfl, rfl⟩), hc, Or.inr r⟩
  · rintro ⟨c, d, p, q, r⟩
    rcases (h1 c d).mp p with p | ⟨rfl, rfl⟩
    · exact Or.inl (Or.inl ⟨c, d, p, q, r⟩)
    · rcases r with r | r
      · exact Or.inl (Or.inr r)
      · exact Or.inr r
theorem prs_skip {P P2 : Nat → Nat → Prop} {ct : Nat → Nat → Bool} {T : Nat → Nat} {a b : Nat} (h1 : ∀ c d, P2 c d ↔ P c d ∨ (c = a ∧ d = b)) (hc : ct a b = false) (t s : Nat) : prs P ct T t s ↔ prs P2 ct T t s := by
  constructor
  · rintro ⟨c, d, p, q, r⟩
    exact ⟨c, d, (h1 c d).mpr (Or.inl p), q, r⟩
  · rintro ⟨c, d, p, q, r⟩
    rcases (h1 c d).mp p with p | ⟨rfl, rfl⟩
    · exact ⟨c, d, p, q, r⟩
    · rw [hc] at q; cases q
theorem prs_iff {P P2 : Nat → Nat → Prop} {ct : Nat → Nat → Bool} {T : Nat → Nat} (h1 : ∀ c d, P c d ↔ P2 c d) (t s : Nat) : prs P ct T t s ↔ prs P2 ct T t s := by
  constructor
  · rintro ⟨c, d, p, q⟩
    exact ⟨c, d, (h1 c d).mp p, q⟩
  · rintro ⟨c, d, p, q⟩
    exact ⟨c, d, (h1 c d).mpr p, q⟩
theorem ags_0 {f : Nat → Int32} {P : Nat → Nat → Prop} {ct : Nat → Nat → Bool} {T : Nat → Nat} (h : ∀ j, j < 10 → f j = 0) (hP : ∀ c d, ¬ P c d) : AgS (prs P ct T) f := by
  refine ⟨fun _ => 0, fun j hj => ⟨h j hj, (by decide : (0 : Nat) < 1024)⟩, fun t _ s => ?_⟩
  rw [Nat.zero_testBit]
  constructor
  · intro h; cases h
  · rintro ⟨c, d, p, -⟩; exact absurd p (hP c d)
section CRs
variable {nt ne n : Nat} {xT xK xE xF xL uK uB uO uR uL : Nat → Int32}
theorem x_hear (h : CR nt ne n xT xK xE xF xL uK uB uO uR uL) (hn : nt ≤ 10) {N : Nat} (hN : 60 < N) (j0 : Int32) (f0 : Nat → Int32) : ∃ f, f_Ve_hearClaims N (nI n) xT xK xE xF xL j0 f0 = some (-1, f) ∧ AgS (prs (fun c d => c < d ∧ d < n) (ctU uK uO uR uL) (tN uB)) f := by
  have hle := h.1
  have L48 : ∀ a f, a < n → AgS (prs (fun c d => c < d ∧ d < n ∧ c < a) (ctU uK uO uR uL) (tN uB)) f → ∃ t, lpS (f_Ve_hearClaims_L48 (nI n) xT xK xE xF xL (nI a)) (.inr (.inr none)) N (nI a + 1, f) = t ∧ ∃ f2, t = .inl (nI (a + 1), f2) ∧ AgS (prs (fun c d => c < d ∧ d < n ∧ c < a + 1) (ctU uK uO uR uL) (tN uB)) f2 := by
    intro a f ha hf
    refine lp_inv (fun i z => z.1 = nI (a + 1 + i) ∧ AgS (prs (fun c d => c < d ∧ d < n ∧ (c < a ∨ (c = a ∧ d < a + 1 + i))) (ctU uK uO uR uL) (tN uB)) z.2) (n - (a + 1)) _ ?_ ?_ (by omega) ⟨(nI_succ a).symm, ags_iff hf (prs_iff (fun c d => by constructor <;> intro _ <;> omega))⟩
    · rintro i ⟨z1, z2⟩ hi ⟨rfl, hz⟩
      have hb : a + 1 + i < n := by omega
      unfold f_Ve_hearClaims_L48
      show ∃ s2, (if nI n ≤ nI (a + 1 + i) then _ else _) = Sum.inl s2 ∧ _
      rw [if_neg (nI_ge hb (by omega)), cr_x h ha hb, ← nI_succ]
      have hP : ∀ c d, (c < d ∧ d < n ∧ (c < a ∨ (c = a ∧ d < a + 1 + (i + 1)))) ↔ (c < d ∧ d < n ∧ (c < a ∨ (c = a ∧ d < a + 1 + i))) ∨ (c = a ∧ d = a + 1 + i) := by
        intro c d
        constructor
        · intro _; omega
        · intro _; omega
      cases hc : ctU uK uO uR uL a (a + 1 + i) with
      | false =>
        rw [if_pos (show bI false = 0 from rfl)]
        exact ⟨_, rfl, by show nI (a + 1 + i + 1) = _; rw [show a + 1 + (i + 1) = a + 1 + i + 1 by omega], ags_iff hz (prs_skip hP hc)⟩
      | true =>
        obtain ⟨-, t2, t3⟩ := cr_t h hn ha
        obtain ⟨-, u2, u3⟩ := cr_t h hn hb
        rw [if_neg (by decide), rg (by omega) (by decide), rg (by omega) (by decide), t3, u3, x_sa (by omega) (by omega)]
        exact ⟨_, rfl, by show nI (a + 1 + i + 1) = _; rw [show a + 1 + (i + 1) = a + 1 + i + 1 by omega], ags_iff (ags_sa hz (by omega) (by omega)) (prs_add hP hc)⟩
    · rintro ⟨z1, z2⟩ ⟨rfl, hz⟩
      unfold f_Ve_hearClaims_L48
      show ∃ t, (if nI n ≤ nI (a + 1 + (n - (a + 1))) then _ else _) = Sum.inr t ∧ _
      rw [if_pos (nI_le (by omega) (by omega)), ← nI_succ]
      exact ⟨_, rfl, z2, rfl, ags_iff hz (prs_iff (fun c d => by constructor <;> intro _ <;> omega))⟩
  have L30 : ∀ f, (∀ j, j < 10 → f j = 0) → ∃ t, lpS (f_Ve_hearClaims_L30 N (nI n) xT xK xE xF xL) (.inr none) N (0, f) = t ∧ ∃ f2, t = .inr (some (-1, f2)) ∧ AgS (prs (fun c d => c < d ∧ d < n) (ctU uK uO uR uL) (tN uB)) f2 := by
    intro f hf
    refine lp_inv (fun a z => z.1 = nI a ∧ AgS (prs (fun c d => c < d ∧ d < n ∧ c < a) (ctU uK uO uR uL) (tN uB)) z.2) n _ ?_ ?_ (by omega) ⟨rfl, ags_0 hf (fun c d => by omega)⟩
    · rintro a ⟨z1, z2⟩ ha ⟨rfl, hz⟩
      obtain ⟨t, e1, f2, rfl, e2⟩ := L48 a z2 ha hz
      unfold f_Ve_hearClaims_L30
      show ∃ s2, (if nI n ≤ nI a then _ else _) = Sum.inl s2 ∧ _
      rw [if_neg (nI_ge ha (by omega))]
      exact ⟨_, e1, rfl, e2⟩
    · rintro ⟨z1, z2⟩ ⟨rfl, hz⟩
      unfold f_Ve_hearClaims_L30
      show ∃ t, (if nI n ≤ nI n then _ else _) = Sum.inr t ∧ _
      rw [if_pos (nI_le (Nat.le_refl _) (by omega))]
      exact ⟨_, rfl, z2, rfl, ags_iff hz (prs_iff (fun c d => by constructor <;> intro _ <;> omega))⟩
  have L7 : ∃ t, lpS (f_Ve_hearClaims_L7 N (nI n) xT xK xE xF xL) none N (0, f0) = t ∧ ∃ f, t = some (-1, f) ∧ AgS (prs (fun c d => c < d ∧ d < n) (ctU uK uO uR uL) (tN uB)) f := by
    refine lp_inv (fun a z => z.1 = nI a ∧ ∀ j, j < a → z.2 j = 0) 10 _ ?_ ?_ (by omega) ⟨rfl, fun j hj => absurd hj (Nat.not_lt_zero _)⟩
    · rintro a ⟨z1, z2⟩ ha ⟨rfl, hz⟩
      unfold f_Ve_hearClaims_L7
      show ∃ s2, (if (10 : Int32) ≤ nI a then _ else _) = Sum.inl s2 ∧ _
      rw [if_neg (show ¬ (10 : Int32) ≤ nI a from nI_ge (b := 10) ha (by decide)), rs ha (by decide), ← nI_succ]
      refine ⟨_, rfl, rfl, fun j hj => ?_⟩
      show upd z2 a 0 j = 0
      unfold upd
      by_cases e : j = a
      · rw [if_pos e]
      · rw [if_neg e]; exact hz j (by omega)
    · rintro ⟨z1, z2⟩ ⟨rfl, hz⟩
      obtain ⟨t, e1, f2, rfl, e2⟩ := L30 z2 hz
      unfold f_Ve_hearClaims_L7
      show ∃ t, (if (10 : Int32) ≤ nI 10 then _ else _) = Sum.inr t ∧ _
      rw [if_pos (by decide)]
      exact ⟨_, e1, f2, rfl, e2⟩
  obtain ⟨t, e1, f, rfl, e2⟩ := L7
  exact ⟨f, e1, e2⟩
def symA (A : Nat → Nat) : Prop := ∀ i j, i < 10 → j < 10 → (A i).testBit j = (A j).testBit i
end CRs
