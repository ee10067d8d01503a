/-! orders: their tests, step by step, on both sides -/
theorem lp_two {S1 T1 S2 T2 : Type} {st1 : S1 → S1 ⊕ T1} {st2 : S2 → S2 ⊕ T2} {g1 : T1} {g2 : T2} (I : Nat → S1 → S2 → Prop) (k : Nat) (R : T1 → T2 → Prop)
    (h1 : ∀ j s1 s2, j < k → I j s1 s2 → (∃ a b, st1 s1 = .inl a ∧ st2 s2 = .inl b ∧ I (j + 1) a b) ∨ (∃ a b, st1 s1 = .inr a ∧ st2 s2 = .inr b ∧ R a b))
    (h2 : ∀ s1 s2, I k s1 s2 → ∃ a b, st1 s1 = .inr a ∧ st2 s2 = .inr b ∧ R a b) {n1 n2 : Nat} {s1 : S1} {s2 : S2} (hn1 : k < n1) (hn2 : k < n2) (h0 : I 0 s1 s2) : ∃ a b, lpS st1 g1 n1 s1 = a ∧ lpS st2 g2 n2 s2 = b ∧ R a b := by
  have key : ∀ m j n1 n2 s1 s2, j + m = k → m < n1 → m < n2 → I j s1 s2 → ∃ a b, lpS st1 g1 n1 s1 = a ∧ lpS st2 g2 n2 s2 = b ∧ R a b := by
    intro m
    induction m with
    | zero =>
      intro j n1 n2 s1 s2 hj a1 a2 hI
      cases n1 with
      | zero => omega
      | succ n1 =>
        cases n2 with
        | zero => omega
        | succ n2 =>
          have e : j = k := by omega
          subst e
          obtain ⟨a, b, h3, h4, h5⟩ := h2 s1 s2 hI
          exact ⟨a, b, lp_out h3, lp_out h4, h5⟩
    | succ m ih =>
      intro j n1 n2 s1 s2 hj a1 a2 hI
      cases n1 with
      | zero => omega
      | succ n1 =>
        cases n2 with
        | zero => omega
        | succ n2 =>
          rcases h1 j s1 s2 (by omega) hI with ⟨a, b, h3, h4, h5⟩ | ⟨a, b, h3, h4, h5⟩
          · rw [lp_in h3, lp_in h4]
            exact ih (j + 1) n1 n2 a b (by omega) (by omega) (by omega) h5
          · exact ⟨a, b, lp_out h3, lp_out h4, h5⟩
  exact key k 0 n1 n2 s1 s2 (by omega) hn1 hn2 h0
def z01 (v : Int32) : Prop := v = 0 ∨ v = 1
theorem bI_01 (b : Bool) : z01 (bI b) := by cases b <;> first | exact Or.inl rfl | exact Or.inr rfl
theorem one_bI (b : Bool) : f_Main_one (bI b) = bI b := by cases b <;> rfl
theorem one01 (x : Int32) : z01 (f_Main_one x) := by unfold f_Main_one; split <;> first | exact Or.inl rfl | exact Or.inr rfl
/-- the kinds of the steps: a fact, on both sides -/
def SF (nt : Nat) (K P o w a : Int32) : Prop :=
  (K = 131 ∧ o = 100 ∧ w = P) ∨ (K = 210 ∧ o = 10) ∨ (K = 211 ∧ o = 11) ∨ (K = 212 ∧ o = 12) ∨ (K = 213 ∧ o = 13 ∧ w = P) ∨ (K = 214 ∧ o = 14 ∧ w = P) ∨ (K = 215 ∧ o = 15 ∧ w = P) ∨
  (K = 217 ∧ o = 17 ∧ ∃ p q, p < nt ∧ q < nt ∧ w = nI p ∧ a = nI q ∧ P = nI (16 * p + q)) ∨ (K = 218 ∧ o = 18 ∧ w = P) ∨ (K = 219 ∧ o = 19 ∧ w = P)
def SB (K o : Int32) : Prop :=
  (K = 43 ∧ o = 101) ∨ (K = 45 ∧ o = 102) ∨ (K = 42 ∧ o = 103) ∨ (K = 47 ∧ o = 104) ∨ (K = 223 ∧ o = 23) ∨ (K = 224 ∧ o = 24) ∨
  (K = 60 ∧ o = 106) ∨ (K = 62 ∧ o = 107) ∨ (K = 61 ∧ o = 108) ∨ (K = 128 ∧ o = 109) ∨ (K = 129 ∧ o = 110) ∨ (K = 221 ∧ o = 21) ∨ (K = 222 ∧ o = 22)
def SR (nt : Nat) (K P o w a : Int32) : Prop := SF nt K P o w a ∨ (K = 134 ∧ o = 105) ∨ (K = 220 ∧ o = 20) ∨ SB K o
/-- what lies on the stack behind a step: true for what is 0 or 1 -/
def tyS (K : Int32) (l : List Bool) : Option (List Bool) :=
  if K = 131 ∨ K = 210 ∨ K = 211 ∨ K = 212 ∨ K = 214 ∨ K = 215 then some (false :: l)
  else if K = 213 ∨ K = 217 ∨ K = 218 ∨ K = 219 then some (true :: l)
  else if K = 134 then (match l with | _ :: l => some (false :: l) | [] => none)
  else if K = 220 then (match l with | true :: l => some (true :: l) | _ => none)
  else if K = 43 ∨ K = 45 ∨ K = 42 ∨ K = 47 ∨ K = 223 ∨ K = 224 then (match l with | _ :: _ :: l => some (false :: l) | _ => none)
  else if K = 60 ∨ K = 61 ∨ K = 62 ∨ K = 128 ∨ K = 129 then (match l with | _ :: _ :: l => some (true :: l) | _ => none)
  else if K = 221 ∨ K = 222 then (match l with | true :: true :: l => some (true :: l) | _ => none)
  else none
def tyP (K : Nat → Int32) (s0 : Nat) : Nat → Option (List Bool)
  | 0 => some []
  | i + 1 => match tyP K s0 i with
    | none => none
    | some l => tyS (K (s0 + i)) l
theorem tyP_none {K : Nat → Int32} {s0 i : Nat} (h : tyP K s0 i = none) : ∀ m, i ≤ m → tyP K s0 m = none := by
  intro m
  induction m with
  | zero => intro h2; rw [show i = 0 by omega] at h; exact h
  | succ m ih =>
    intro h2
    by_cases e : i = m + 1
    · rw [← e]; exact h
    · show (match tyP K s0 m with | none => none | some l => tyS (K (s0 + m)) l) = none
      rw [ih (by omega)]
def StkR : List Bool → (Nat → Int32) → (Nat → Int32) → Prop
  | [], _, _ => True
  | b :: l, xs, ms => xs l.length = ms l.length ∧ (b = true → z01 (xs l.length)) ∧ StkR l xs ms
theorem stk_upd {xs ms : Nat → Int32} {k : Nat} {v w : Int32} : ∀ l : List Bool, l.length ≤ k → StkR l xs ms → StkR l (upd xs k v) (upd ms k w) := by
  intro l
  induction l with
  | nil => intro _ _; exact trivial
  | cons b l ih =>
    intro h1 h2
    have h3 : l.length + 1 ≤ k := h1
    obtain ⟨a1, a2, a3⟩ := h2
    have e1 : upd xs k v l.length = xs l.length := by unfold upd; rw [if_neg (by omega)]
    have e2 : upd ms k w l.length = ms l.length := by unfold upd; rw [if_neg (by omega)]
    exact ⟨by rw [e1, e2]; exact a1, by rw [e1]; exact a2, ih (by omega) a3⟩
theorem upd_at {f : Nat → Int32} {k : Nat} {v : Int32} : upd f k v k = v := by unfold upd; rw [if_pos rfl]
theorem stk_push {xs ms : Nat → Int32} {v : Int32} {l : List Bool} {b : Bool} (h : StkR l xs ms) (hb : b = true → z01 v) : StkR (b :: l) (upd xs l.length v) (upd ms l.length v) := by
  refine ⟨?_, fun h2 => ?_, stk_upd l (Nat.le_refl _) h⟩
  · rw [upd_at, upd_at]
  · rw [upd_at]; exact hb h2
theorem pop1 (h : Nat) : nI (h + 1) - 1 = nI h := nI_pred h
theorem x_un {h : Nat} (hh : h < 400) (xs : Nat → Int32) : f_Co_reckon (nI (h + 1)) xs 134 = some (nI (h + 1), upd xs h (-(xs h))) := by
  unfold f_Co_reckon f_Co_pop f_Co_push
  simp only [oB_s, pop1, if_true]
  rw [rg hh (by decide), rs hh (by decide), ← nI_succ]
theorem x_not {h : Nat} (hh : h < 400) (xs : Nat → Int32) : f_Co_reckon (nI (h + 1)) xs 220 = some (nI (h + 1), upd xs h (if xs h = 0 then 1 else 0)) := by
  unfold f_Co_reckon f_Co_pop f_Co_push
  have n1 : ¬ (220 : Int32) = 134 := by decide
  simp only [oB_s, pop1, if_true, if_neg n1]
  rw [rg hh (by decide), rs hh (by decide), rs hh (by decide), ← nI_succ]
  by_cases h1 : xs h = 0
  · rw [if_pos h1, if_pos h1]; rfl
  · rw [if_neg h1, if_neg h1]; rfl
theorem x_bin {h : Nat} (hh : h + 1 < 400) (xs : Nat → Int32) {K : Int32} (n1 : ¬ K = 134) (n2 : ¬ K = 220) : f_Co_reckon (nI (h + 2)) xs K = some (nI (h + 1), upd xs h (f_Co_combine K (xs h) (xs (h + 1)))) := by
  unfold f_Co_reckon f_Co_pop f_Co_push
  have e : nI (h + 2) - 1 = nI (h + 1) := nI_pred (h + 1)
  simp only [oB_s, e, pop1, if_neg n1, if_neg n2]
  rw [rg hh (by decide), rg (by omega) (by decide), rs (by omega) (by decide), ← nI_succ]
theorem cmp01 (K a b : Int32) (h : K = 60 ∨ K = 61 ∨ K = 62 ∨ K = 128 ∨ K = 129) : z01 (f_Co_combine K a b) := by
  rcases h with rfl | rfl | rfl | rfl | rfl
  · show z01 (if b ≤ a then f_Main_one 0 else f_Main_one 1)
    split <;> exact one01 _
  · show z01 (if a = b then f_Main_one 1 else f_Main_one 0)
    split <;> exact one01 _
  · show z01 (if a ≤ b then f_Main_one 0 else f_Main_one 1)
    split <;> exact one01 _
  · show z01 (if b < a then f_Main_one 0 else f_Main_one 1)
    split <;> exact one01 _
  · show z01 (if a < b then f_Main_one 0 else f_Main_one 1)
    split <;> exact one01 _
theorem log01 (K a b : Int32) (h : K = 221 ∨ K = 222) (ha : z01 a) (hb : z01 b) : z01 (f_Co_combine K a b) := by
  rcases h with rfl | rfl <;> rcases ha with rfl | rfl <;> rcases hb with rfl | rfl <;> first | exact Or.inl rfl | exact Or.inr rfl
theorem bin_ty {K o : Int32} {l l2 : List Bool} {xs ms : Nat → Int32} (hb : SB K o) (h : tyS K l = some l2) (hs : StkR l xs ms) : ∃ b1 b2 l3 b, l = b1 :: b2 :: l3 ∧ l2 = b :: l3 ∧ (b = true → z01 (f_Co_combine K (xs l3.length) (xs (l3.length + 1)))) := by
  have key : ∀ (t : List Bool → Option (List Bool)), tyS K = t → t l = some l2 := fun t ht => ht ▸ h
  rcases hb with ⟨rfl, -⟩ | ⟨rfl, -⟩ | ⟨rfl, -⟩ | ⟨rfl, -⟩ | ⟨rfl, -⟩ | ⟨rfl, -⟩ | ⟨rfl, -⟩ | ⟨rfl, -⟩ | ⟨rfl, -⟩ | ⟨rfl, -⟩ | ⟨rfl, -⟩ | ⟨rfl, -⟩ | ⟨rfl, -⟩ <;>
    first
    | (have h2 := key (fun l => match l with | _ :: _ :: l => some (false :: l) | _ => none) rfl
       rcases l with _ | ⟨b1, _ | ⟨b2, l3⟩⟩
       · cases h2
       · cases h2
       · cases h2; exact ⟨b1, b2, l3, false, rfl, rfl, fun h => nomatch h⟩)
    | (have h2 := key (fun l => match l with | _ :: _ :: l => some (true :: l) | _ => none) rfl
       rcases l with _ | ⟨b1, _ | ⟨b2, l3⟩⟩
       · cases h2
       · cases h2
       · cases h2; exact ⟨b1, b2, l3, true, rfl, rfl, fun _ => cmp01 _ _ _ (by decide)⟩)
    | (have h2 := key (fun l => match l with | true :: true :: l => some (true :: l) | _ => none) rfl
       rcases l with _ | ⟨_ | _, _ | ⟨_ | _, l3⟩⟩
       · cases h2
       · cases h2
       · cases h2
       · cases h2
       · cases h2
       · cases h2
       · cases h2; exact ⟨true, true, l3, true, rfl, rfl, fun _ => log01 _ _ _ (by decide) (hs.2.2.2.1 rfl) (hs.2.1 rfl)⟩)
