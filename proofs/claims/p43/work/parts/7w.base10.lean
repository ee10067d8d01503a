/-- the lines of events, tellers, claims, orders, behind a text B -/
def evT (B : List Int32) : Nat → List Int32
  | 0 => B
  | n + 1 => ((evT B n ++ kT 13) ++ dgL n) ++ kT 14
def teT (B : List Int32) : Nat → List Int32
  | 0 => B
  | n + 1 => ((teT B n ++ kT 15) ++ dgL n) ++ kT 14
def clsT (B : List Int32) (cl : List (Nat → Int32)) : Nat → List Int32
  | 0 => B
  | n + 1 => (clsT B cl n ++ clT (rw5 cl n)) ++ kT 23
def whT : Option (TT 4) → List Int32
  | none => kT 20
  | some T => ([] ++ kT 26) ++ txt 4 T
def daT (b : Bool) : List Int32 := if b = true then kT 24 else kT 25
def orT (B : List Int32) (os : List OT) : Nat → List Int32
  | 0 => B
  | n + 1 => (((orT B os n ++ daT (oG os n).1) ++ dgL (oG os n).2.1) ++ whT (oG os n).2.2) ++ kT 14
def allT (ne nt : Nat) (cl : List (Nat → Int32)) (os : List OT) : List Int32 := orT (clsT (teT (evT [] ne) nt) cl cl.length) os os.length
theorem evT_len (B : List Int32) : ∀ n, n ≤ 10 → (evT B n).length ≤ B.length + 9 * n
  | 0, _ => Nat.le_refl _
  | n + 1, h => by
    have h1 := evT_len B n (by omega)
    have k1 := kl_13
    have k2 := kl_14
    have k3 := dgL_t1 (v := n) (by omega)
    show (((evT B n ++ kT 13) ++ dgL n) ++ kT 14).length ≤ _
    simp only [List.length_append]
    omega
theorem teT_len (B : List Int32) : ∀ n, n ≤ 10 → (teT B n).length ≤ B.length + 10 * n
  | 0, _ => Nat.le_refl _
  | n + 1, h => by
    have h1 := teT_len B n (by omega)
    have k1 := kl_15
    have k2 := kl_14
    have k3 := dgL_t1 (v := n) (by omega)
    show (((teT B n ++ kT 15) ++ dgL n) ++ kT 14).length ≤ _
    simp only [List.length_append]
    omega
theorem clsT_len {ne nt : Nat} {B : List Int32} {cl : List (Nat → Int32)} (h : ∀ k, k < cl.length → CV1 ne nt (rw5 cl k)) (hne : ne ≤ 10) (hnt : nt ≤ 10) : ∀ n, n ≤ cl.length → (clsT B cl n).length ≤ B.length + 26 * n
  | 0, _ => Nat.le_refl _
  | n + 1, hn => by
    have h1 := clsT_len (B := B) h hne hnt n (by omega)
    have k1 := kl_23
    have k3 := clT_len (h n (by omega)) hne hnt
    show ((clsT B cl n ++ clT (rw5 cl n)) ++ kT 23).length ≤ _
    simp only [List.length_append]
    omega
theorem whT_len {ne nt : Nat} {o : Option (TT 4)} (h : ∀ T, o = some T → TB ne nt 4 T) (hne : ne ≤ 10) (hnt : nt ≤ 10) : (whT o).length ≤ 191 := by
  cases o with
  | none => exact Nat.le_trans (Nat.le_of_eq kl_20) (by decide)
  | some T =>
    have h1 := txt_len hne hnt 4 T (Or.inr (h T rfl))
    have k1 := kl_26
    show (([] ++ kT 26) ++ txt 4 T).length ≤ _
    simp only [List.length_append, List.length_nil]
    omega
theorem daT_len (b : Bool) : (daT b).length ≤ 9 := by
  have k1 := kl_24
  have k2 := kl_25
  unfold daT
  split <;> omega
theorem rw5_lt {cl : List (Nat → Int32)} {f : Nat → Int32} {k : Nat} (h : k < cl.length) : rw5 (cl ++ [f]) k = rw5 cl k := by
  show (cl ++ [f]).getD k z5 = cl.getD k z5
  rw [List.getD_eq_getElem?_getD, List.getD_eq_getElem?_getD, List.getElem?_append_left h]
theorem rw5_at {cl : List (Nat → Int32)} {f : Nat → Int32} : rw5 (cl ++ [f]) cl.length = f := by
  show (cl ++ [f]).getD cl.length z5 = f
  rw [List.getD_eq_getElem?_getD, List.getElem?_append_right (Nat.le_refl _), Nat.sub_self]
  rfl
theorem gd_lt {ca : List Nat} {q k : Nat} (h : k < ca.length) : (ca ++ [q]).getD k 0 = ca.getD k 0 := by rw [List.getD_eq_getElem?_getD, List.getD_eq_getElem?_getD, List.getElem?_append_left h]
theorem gd_at {ca : List Nat} {q : Nat} : (ca ++ [q]).getD ca.length 0 = q := by
  rw [List.getD_eq_getElem?_getD, List.getElem?_append_right (Nat.le_refl _), Nat.sub_self]
  rfl
theorem oG_lt {os : List OT} {o : OT} {k : Nat} (h : k < os.length) : oG (os ++ [o]) k = oG os k := by
  unfold oG
  rw [List.getD_eq_getElem?_getD, List.getD_eq_getElem?_getD, List.getElem?_append_left h]
theorem oG_at {os : List OT} {o : OT} : oG (os ++ [o]) os.length = o := by
  unfold oG
  rw [List.getD_eq_getElem?_getD, List.getElem?_append_right (Nat.le_refl _), Nat.sub_self]
  rfl
theorem oG_out {os : List OT} {k : Nat} (h : os.length ≤ k) : oG os k = (false, 0, none) := by
  unfold oG
  rw [List.getD_eq_getElem?_getD, List.getElem?_eq_none h]
  rfl
theorem clsT_pre {B : List Int32} {cl : List (Nat → Int32)} {f : Nat → Int32} : ∀ n, n ≤ cl.length → clsT B (cl ++ [f]) n = clsT B cl n
  | 0, _ => rfl
  | n + 1, h => by
    show (clsT B (cl ++ [f]) n ++ clT (rw5 (cl ++ [f]) n)) ++ kT 23 = (clsT B cl n ++ clT (rw5 cl n)) ++ kT 23
    rw [clsT_pre n (by omega), rw5_lt (by omega)]
theorem clsT_add {B : List Int32} {cl : List (Nat → Int32)} {f : Nat → Int32} : clsT B (cl ++ [f]) (cl.length + 1) = (clsT B cl cl.length ++ clT f) ++ kT 23 := by
  show (clsT B (cl ++ [f]) cl.length ++ clT (rw5 (cl ++ [f]) cl.length)) ++ kT 23 = _
  rw [clsT_pre _ (Nat.le_refl _), rw5_at]
theorem orT_pre {B : List Int32} {os : List OT} {o : OT} : ∀ n, n ≤ os.length → orT B (os ++ [o]) n = orT B os n
  | 0, _ => rfl
  | n + 1, h => by
    show (((orT B (os ++ [o]) n ++ daT (oG (os ++ [o]) n).1) ++ dgL (oG (os ++ [o]) n).2.1) ++ whT (oG (os ++ [o]) n).2.2) ++ kT 14 = (((orT B os n ++ daT (oG os n).1) ++ dgL (oG os n).2.1) ++ whT (oG os n).2.2) ++ kT 14
    rw [orT_pre n (by omega), oG_lt (by omega)]
theorem orT_add {B : List Int32} {os : List OT} {o : OT} : orT B (os ++ [o]) (os.length + 1) = (((orT B os os.length ++ daT o.1) ++ dgL o.2.1) ++ whT o.2.2) ++ kT 14 := by
  show (((orT B (os ++ [o]) os.length ++ daT (oG (os ++ [o]) os.length).1) ++ dgL (oG (os ++ [o]) os.length).2.1) ++ whT (oG (os ++ [o]) os.length).2.2) ++ kT 14 = _
  rw [orT_pre _ (Nat.le_refl _), oG_at]
theorem SimR.push {g : GG} {w w2 : va_W} {aC q r : Nat} {ca : List Nat} {cl : List (Nat → Int32)} {f : Nat → Int32} (h : SimR g w aC ca cl) (hl : ca.length = cl.length) (hq : (q, iA g 5 f) ∈ w2) (hr : (r, qA g 4 (ca ++ [q]).length (fun k => (ca ++ [q])[k]?)) ∈ w2) (hm : ∀ p ∈ w, p ∈ w2) : SimR g w2 r (ca ++ [q]) (cl ++ [f]) := by
  refine ⟨hr, fun k hk => ?_⟩
  rw [List.length_append] at hk
  by_cases hk2 : k < ca.length
  · rw [gd_lt hk2, rw5_lt (by omega)]
    exact hm _ (h.2 k hk2)
  · have e : k = ca.length := by have : k < ca.length + 1 := hk; omega
    subst e
    rw [gd_at, hl, rw5_at]
    exact hq
theorem CV.push {ne nt q : Nat} {ca : List Nat} {cl : List (Nat → Int32)} {f : Nat → Int32} (h : CV ne nt ca cl) (hf : CV1 ne nt f) (hl : cl.length < 40) : CV ne nt (ca ++ [q]) (cl ++ [f]) := by
  refine ⟨by rw [List.length_append, List.length_append, h.1]; rfl, by rw [List.length_append]; exact hl, fun k hk => ?_⟩
  rw [List.length_append] at hk
  by_cases hk2 : k < cl.length
  · rw [rw5_lt hk2]
    exact h.2.2 k hk2
  · have e : k = cl.length := by have : k < cl.length + 1 := hk; omega
    rw [e, rw5_at]
    exact hf
/-- the two events of a claim of two differ -/
def CD (cl : List (Nat → Int32)) : Prop := ∀ k, k < cl.length → ¬ rw5 cl k 0 = 0 → ¬ rw5 cl k 2 = rw5 cl k 3 ∧ rw5 cl k 4 = 0
theorem CD.push {cl : List (Nat → Int32)} {f : Nat → Int32} (h : CD cl) (hf : ¬ f 0 = 0 → ¬ f 2 = f 3 ∧ f 4 = 0) : CD (cl ++ [f]) := by
  intro k hk
  rw [List.length_append] at hk
  by_cases hk2 : k < cl.length
  · rw [rw5_lt hk2]
    exact h k hk2
  · have e : k = cl.length := by have : k < cl.length + 1 := hk; omega
    rw [e, rw5_at]
    exact hf
/-- orders without the row of their tests -/
def OMp (g : GG) (ne nt : Nat) (t : va_W) (aO : Nat) (oa : List Nat) (os : List OT) : Prop :=
  oa.length = os.length ∧ (aO, qA g 4 oa.length (fun k => oa[k]?)) ∈ t ∧ ∀ k, k < os.length → (oa.getD k 0, iA g 2 (oR os k)) ∈ t ∧ (oG os k).2.1 < nt ∧ ∀ T, (oG os k).2.2 = some T → TM g t 4 T ∧ TB ne nt 4 T ∧ tkn 4 T ≤ 43
theorem oR_lt {os : List OT} {o : OT} {k : Nat} (h : k < os.length) : oR (os ++ [o]) k = oR os k := by
  unfold oR
  rw [oG_lt h]
theorem oR_at {os : List OT} {b : Bool} {w : Nat} {ot : Option (TT 4)} : oR (os ++ [(b, w, ot)]) os.length = fun j => if j = 0 then bI b else if j = 1 then nI w else 0 := by
  unfold oR
  rw [oG_at]
theorem OMp.push {g : GG} {ne nt : Nat} {w w2 : va_W} {aO q r wh : Nat} {b : Bool} {ot : Option (TT 4)} {oa : List Nat} {os : List OT} (h : OMp g ne nt w aO oa os) (hq : (q, iA g 2 (fun j => if j = 0 then bI b else if j = 1 then nI wh else 0)) ∈ w2) (hr : (r, qA g 4 (oa ++ [q]).length (fun k => (oa ++ [q])[k]?)) ∈ w2) (hm : ∀ p ∈ w, p ∈ w2) (hw : wh < nt) (ho : ∀ T, ot = some T → TM g w2 4 T ∧ TB ne nt 4 T ∧ tkn 4 T ≤ 43) : OMp g ne nt w2 r (oa ++ [q]) (os ++ [(b, wh, ot)]) := by
  refine ⟨by rw [List.length_append, List.length_append, h.1]; rfl, hr, fun k hk => ?_⟩
  rw [List.length_append] at hk
  by_cases hk2 : k < os.length
  · rw [gd_lt (by have := h.1; omega), oR_lt hk2, oG_lt hk2]
    obtain ⟨h1, h2, h3⟩ := h.2.2 k hk2
    exact ⟨hm _ h1, h2, fun T hT => ⟨TM.mono hm 4 T (h3 T hT).1, (h3 T hT).2⟩⟩
  · have e : k = os.length := by have : k < os.length + 1 := hk; omega
    subst e
    rw [oR_at, oG_at, ← h.1, gd_at]
    exact ⟨hq, hw, ho⟩
theorem oT_add {os : List OT} {b : Bool} {w : Nat} {ot : Option (TT 4)} : va_up (oT os) os.length (match ot with | none => none | some T => some (tA 4 T)) = oT (os ++ [(b, w, ot)]) := by
  funext j
  unfold va_up
  by_cases h : j = os.length
  · subst h
    rw [if_pos rfl]
    show _ = oT (os ++ [(b, w, ot)]) os.length
    unfold oT
    rw [oG_at]
    cases ot <;> rfl
  · rw [if_neg h]
    unfold oT
    by_cases h2 : j < os.length
    · rw [oG_lt h2]
    · rw [oG_out (by omega), oG_out (by rw [List.length_append]; show os.length + 1 ≤ j; omega)]
theorem or2_0 (b : Bool) (w : Nat) : upd (upd (fun _ => (0 : Int32)) 0 (bI b)) 1 (nI w) = fun j => if j = 0 then bI b else if j = 1 then nI w else 0 := by
  funext j
  unfold upd
  by_cases h1 : j = 1
  · subst h1
    rfl
  · rw [if_neg h1]
    by_cases h0 : j = 0
    · rw [if_pos h0, if_pos h0]
    · rw [if_neg h0, if_neg h0, if_neg h1]
/-- what the law's told makes: the Sim, its rows, the text -/
def ToldP (g : GG) (a : Nat) (z : Nat × va_W) : Prop := ∃ (aC aD aO aT ne nt v m : Nat) (f : Nat → Int32) (ca oa : List Nat) (cl : List (Nat → Int32)) (os : List OT) (w : va_W),
  z.2 = simO z.1 aC aD aO aT ne nt 0 0 :: (aD, zA g 10 (dbF 0)) :: sbC a v (allT ne nt cl os) :: (v, yA g m f) :: w ∧ 0 < ne ∧ ne ≤ 6 ∧ 0 < nt ∧ nt ≤ 6 ∧ SimR g w aC ca cl ∧ OM g ne nt w aO aT oa os ∧ CV ne nt ca cl ∧ CD cl ∧ cl.length ≤ 16 ∧ BL (allT ne nt cl os) m f ∧ (allT ne nt cl os).length ≤ 1338 ∧ ∀ k T, k < os.length → (oG os k).2.2 = some T → tkn 4 T ≤ 43
