/-! whether an order's test holds -/
def Wd (A : Nat → Nat) (nt ne n : Nat) (xT xK xE xF xL uK uB uO uR uL f1 f2 : Nat → Int32) : Prop :=
  CR nt ne n xT xK xE xF xL uK uB uO uR uL ∧ Ag A f1 ∧ Ag A f2 ∧ nt ≤ 10 ∧ ne ≤ 8 ∧ symA A
section HO
variable {A : Nat → Nat} {nt ne n d : Nat} {xT xK xE xF xL uK uB uO uR uL f1 f2 : Nat → Int32}
theorem z01_one {x : Int32} (h : z01 x) : f_Main_one x = x := by rcases h with rfl | rfl <;> rfl
theorem part_hi : ∀ p, p < 10 → ∀ q, q < 10 → nI (16 * p + q) >>> ((4 : Int32) &&& 31) = nI p := by decide +kernel
theorem part_lo : ∀ p, p < 10 → ∀ q, q < 10 → nI (16 * p + q) &&& 15 = nI q := by decide +kernel
def isFB (K : Int32) : Prop := K = 213 ∨ K = 217 ∨ K = 218 ∨ K = 219
/-- the orders of both sides -/
def stE (E : Nat → Nat) (k : Nat) : Nat := if k = 0 then 0 else E (k - 1)
def OR (nt no : Nat) (xD xW xEd xSk xSp uD uW uBg uEd uOr uWi uAl : Nat → Int32) : Prop :=
  no ≤ 16 ∧ ∃ E : Nat → Nat, ∀ k, k < no → xEd k = nI (E k) ∧ uEd k = nI (E k) ∧ uBg k = nI (stE E k) ∧ stE E k ≤ E k ∧ E k ≤ 400 ∧ (stE E k = E k ∨ tyP xSk (stE E k) (E k - stE E k) = some [true]) ∧
    (xD k = if uD k = 7 then 1 else 0) ∧ (∃ t, t < nt ∧ xW k = nI t ∧ uW k = nI t) ∧ ∀ s, stE E k ≤ s → s < E k → SR nt (xSk s) (xSp s) (uOr s) (uWi s) (uAl s)
theorem ty134 (l : List Bool) : tyS 134 l = (match l with | _ :: l => some (false :: l) | [] => none) := rfl
theorem ty220 (l : List Bool) : tyS 220 l = (match l with | true :: l => some (true :: l) | _ => none) := rfl
theorem ty_fact {K : Int32} {nt : Nat} {P o w a : Int32} {l l2 : List Bool} (h : SF nt K P o w a) (h2 : tyS K l = some l2) : ∃ b, l2 = b :: l ∧ (b = true → isFB K) := by
  rcases h with ⟨rfl, -⟩ | ⟨rfl, -⟩ | ⟨rfl, -⟩ | ⟨rfl, -⟩ | ⟨rfl, -⟩ | ⟨rfl, -⟩ | ⟨rfl, -⟩ | ⟨rfl, -⟩ | ⟨rfl, -⟩ | ⟨rfl, -⟩
  · have h3 : some (false :: l) = some l2 := h2
    cases h3; exact ⟨false, rfl, fun h => nomatch h⟩
  · have h3 : some (false :: l) = some l2 := h2
    cases h3; exact ⟨false, rfl, fun h => nomatch h⟩
  · have h3 : some (false :: l) = some l2 := h2
    cases h3; exact ⟨false, rfl, fun h => nomatch h⟩
  · have h3 : some (false :: l) = some l2 := h2
    cases h3; exact ⟨false, rfl, fun h => nomatch h⟩
  · have h3 : some (true :: l) = some l2 := h2
    cases h3; exact ⟨true, rfl, fun _ => Or.inl rfl⟩
  · have h3 : some (false :: l) = some l2 := h2
    cases h3; exact ⟨false, rfl, fun h => nomatch h⟩
  · have h3 : some (false :: l) = some l2 := h2
    cases h3; exact ⟨false, rfl, fun h => nomatch h⟩
  · have h3 : some (true :: l) = some l2 := h2
    cases h3; exact ⟨true, rfl, fun _ => Or.inr (Or.inl rfl)⟩
  · have h3 : some (true :: l) = some l2 := h2
    cases h3; exact ⟨true, rfl, fun _ => Or.inr (Or.inr (Or.inl rfl))⟩
  · have h3 : some (true :: l) = some l2 := h2
    cases h3; exact ⟨true, rfl, fun _ => Or.inr (Or.inr (Or.inr rfl))⟩
theorem ty_len {nt : Nat} {K P o w a : Int32} {l l2 : List Bool} (h : SR nt K P o w a) (h2 : tyS K l = some l2) : l2.length ≤ l.length + 1 := by
  rcases h with h | ⟨rfl, -⟩ | ⟨rfl, -⟩ | h
  · obtain ⟨b, rfl, -⟩ := ty_fact h h2
    exact Nat.le_refl _
  · have h3 := (ty134 l).symm.trans h2
    rcases l with _ | ⟨b, l⟩
    · cases h3
    · cases h3; show l.length + 1 ≤ l.length + 1 + 1; omega
  · have h3 := (ty220 l).symm.trans h2
    rcases l with _ | ⟨_ | _, l⟩
    · cases h3
    · cases h3
    · cases h3; show l.length + 1 ≤ l.length + 1 + 1; omega
  · obtain ⟨b1, b2, l3, b, rfl, rfl, -⟩ := bin_ty h h2 (xs := fun _ => 0) (ms := fun _ => 0) (by
      have : ∀ l : List Bool, StkR l (fun _ => 0) (fun _ => 0) := by
        intro l
        induction l with
        | nil => exact trivial
        | cons b l ih => exact ⟨rfl, fun _ => Or.inl rfl, ih⟩
      exact this l)
    show l3.length + 1 ≤ l3.length + 1 + 1 + 1; omega
end HO
