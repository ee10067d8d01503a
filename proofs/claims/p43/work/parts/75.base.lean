def z5 : Nat → Int32 := fun _ => 0
abbrev rw5 (cl : List (Nat → Int32)) (k : Nat) : Nat → Int32 := cl.getD k z5
/-- rows of n numbers, each at its own address -/
def rowsW (g : GG) (n : Nat) (ca : List Nat) (cl : List (Nat → Int32)) : va_W := (ca.zip cl).map (fun p => (p.1, iA g n p.2))
theorem rows_mem {g : GG} {n : Nat} {ca : List Nat} {cl : List (Nat → Int32)} (hl : ca.length = cl.length) {k : Nat} (hk : k < ca.length) : (ca.getD k 0, iA g n (rw5 cl k)) ∈ rowsW g n ca cl := by
  refine List.mem_map.mpr ⟨(ca.getD k 0, rw5 cl k), ?_, rfl⟩
  refine List.mem_of_getElem? (i := k) ?_
  rw [List.getElem?_zip_eq_some]
  exact ⟨by rw [List.getD_eq_getElem?_getD, List.getElem?_eq_getElem hk]; rfl, by show cl[k]? = some (rw5 cl k); rw [rw5, List.getD_eq_getElem?_getD, List.getElem?_eq_getElem (show k < cl.length by omega)]; rfl⟩
def dbF (d : Nat) : Nat → Int32 := fun j => if d.testBit j = true then 1 else 0
theorem dbF_t {d j : Nat} (h : d.testBit j = true) : dbF d j = 1 := if_pos h
theorem dbF_f {d j : Nat} (h : d.testBit j = false) : dbF d j = 0 := if_neg (by rw [h]; decide)
theorem dbF_0 {d j : Nat} : dbF d j = 0 ↔ d.testBit j = false := by
  unfold dbF
  cases d.testBit j <;> simp
/-- the Sim at s, somewhere in the world -/
def SimM (g : GG) (t : va_W) (s aC aD aO aT ne nt : Nat) (ev cr : Int32) (ca : List Nat) (cl : List (Nat → Int32)) (d : Nat) : Prop :=
  (s, .inr (10, [.int (nI ne), .int (nI nt), .ref aC, .ref aD, .ref aO, .ref aT, .int ev, .int cr])) ∈ t ∧ (aC, qA g 4 ca.length (fun k => ca[k]?)) ∈ t ∧ (∀ k, k < ca.length → (ca.getD k 0, iA g 5 (rw5 cl k)) ∈ t) ∧ (aD, zA g 10 (dbF d)) ∈ t
/-- claims as they may be -/
def CV1 (ne nt : Nat) (f : Nat → Int32) : Prop := k3 (f 0) ∧ (∃ t, t < nt ∧ f 1 = nI t) ∧ (∃ e, e < ne ∧ f 2 = nI e) ∧ (¬ f 0 = 0 → ∃ e, e < ne ∧ f 3 = nI e) ∧ (f 0 = 0 → ∃ x y, x ≤ y ∧ y < 100 ∧ f 3 = nI x ∧ f 4 = nI y)
def CV (ne nt : Nat) (ca : List Nat) (cl : List (Nat → Int32)) : Prop := ca.length = cl.length ∧ cl.length ≤ 40 ∧ ∀ k, k < cl.length → CV1 ne nt (rw5 cl k)
def ctF (f h : Nat → Int32) : Bool := ctB (f 0) (f 2) (f 3) (f 4) (h 0) (h 2) (h 3) (h 4)
theorem cl0 : (0 : Int32).toNatClampNeg = 0 := by decide
theorem cl1 : (1 : Int32).toNatClampNeg = 1 := by decide
theorem cl2 : (2 : Int32).toNatClampNeg = 2 := by decide
theorem cl3 : (3 : Int32).toNatClampNeg = 3 := by decide
theorem cl4 : (4 : Int32).toNatClampNeg = 4 := by decide
def bw (v : Int32) (n : Nat) : Nat := v.toBitVec.toNat % 2147483648 % n
theorem bw_lt (v : Int32) {n : Nat} (h : 0 < n) : bw v n < n := Nat.mod_lt _ h
theorem bw_and (v : Int32) : v &&& 2147483647 = nI (v.toBitVec.toNat % 2147483648) := pk_and v 31 (by decide)
def rwK (cl : List (Nat → Int32)) (i : Nat) : Nat → Int32 := fun j => rw5 cl j i
def cntS (cl : List (Nat → Int32)) (p : Int32) (k : Nat) : Nat := sm k (fun j => b1 (decide (rw5 cl j 1 = p)))
def pinS (cl : List (Nat → Int32)) (p q : Int32) (a m : Nat) : Nat := sm m (fun b => b1 (decide (a < b) && pP (rwK cl 1) p q a b && ctF (rw5 cl a) (rw5 cl b)))
def prsS (cl : List (Nat → Int32)) (p q : Int32) (k : Nat) : Nat := sm k (fun a => pinS cl p q a cl.length)
theorem sm_le : ∀ n (f : Nat → Nat) (c : Nat), (∀ i, i < n → f i ≤ c) → sm n f ≤ n * c
  | 0, _, _, _ => by simp [sm]
  | n + 1, f, c, h => by
    have := sm_le n f c (fun i hi => h i (by omega))
    have h2 := h n (by omega)
    show sm n f + f n ≤ _
    rw [Nat.succ_mul]
    omega
theorem b1_le (b : Bool) : b1 b ≤ 1 := by cases b <;> decide
theorem pin_le (cl : List (Nat → Int32)) (p q : Int32) (a m : Nat) : pinS cl p q a m ≤ m := by have := sm_le m (fun b => b1 (decide (a < b) && pP (rwK cl 1) p q a b && ctF (rw5 cl a) (rw5 cl b))) 1 (fun i _ => b1_le _); rw [Nat.mul_one] at this; exact this
theorem cnt_le (cl : List (Nat → Int32)) (p : Int32) (k : Nat) : cntS cl p k ≤ k := by have := sm_le k (fun j => b1 (decide (rw5 cl j 1 = p))) 1 (fun i _ => b1_le _); rw [Nat.mul_one] at this; exact this
theorem prs_le (cl : List (Nat → Int32)) (p q : Int32) (k : Nat) : prsS cl p q k ≤ k * cl.length := sm_le k _ _ (fun i _ => pin_le _ _ _ _ _)
theorem pin_0 (cl : List (Nat → Int32)) (p q : Int32) (a : Nat) : pinS cl p q a (a + 1) = 0 := sm_z _ (fun i hi => by rw [decide_eq_false (show ¬ a < i by omega)]; rfl)
def conS (cl : List (Nat → Int32)) (d a b : Nat) : Bool := !d.testBit a && !d.testBit b && decide (0 < prsS cl (nI a) (nI b) cl.length)
def pnIn (cl : List (Nat → Int32)) (d a m : Nat) : Nat := sm m (fun b => b1 (decide (a < b) && conS cl d a b))
def pnS (cl : List (Nat → Int32)) (d nt k : Nat) : Nat := sm k (fun a => pnIn cl d a nt)
theorem pnIn_le (cl : List (Nat → Int32)) (d a m : Nat) : pnIn cl d a m ≤ m := by have := sm_le m (fun b => b1 (decide (a < b) && conS cl d a b)) 1 (fun i _ => b1_le _); rw [Nat.mul_one] at this; exact this
theorem pnS_le (cl : List (Nat → Int32)) (d nt k : Nat) : pnS cl d nt k ≤ k * nt := sm_le k _ _ (fun i _ => pnIn_le _ _ _ _)
theorem pnIn_0 (cl : List (Nat → Int32)) (d a : Nat) : pnIn cl d a (a + 1) = 0 := sm_z _ (fun i hi => by rw [decide_eq_false (show ¬ a < i by omega)]; rfl)
def suS (f : Nat → Int32) : Nat → Int32
  | 0 => 0
  | k + 1 => suS f k + f k
