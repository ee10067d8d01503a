theorem dl {a b n : Nat} (h : a ≤ b) : a ≤ b + n := Nat.le_trans h (Nat.le_add_right _ _)
def nzB (x : Int32) : Bool := decide (¬ x = 0)
theorem nzB_n {x : Int32} (h : nzB x = true) : ¬ x = 0 := of_decide_eq_true h
def nfB (x : UInt64) : Bool := decide (x &&& 0x7fffffffffffffff ≤ 0x7ff0000000000000)
theorem nfB_n {x : UInt64} (h : nfB x = true) : vf_n64 x := by unfold vf_n64; exact of_decide_eq_true h
theorem z0 : (0 : Int32) = 0 ∨ (0 : Int32) = 1 := Or.inl rfl
theorem z1 : (1 : Int32) = 0 ∨ (1 : Int32) = 1 := Or.inr rfl
theorem z_if {c : Prop} [Decidable c] {a b : Int32} (ha : a = 0 ∨ a = 1) (hb : b = 0 ∨ b = 1) : (if c then a else b) = 0 ∨ (if c then a else b) = 1 := by split <;> assumption
theorem ib_of {i : Int32} {n : Nat} (hn : n < 2147483648) (h1 : ¬ i < 0) (h2 : ¬ Int32.ofNat n ≤ i) : ib i n = true := by
  obtain ⟨j, hj, rfl⟩ := nI_of h1
  have h3 : ¬ n ≤ j := fun h => h2 (nI_le h hj)
  simp only [ib, Bool.and_eq_true, decide_eq_true_eq, nI_toInt hj]
  omega
theorem ib_neg {i : Int32} {n : Nat} (h1 : i < 0) : ib i n = false := by
  have : i.toInt < 0 := by simpa using Int32.lt_iff_toInt_lt.mp h1
  simp only [ib, Bool.and_eq_false_iff, decide_eq_false_iff_not]
  omega
theorem ib_big {i : Int32} {n : Nat} (hn : n < 2147483648) (h2 : Int32.ofNat n ≤ i) : ib i n = false := by
  have h := Int32.le_iff_toInt_le.mp h2
  rw [show (Int32.ofNat n).toInt = (n : Int) from nI_toInt hn] at h
  simp only [ib, Bool.and_eq_false_iff, decide_eq_false_iff_not]
  omega
theorem ib_nI {j n : Nat} (h : j < n) (hn : n < 2147483648) : ib (nI j) n = true := by
  simp only [ib, Bool.and_eq_true, decide_eq_true_eq, nI_toInt (show j < 2 ^ 31 by omega)]
  omega
theorem lg_cmp_0 (a b : Int64) : lg_cmp a b = 0 ↔ a = b := by
  unfold lg_cmp
  by_cases h1 : a > b
  · rw [if_pos h1]
    constructor
    · intro h; exact absurd h (by decide)
    · rintro rfl; exact absurd h1 (Int64.lt_irrefl)
  · rw [if_neg h1]
    by_cases h2 : a = b
    · rw [if_pos h2]; exact ⟨fun _ => h2, fun _ => rfl⟩
    · rw [if_neg h2]; exact ⟨fun h => absurd h (by decide), fun h => absurd h h2⟩
/-- a place outside holds 0 and takes nothing -/
def rget (n : Nat) (f : Nat → Int32) (i : Int32) : Int32 := if ib i n = true then f i.toNatClampNeg else 0
def rset (n : Nat) (f : Nat → Int32) (i v : Int32) : Nat → Int32 := if ib i n = true then upd f i.toNatClampNeg v else f
def rcpy (n : Nat) (f : Nat → Int32) (n2 : Nat) (f2 : Nat → Int32) : Nat → Int32 := fun j => if j < n then rget n2 f2 (nI j) else f j
def nfull (n : Nat) (c : Int32) : Int32 := if c < Int32.ofNat n then 0 else 1
theorem nfull_z (n : Nat) (c : Int32) : nfull n c = 0 ∨ nfull n c = 1 := by unfold nfull; split <;> simp
def nadd (n : Nat) (w : Nat → Int64) (c : Int32) (x : Int64) : Nat → Int64 := if ib c n = true then vp_updL w c.toNatClampNeg x else w
def nacnt (n : Nat) (c : Int32) : Int32 := if ib c n = true then c + 1 else c
theorem nadd_f {n : Nat} {w : Nat → Int64} {c : Int32} {x : Int64} (h : ib c n = false) : nadd n w c x = w := by unfold nadd; rw [h]; rfl
theorem nacnt_f {n : Nat} {c : Int32} (h : ib c n = false) : nacnt n c = c := by unfold nacnt; rw [h]; rfl
def nfindF (w : Nat → Int64) (c : Int32) (x : Int64) : Nat → Nat → Int32
  | 0, _ => -1
  | k + 1, p => if nI p < c then (if w p = x then nI p else nfindF w c x k (p + 1)) else -1
def nfind (n : Nat) (w : Nat → Int64) (c : Int32) (x : Int64) : Int32 := nfindF w c x n 0
theorem set_same {α : Type} {l : List α} {q : Nat} {e : α} (h : l[q]? = some e) : l.set q e = l := by
  apply List.ext_getElem?
  intro i
  by_cases hi : i = q
  · subst hi
    rw [List.getElem?_set_self (List.getElem?_eq_some_iff.mp h).1, h]
  · rw [List.getElem?_set_ne (Ne.symm hi)]
theorem set_at {α : Type} {l : List α} {q : Nat} {e e2 : α} (h : l[q]? = some e) : (l.set q e2)[q]? = some e2 := List.getElem?_set_self (List.getElem?_eq_some_iff.mp h).1
theorem set_off {α : Type} {l : List α} {p q : Nat} {e x : α} (h : l[p]? = some x) (hn : q ≠ p) : (l.set q e)[p]? = some x := by rw [List.getElem?_set_ne hn]; exact h
theorem kind_ne {l : va_W} {p q a b : Nat} {x : ClassId × vp_A} {y : Nat × List Value} (h1 : l[p]? = some (a, .inr y)) (h2 : l[q]? = some (b, .inl x)) : q ≠ p := by
  rintro rfl
  rw [h1] at h2
  cases h2
section LF
variable {g : GG} {ws : va_W}
set_option maxHeartbeats 2000000 in
theorem ct_Row_get {q1 q2 a c n : Nat} {f : Nat → Int32} {i : Int32} (h1 : ws[q1]? = some (a, .inr (5, [.ref c]))) (h2 : ws[q2]? = some (c, iA g n f)) (hn : n < 2147483648) : Ct g mX5_get 1 0 0 [.ref a, .int i] ws (Dv (some (.int (rget n f i))) ws) := by
  refine Ct.ofR (by decide +kernel) rfl (Nat.le_of_ble_eq_true rfl) ?_
  refine r_iload_n 1 dX5_get_0 rfl ?_
  refine r_if_lt (tgt := 22) dX5_get_1 (by decide) (fun h3 => ?_) (fun h3 => ?_)
  · refine r_iconst (v := 0) dX5_get_22 (by decide) ?_
    refine r_iret dX5_get_23 rfl ⟨?_, rfl⟩
    rw [rget, if_neg (by rw [ib_neg h3]; decide)]
  · refine r_iload_n 1 dX5_get_4 rfl ?_
    refine r_aload_n 0 dX5_get_5 rfl ?_
    refine r_getf _ dX5_get_6 fl_X5_7 h1 rfl ?_
    refine r_alenI _ dX5_get_9 h2 rfl ?_
    refine r_icmp_ge (tgt := 22) dX5_get_10 (by decide) (fun h4 => ?_) (fun h4 => ?_)
    · refine r_iconst (v := 0) dX5_get_22 (by decide) ?_
      refine r_iret dX5_get_23 rfl ⟨?_, rfl⟩
      rw [rget, if_neg (by rw [ib_big hn h4]; decide)]
    · have hb := ib_of hn h3 h4
      refine r_aload_n 0 dX5_get_13 rfl ?_
      refine r_getf _ dX5_get_14 fl_X5_7 h1 rfl ?_
      refine r_iload_n 1 dX5_get_17 rfl ?_
      refine r_iald _ dX5_get_18 h2 hb ?_
      refine r_goto (tgt := 23) dX5_get_19 (by decide) ?_
      refine r_iret dX5_get_23 rfl ⟨?_, rfl⟩
      rw [rget, if_pos hb]
set_option maxHeartbeats 2000000 in
theorem ct_Row_set {q1 q2 a c n : Nat} {f : Nat → Int32} {i v : Int32} {w2 : va_W} (h1 : ws[q1]? = some (a, .inr (5, [.ref c]))) (h2 : ws[q2]? = some (c, iA g n f)) (hw : ws.set q2 (c, iA g n (rset n f i v)) = w2) (hn : n < 2147483648) : Ct g mX5_set 1 0 0 [.ref a, .int i, .int v] ws (Dv none w2) := by
  have hs : ib i n = false → w2 = ws := by
    intro hb
    rw [← hw, rset, if_neg (by rw [hb]; decide)]
    exact set_same h2
  refine Ct.ofR (by decide +kernel) rfl (Nat.le_of_ble_eq_true rfl) ?_
  refine r_iload_n 1 dX5_set_0 rfl ?_
  refine r_if_lt (tgt := 20) dX5_set_1 (by decide) (fun h3 => ?_) (fun h3 => ?_)
  · exact r_vret dX5_set_20 rfl ⟨rfl, (hs (ib_neg h3)).symm⟩
  · refine r_iload_n 1 dX5_set_4 rfl ?_
    refine r_aload_n 0 dX5_set_5 rfl ?_
    refine r_getf _ dX5_set_6 fl_X5_7 h1 rfl ?_
    refine r_alenI _ dX5_set_9 h2 rfl ?_
    refine r_icmp_ge (tgt := 20) dX5_set_10 (by decide) (fun h4 => ?_) (fun h4 => ?_)
    · exact r_vret dX5_set_20 rfl ⟨rfl, (hs (ib_big hn h4)).symm⟩
    · have hb := ib_of hn h3 h4
      refine r_aload_n 0 dX5_set_13 rfl ?_
      refine r_getf _ dX5_set_14 fl_X5_7 h1 rfl ?_
      refine r_iload_n 1 dX5_set_17 rfl ?_
      refine r_iload_n 2 dX5_set_18 rfl ?_
      refine r_iast (ws2 := w2) _ dX5_set_19 h2 hb (by rw [rset, if_pos hb] at hw; exact hw) ?_
      exact r_vret dX5_set_20 rfl ⟨rfl, rfl⟩
theorem upd_rcpy {n2 k : Nat} {f f2 : Nat → Int32} : upd (fun j => if j < k then rget n2 f2 (nI j) else f j) k (rget n2 f2 (nI k)) = fun j => if j < k + 1 then rget n2 f2 (nI j) else f j := by
  funext j
  unfold upd
  by_cases h : j = k
  · subst h; simp
  · rw [if_neg h]
    by_cases h2 : j < k
    · simp only [if_pos h2, if_pos (show j < k + 1 by omega)]
    · simp only [if_neg h2, if_neg (show ¬ j < k + 1 by omega)]
set_option maxHeartbeats 2000000 in
theorem ct_Row_copyFrom {q1 q2 q3 q4 a c a2 c2 n n2 : Nat} {f f2 : Nat → Int32} {w2 : va_W} (h1 : ws[q1]? = some (a, .inr (5, [.ref c]))) (h2 : ws[q2]? = some (c, iA g n f)) (h3 : ws[q3]? = some (a2, .inr (5, [.ref c2]))) (h4 : ws[q4]? = some (c2, iA g n2 f2)) (hne : q2 ≠ q4)
    (hw : ws.set q2 (c, iA g n (rcpy n f n2 f2)) = w2) (hn : n < 2147483648) (hn2 : n2 < 2147483648) : Ct g mX5_copyFrom 2 0 0 [.ref a, .ref a2] ws (Dv none w2) := by
  have e12 := kind_ne h1 h2
  have e32 := kind_ne h3 h2
  have loop : ∀ m k : Nat, k + m = n → R g mX5_copyFrom 2 0 0 2 [(2, .int (nI k)), (0, .ref a), (1, .ref a2)] [] (ws.set q2 (c, iA g n (fun j => if j < k then rget n2 f2 (nI j) else f j))) (Dv none w2) := by
    intro m
    induction m with
    | zero =>
      intro k hk
      refine r_iload_n 0 dX5_copyFrom_2 rfl ?_
      refine r_aload_n 1 dX5_copyFrom_3 rfl ?_
      refine r_getf _ dX5_copyFrom_4 fl_X5_7 (set_off h1 e12) rfl ?_
      refine r_alenI _ dX5_copyFrom_7 (set_at h2) rfl ?_
      refine r_icmp_ge (tgt := 28) dX5_copyFrom_8 (by decide) (fun h5 => ?_) (fun h5 => ?_)
      · refine r_vret dX5_copyFrom_28 rfl ⟨rfl, ?_⟩
        rw [← hw, show rcpy n f n2 f2 = (fun j => if j < k then rget n2 f2 (nI j) else f j) by rw [show k = n by omega]; rfl]
      · exact absurd (nI_le (show n ≤ k by omega) (by omega)) h5
    | succ m ih =>
      intro k hk
      refine r_iload_n 0 dX5_copyFrom_2 rfl ?_
      refine r_aload_n 1 dX5_copyFrom_3 rfl ?_
      refine r_getf _ dX5_copyFrom_4 fl_X5_7 (set_off h1 e12) rfl ?_
      refine r_alenI _ dX5_copyFrom_7 (set_at h2) rfl ?_
      refine r_icmp_ge (tgt := 28) dX5_copyFrom_8 (by decide) (fun h5 => ?_) (fun h5 => ?_)
      · exact absurd h5 (nI_ge (show k < n by omega) (by omega))
      · refine r_aload_n 1 dX5_copyFrom_11 rfl ?_
        refine r_getf _ dX5_copyFrom_12 fl_X5_7 (set_off h1 e12) rfl ?_
        refine r_iload_n 0 dX5_copyFrom_15 rfl ?_
        refine r_aload_n 2 dX5_copyFrom_16 rfl ?_
        refine r_iload_n 0 dX5_copyFrom_17 rfl ?_
        refine c_V (rest := [.int (nI k), .ref c]) 0 0 _ dX5_copyFrom_18 kv_X5_13 (ct_Row_get (set_off h3 e32) (set_off h4 hne) hn2) rfl rfl (set_off h3 e32) rfl (Nat.le_of_ble_eq_true rfl) (by decide) (by decide) ?_
        refine r_iast (ws2 := ws.set q2 (c, iA g n (fun j => if j < k + 1 then rget n2 f2 (nI j) else f j))) _ dX5_copyFrom_21 (set_at h2) (ib_nI (show k < n by omega) hn) (by rw [List.set_set, nI_clamp (show k < 2 ^ 31 by omega), upd_rcpy]) ?_
        refine r_iinc (v2 := nI (k + 1)) 0 [(2, .int (nI (k + 1))), (0, .ref a), (1, .ref a2)] dX5_copyFrom_22 rfl (nI_succ k).symm (by decide) rfl ?_
        refine r_goto (tgt := 2) dX5_copyFrom_25 (by decide) ?_
        exact ih (k + 1) (by omega)
  refine Ct.ofR (by decide +kernel) rfl (Nat.le_of_ble_eq_true rfl) ?_
  refine r_iconst (v := 0) dX5_copyFrom_0 (by decide) ?_
  refine r_istore_n [(2, .int 0), (0, .ref a), (1, .ref a2)] dX5_copyFrom_1 (by decide) rfl ?_
  have e0 : ws.set q2 (c, iA g n (fun j => if j < 0 then rget n2 f2 (nI j) else f j)) = ws := by
    have : (fun j => if j < 0 then rget n2 f2 (nI j) else f j) = f := by funext j; simp
    rw [this]; exact set_same h2
  have h9 := loop n 0 (by omega)
  rw [e0] at h9
  exact h9
theorem ct_Na_isFull {q1 q2 a c n : Nat} {f : Nat → Int64} {k : Int32} (h1 : ws[q1]? = some (a, .inr (2, [.ref c, .int k]))) (h2 : ws[q2]? = some (c, lA g n f)) (hn : n < 2147483648) : Ct g mX2_isFull 1 0 0 [.ref a] ws (Dv (some (.int (nfull n k))) ws) := by
  refine Ct.ofR (by decide +kernel) rfl (Nat.le_of_ble_eq_true rfl) ?_
  refine r_aload_n 0 dX2_isFull_0 rfl ?_
  refine r_getf _ dX2_isFull_1 fl_X2_13 h1 rfl ?_
  refine r_aload_n 0 dX2_isFull_4 rfl ?_
  refine r_getf _ dX2_isFull_5 fl_X2_7 h1 rfl ?_
  refine r_alenL _ dX2_isFull_8 h2 rfl ?_
  refine r_icmp_lt (tgt := 16) dX2_isFull_9 (by decide) (fun h3 => ?_) (fun h3 => ?_)
  · refine r_iconst (v := 0) dX2_isFull_16 (by decide) ?_
    exact r_zret dX2_isFull_17 rfl rfl ⟨by rw [nfull, if_pos h3], rfl⟩
  · refine r_iconst (v := 1) dX2_isFull_12 (by decide) ?_
    refine r_goto (tgt := 17) dX2_isFull_13 (by decide) ?_
    exact r_zret dX2_isFull_17 rfl rfl ⟨by rw [nfull, if_neg h3], rfl⟩
set_option maxHeartbeats 2000000 in
theorem ct_Na_add {q1 q2 a c n : Nat} {f : Nat → Int64} {k : Int32} {v : Int64} {w1 w2 : va_W} (h1 : ws[q1]? = some (a, .inr (2, [.ref c, .int k]))) (h2 : ws[q2]? = some (c, lA g n f)) (hw1 : ib k n = true → ws.set q2 (c, lA g n (nadd n f k v)) = w1) (hw2 : ib k n = true → w1.set q1 (a, .inr (2, [.ref c, .int (nacnt n k)])) = w2) (hw3 : ib k n = false → w2 = ws) (hn : n < 2147483648) : Ct g mX2_add 1 0 0 [.ref a, .long v] ws (Dv none w2) := by
  refine Ct.ofR (by decide +kernel) rfl (Nat.le_of_ble_eq_true rfl) ?_
  refine r_aload_n 0 dX2_add_0 rfl ?_
  refine r_getf _ dX2_add_1 fl_X2_13 h1 rfl ?_
  refine r_if_lt (tgt := 39) dX2_add_4 (by decide) (fun h3 => ?_) (fun h3 => ?_)
  · exact r_vret dX2_add_39 rfl ⟨rfl, (hw3 (ib_neg h3)).symm⟩
  · refine r_aload_n 0 dX2_add_7 rfl ?_
    refine r_getf _ dX2_add_8 fl_X2_13 h1 rfl ?_
    refine r_aload_n 0 dX2_add_11 rfl ?_
    refine r_getf _ dX2_add_12 fl_X2_7 h1 rfl ?_
    refine r_alenL _ dX2_add_15 h2 rfl ?_
    refine r_icmp_ge (tgt := 39) dX2_add_16 (by decide) (fun h4 => ?_) (fun h4 => ?_)
    · exact r_vret dX2_add_39 rfl ⟨rfl, (hw3 (ib_big hn h4)).symm⟩
    · have hb := ib_of hn h3 h4
      have e12 := kind_ne h1 h2
      refine r_aload_n 0 dX2_add_19 rfl ?_
      refine r_getf _ dX2_add_20 fl_X2_7 h1 rfl ?_
      refine r_aload_n 0 dX2_add_23 rfl ?_
      refine r_getf _ dX2_add_24 fl_X2_13 h1 rfl ?_
      refine r_lload_n 1 dX2_add_27 rfl ?_
      refine r_last _ dX2_add_28 h2 hb (show _ = w1 by rw [← hw1 hb, nadd, if_pos hb]) ?_
      have h1' : w1[q1]? = some (a, .inr (2, [.ref c, .int k])) := by rw [← hw1 hb]; exact set_off h1 e12
      refine r_aload_n 0 dX2_add_29 rfl ?_
      refine r_dup dX2_add_30 rfl ?_
      refine r_getf _ dX2_add_31 fl_X2_13 h1' rfl ?_
      refine r_iconst (v := 1) dX2_add_34 (by decide) ?_
      refine r_iadd dX2_add_35 ?_
      refine r_putf _ dX2_add_36 fl_X2_13 h1' (Nat.le_of_ble_eq_true rfl) rfl rfl (show _ = w2 by rw [← hw2 hb, nacnt, if_pos hb]; rfl) ?_
      exact r_vret dX2_add_39 rfl ⟨rfl, rfl⟩
set_option maxHeartbeats 2000000 in
theorem ct_Na_find {q1 q2 a c n : Nat} {f : Nat → Int64} {k : Int32} {v : Int64} (h1 : ws[q1]? = some (a, .inr (2, [.ref c, .int k]))) (h2 : ws[q2]? = some (c, lA g n f)) (hn : n < 2147483648) : Ct g mX2_find 1 0 0 [.ref a, .long v] ws (Dv (some (.int (nfind n f k v))) ws) := by
  have loop : ∀ m p : Nat, p + m = n → R g mX2_find 1 0 0 2 [(3, .int (nI p)), (0, .ref a), (1, .long v)] [] ws (Dv (some (.int (nfindF f k v m p))) ws) := by
    intro m
    induction m with
    | zero =>
      intro p hp
      refine r_iload_n 0 dX2_find_2 rfl ?_
      refine r_aload_n 1 dX2_find_3 rfl ?_
      refine r_getf _ dX2_find_4 fl_X2_13 h1 rfl ?_
      refine r_icmp_ge (tgt := 38) dX2_find_7 (by decide) (fun h5 => ?_) (fun h5 => ?_)
      · refine r_iconst (v := -1) dX2_find_38 (by decide) ?_
        exact r_iret dX2_find_39 rfl ⟨rfl, rfl⟩
      · refine r_iload_n 0 dX2_find_10 rfl ?_
        refine r_aload_n 1 dX2_find_11 rfl ?_
        refine r_getf _ dX2_find_12 fl_X2_7 h1 rfl ?_
        refine r_alenL _ dX2_find_15 h2 rfl ?_
        refine r_icmp_ge (tgt := 38) dX2_find_16 (by decide) (fun h6 => ?_) (fun h6 => ?_)
        · refine r_iconst (v := -1) dX2_find_38 (by decide) ?_
          exact r_iret dX2_find_39 rfl ⟨rfl, rfl⟩
        · exact absurd (nI_le (show n ≤ p by omega) (by omega)) h6
    | succ m ih =>
      intro p hp
      refine r_iload_n 0 dX2_find_2 rfl ?_
      refine r_aload_n 1 dX2_find_3 rfl ?_
      refine r_getf _ dX2_find_4 fl_X2_13 h1 rfl ?_
      refine r_icmp_ge (tgt := 38) dX2_find_7 (by decide) (fun h5 => ?_) (fun h5 => ?_)
      · refine r_iconst (v := -1) dX2_find_38 (by decide) ?_
        refine r_iret dX2_find_39 rfl ⟨?_, rfl⟩
        rw [nfindF, if_neg (Int32.not_lt.mpr h5)]
      · have h5' : nI p < k := Int32.not_le.mp h5
        refine r_iload_n 0 dX2_find_10 rfl ?_
        refine r_aload_n 1 dX2_find_11 rfl ?_
        refine r_getf _ dX2_find_12 fl_X2_7 h1 rfl ?_
        refine r_alenL _ dX2_find_15 h2 rfl ?_
        refine r_icmp_ge (tgt := 38) dX2_find_16 (by decide) (fun h6 => ?_) (fun h6 => ?_)
        · exact absurd h6 (nI_ge (show p < n by omega) (by omega))
        · refine r_aload_n 1 dX2_find_19 rfl ?_
          refine r_getf _ dX2_find_20 fl_X2_7 h1 rfl ?_
          refine r_iload_n 0 dX2_find_23 rfl ?_
          refine r_lald _ dX2_find_24 h2 (ib_nI (show p < n by omega) hn) ?_
          refine r_lload_n 2 dX2_find_25 rfl ?_
          refine r_lcmp dX2_find_26 ?_
          refine r_if_ne (tgt := 32) dX2_find_27 (by decide) (fun h7 => ?_) (fun h7 => ?_)
          · rw [nI_clamp (by omega)] at h7
            refine r_iinc (v2 := nI (p + 1)) 0 [(3, .int (nI (p + 1))), (0, .ref a), (1, .long v)] dX2_find_32 rfl (nI_succ p).symm (by decide) rfl ?_
            refine r_goto (tgt := 2) dX2_find_35 (by decide) ?_
            rw [show nfindF f k v (m + 1) p = nfindF f k v m (p + 1) by rw [nfindF, if_pos h5', if_neg (fun e => h7 ((lg_cmp_0 _ _).mpr e))]]
            exact ih (p + 1) (by omega)
          · rw [nI_clamp (by omega)] at h7
            refine r_iload_n 0 dX2_find_30 rfl ?_
            refine r_iret dX2_find_31 rfl ⟨?_, rfl⟩
            rw [nfindF, if_pos h5', if_pos ((lg_cmp_0 _ _).mp h7)]
  refine Ct.ofR (by decide +kernel) rfl (Nat.le_of_ble_eq_true rfl) ?_
  refine r_iconst (v := 0) dX2_find_0 (by decide) ?_
  refine r_istore_n [(3, .int 0), (0, .ref a), (1, .long v)] dX2_find_1 (by decide) rfl ?_
  exact loop n 0 (by omega)
end LF
