def accM (A : Nat → Nat) (nt bel j : Nat) : Option (Nat × Nat × Nat) := ((List.range j).filter (fun s => dif s bel == 0)).foldl (psi A nt bel) none
theorem accM_succ (A : Nat → Nat) (nt bel j : Nat) : accM A nt bel (j + 1) = if dif j bel = 0 then psi A nt bel (accM A nt bel j) j else accM A nt bel j := by
  unfold accM
  rw [List.range_succ, List.filter_append, List.foldl_append]
  by_cases h : dif j bel = 0
  · rw [if_pos h, List.filter_cons_of_pos (p := fun s => dif s bel == 0) (by simpa using h)]
    rfl
  · rw [if_neg h, List.filter_cons_of_neg (p := fun s => dif s bel == 0) (by simpa using h)]
    rfl
theorem psi_lt {A : Nat → Nat} {nt bel s j : Nat} {acc : Option (Nat × Nat × Nat)} (h : ∀ q, acc = some q → q.2.1 < j) (hs : s ≤ j) : ∀ q, psi A nt bel acc s = some q → q.2.1 < j + 1 := by
  intro q hq
  unfold psi at hq
  split at hq
  · cases acc with
    | none => cases hq; show s < j + 1; omega
    | some r =>
      have h1 := h r rfl
      have hq2 : (if pcN s ≤ r.1 then (if pcN s < r.1 then some (pcN s, s, 1) else some (r.1, (if pref s r.2.1 = true then s else r.2.1), r.2.2 + 1)) else some r) = some q := hq
      split at hq2
      · split at hq2
        · cases hq2; show s < j + 1; omega
        · cases hq2
          show (if pref s r.2.1 = true then s else r.2.1) < j + 1
          split <;> omega
      · cases hq2; omega
  · have := h q hq; omega
theorem accM_ok (A : Nat → Nat) (nt bel : Nat) : ∀ j, j ≤ 1024 → Vd j (accM A nt bel j) ∧ ∀ q, accM A nt bel j = some q → q.2.1 < j := by
  intro j
  induction j with
  | zero => intro _; exact ⟨(fun q h => nomatch h), (fun q h => nomatch h)⟩
  | succ j ih =>
    intro hj
    obtain ⟨h1, h2⟩ := ih (by omega)
    rw [accM_succ]
    by_cases h : dif j bel = 0
    · rw [if_pos h]
      exact ⟨psi_vd h1 (by omega), psi_lt h2 (Nat.le_refl _)⟩
    · rw [if_neg h]
      exact ⟨fun q hq => by obtain ⟨a, b, c⟩ := h1 q hq; exact ⟨a, b, by omega⟩, fun q hq => by have := h2 q hq; omega⟩
theorem look_step {A : Nat → Nat} {f : Nat → Int32} {nt bel N0 s n : Nat} {dbt l0 c0 : Int32} {acc : Option (Nat × Nat × Nat)} (hA : Ag A f) (hn : nt ≤ 10) (hb : bel < 1024) (hN0 : nt < N0) (hs : s ≤ bel) (hv : Vd n acc) (hne : ∀ q, acc = some q → q.2.1 < s) :
    f_M_look_L33 N0 dbt f (nI nt) (nI bel) (nI s, LO l0 acc, FO acc, CO c0 acc) = .inl (nI (s + 1), LO l0 (if dif s bel = 0 then psi A nt bel acc s else acc), FO (if dif s bel = 0 then psi A nt bel acc s else acc), CO c0 (if dif s bel = 0 then psi A nt bel acc s else acc)) := by
  have hs10 : s < 1024 := by omega
  have hp := pcN_le s hs10
  have hd : dif bel s < 1024 := dif_lt (n := 10) hb
  have he : f_M_isEnough N0 f (nI nt) (nI s) (nI bel) = some (if enB A nt (dif bel s) = true then 1 else 0) := by
    unfold f_M_isEnough
    rw [q_dif]
    exact m_enough hA hn hd hN0
  have gK : ¬ nI bel < nI s := nI_nlt hs (by omega)
  have hns : nI s + (1 : Int32) = nI (s + 1) := (nI_succ s).symm
  have hds : dif s bel < 2 ^ 31 := Nat.lt_of_lt_of_le (dif_lt (n := 10) hs10) (by decide)
  unfold f_M_look_L33
  rw [if_neg gK, q_pc s hs10, q_dif, he, hns]
  by_cases hin : dif s bel = 0
  · rw [if_pos ((q_0 hds).mpr hin), if_pos hin]
    clear hA hn hN0 he hd gK hns hds hin
    unfold psi
    by_cases hen : enB A nt (dif bel s) = true
    · rw [if_pos hen, if_pos hen]
      cases acc with
      | none =>
        have g1 : ¬ (11 : Int32) < nI (pcN s) := nI_nlt (a := 11) (by omega) (by decide)
        have g2 : ¬ (11 : Int32) ≤ nI (pcN s) := nI_ge (b := 11) (by omega) (by decide)
        have g3 : nI (pcN s) < (11 : Int32) := nI_lt (b := 11) (by omega) (by decide)
        show (if (11 : Int32) < nI (pcN s) then (Sum.inl (nI (s + 1), l0, (11 : Int32), c0) : (Int32 × Int32 × Int32 × Int32) ⊕ (Option (Int32 × Int32 × Int32 × Int32))) else _) = _
        rw [if_neg g1]
        show (if (11 : Int32) ≤ nI (pcN s) then _ else (if nI (pcN s) < (11 : Int32) then (Sum.inl (nI (s + 1), nI s, nI (pcN s), (0 : Int32) + (1 : Int32)) : (Int32 × Int32 × Int32 × Int32) ⊕ (Option (Int32 × Int32 × Int32 × Int32))) else _)) = _
        rw [if_neg g2, if_pos g3]
        rfl
      | some q =>
        obtain ⟨v1, v2, v3⟩ := hv q rfl
        have hqs := hne q rfl
        by_cases h2 : pcN s ≤ q.1
        · have g1 : ¬ nI q.1 < nI (pcN s) := nI_nlt h2 (by omega)
          show (if nI q.1 < nI (pcN s) then (_ : (Int32 × Int32 × Int32 × Int32) ⊕ (Option (Int32 × Int32 × Int32 × Int32))) else _) = _
          rw [if_neg g1]
          show (if nI q.1 ≤ nI (pcN s) then (_ : (Int32 × Int32 × Int32 × Int32) ⊕ (Option (Int32 × Int32 × Int32 × Int32))) else _) = Sum.inl (nI (s + 1), LO l0 (if pcN s ≤ q.1 then _ else _), FO (if pcN s ≤ q.1 then _ else _), CO c0 (if pcN s ≤ q.1 then _ else _))
          rw [if_pos h2]
          by_cases h3 : pcN s < q.1
          · have g2 : ¬ nI q.1 ≤ nI (pcN s) := nI_ge h3 (by omega)
            have g3 : nI (pcN s) < nI q.1 := nI_lt h3 (by omega)
            rw [if_neg g2, if_pos h3]
            show (if nI (pcN s) < nI q.1 then (_ : (Int32 × Int32 × Int32 × Int32) ⊕ (Option (Int32 × Int32 × Int32 × Int32))) else _) = _
            rw [if_pos g3]
            rfl
          · have h4 : pcN s = q.1 := by omega
            have g2 : nI q.1 ≤ nI (pcN s) := nI_le (by omega) (by omega)
            have g3 : ¬ nI (pcN s) < nI q.1 := nI_nlt (by omega) (by omega)
            rw [if_pos g2, if_neg h3]
            show (if nI (pcN s) < nI q.1 then (_ : (Int32 × Int32 × Int32 × Int32) ⊕ (Option (Int32 × Int32 × Int32 × Int32))) else _) = _
            rw [if_neg g3]
            show (if f_M_isAhead (nI s) (nI q.2.1) = 0 then Sum.inl (nI (s + 1), nI q.2.1, nI (pcN s), nI q.2.2 + 1) else Sum.inl (nI (s + 1), nI s, nI (pcN s), nI q.2.2 + 1)) = Sum.inl (nI (s + 1), nI (if pref s q.2.1 = true then s else q.2.1), nI q.1, nI (q.2.2 + 1))
            rw [q_ahead hs10 v2 (by omega), nI_succ q.2.2, h4]
            by_cases h5 : pref s q.2.1 = true
            · rw [if_pos h5, if_pos h5, if_neg one_ne]
            · rw [if_neg h5, if_neg h5, if_pos rfl]
        · have g1 : nI q.1 < nI (pcN s) := nI_lt (by omega) (by omega)
          show (if nI q.1 < nI (pcN s) then (_ : (Int32 × Int32 × Int32 × Int32) ⊕ (Option (Int32 × Int32 × Int32 × Int32))) else _) = Sum.inl (nI (s + 1), LO l0 (if pcN s ≤ q.1 then _ else _), FO (if pcN s ≤ q.1 then _ else _), CO c0 (if pcN s ≤ q.1 then _ else _))
          rw [if_pos g1, if_neg h2]
    · rw [if_neg hen, if_neg hen]
      show (if FO acc < nI (pcN s) then Sum.inl (nI (s + 1), LO l0 acc, FO acc, CO c0 acc) else Sum.inl (nI (s + 1), LO l0 acc, FO acc, CO c0 acc)) = _
      split <;> rfl
  · rw [if_neg (fun h => hin ((q_0 hds).mp h)), if_neg hin]
theorem look_go {A : Nat → Nat} {f : Nat → Int32} {nt bel N0 N : Nat} {dbt l0 c0 : Int32} (hA : Ag A f) (hn : nt ≤ 10) (hb : bel < 1024) (hN0 : nt < N0) (hN : bel + 1 < N) :
    lpS (f_M_look_L33 N0 dbt f (nI nt) (nI bel)) none N (0, l0, 11, c0) = some (dbt, LO l0 ((listM bel).foldl (psi A nt bel) none), FO ((listM bel).foldl (psi A nt bel) none), CO c0 ((listM bel).foldl (psi A nt bel) none)) := by
  refine lp_0 (fun j => (nI j, LO l0 (accM A nt bel j), FO (accM A nt bel j), CO c0 (accM A nt bel j))) (bel + 1) rfl (fun j hj => ?_) ?_ hN
  · obtain ⟨h1, h2⟩ := accM_ok A nt bel j (by omega)
    show f_M_look_L33 N0 dbt f (nI nt) (nI bel) (nI j, LO l0 (accM A nt bel j), FO (accM A nt bel j), CO c0 (accM A nt bel j)) = .inl (nI (j + 1), LO l0 (accM A nt bel (j + 1)), FO (accM A nt bel (j + 1)), CO c0 (accM A nt bel (j + 1)))
    rw [look_step hA hn hb hN0 (by omega) h1 h2, accM_succ]
  · unfold f_M_look_L33
    exact if_pos (nI_lt (by omega) (by omega))
/-- who is believed -/
def belN (nt d : Nat) : Nat := dif (2 ^ nt - 1) d
theorem bel_lt {nt d : Nat} : belN nt d < 2 ^ nt := dif_lt (by have := Nat.two_pow_pos nt; omega)
theorem bel_10 {nt d : Nat} (hn : nt ≤ 10) : belN nt d < 1024 := Nat.lt_of_lt_of_le bel_lt (Nat.pow_le_pow_right (by decide) hn : 2 ^ nt ≤ 2 ^ 10)
theorem full_bit {nt k : Nat} : (2 ^ nt - 1).testBit k = decide (k < nt) := Nat.testBit_two_pow_sub_one nt k
theorem bel_bit {nt d k : Nat} : (belN nt d).testBit k = (decide (k < nt) && !d.testBit k) := by
  unfold belN
  rw [dif_bit, full_bit]
theorem q_full {nt : Nat} (hn : nt < 32) : ((1 : Int32) <<< (nI nt &&& 31)) - 1 = nI (2 ^ nt - 1) := by
  rw [q_bit nt hn]
  have h := Nat.two_pow_pos nt
  have e : 2 ^ nt = (2 ^ nt - 1) + 1 := by omega
  rw [e, nI_pred]
  congr 1
theorem x_bel {nt d : Nat} (hn : nt < 32) : f_Ve_believedSet (nI nt) (nI d) = nI (belN nt d) := by
  unfold f_Ve_believedSet
  rw [q_full hn, q_dif]
  rfl
theorem m_bel {nt d : Nat} (hn : nt < 32) : f_M_believed (nI d) (nI nt) = nI (belN nt d) := by
  unfold f_M_believed
  rw [q_full hn, q_dif]
  rfl
theorem pow_pc : ∀ i, i < 1024 → (1 : Int32) <<< (nI (pcN i) &&& 31) = nI (2 ^ pcN i) := fun i hi => q_bit _ (by have := pcN_le i hi; omega)
/-- both ways, from scratch, to the same sets -/
theorem judge_look {A : Nat → Nat} {f1 f2 : Nat → Int32} {nt d : Nat} (h1 : Ag A f1) (h2 : Ag A f2) (hn : nt ≤ 10) (hsym : ∀ i j, i < 10 → j < 10 → (A i).testBit j = (A j).testBit i) :
    ∃ m l c, m = pcN l ∧ l < 1024 ∧ dif l (belN nt d) = 0 ∧ m ≤ 10 ∧
      (∀ (N : Nat) (xj xl xc : Int32), 2000 < N → ¬ nI d = xj → f_Ve_judge N (nI nt) xj xl xc f1 (nI d) = some (nI d, nI l, nI c)) ∧
      (∀ (N : Nat) (mj ml mf mc : Int32), 2000 < N → ¬ mj = nI d → f_M_look N (nI d) mj ml mf mc f2 (nI nt) = some (nI d, nI l, nI m, nI c)) := by
  obtain ⟨m, l, c, e1, e2, e3, e4, e5, e6⟩ := same_sets (A := A) (bel := belN nt d) hn bel_lt hsym
  have hb := bel_10 (d := d) hn
  have hi : invN A nt (belN nt d) < 1024 := inv_lt (n := 10) hb
  refine ⟨m, l, c, e3, e4, e5, e6, ?_, ?_⟩
  · intro N xj xl xc hN hne
    unfold f_Ve_judge
    rw [if_neg hne, x_bel (by omega), x_involved h1 hn hb (by omega)]
    have hK : 2 ^ pcN (invN A nt (belN nt d)) ≤ 1024 := (Nat.pow_le_pow_right (by decide) (pcN_le _ hi) : 2 ^ pcN (invN A nt (belN nt d)) ≤ 2 ^ 10)
    show lpS (f_Ve_judge_L39 N (nI nt) f1 (nI d) (nI (invN A nt (belN nt d))) (nI (belN nt d)) ((1 : Int32) <<< (f_J6_bitCount_0f7a4 (nI (invN A nt (belN nt d))) &&& 31))) none N (11, 0, 0, xl, xc) = _
    rw [q_pc _ hi, pow_pc _ hi]
    have := judge_go (A := A) (f := f1) (nt := nt) (bel := belN nt d) (inv := invN A nt (belN nt d)) (K := 2 ^ pcN (invN A nt (belN nt d))) (N0 := N) (p1 := nI d) (l0 := xl) (c0 := xc) h1 hn hb hi hK (by omega) (2 ^ pcN (invN A nt (belN nt d))) 0 0 N none (by omega) (by omega) (by decide) (fun q h => nomatch h)
    rw [← listX_sub hi, e2] at this
    exact this
  · intro N mj ml mf mc hN hne
    unfold f_M_look
    rw [if_neg hne, m_bel (by omega)]
    have := look_go (A := A) (f := f2) (nt := nt) (bel := belN nt d) (N0 := N) (N := N) (dbt := nI d) (l0 := ml) (c0 := mc) h2 hn hb (by omega) (by omega)
    rw [e1] at this
    exact this
