def accM (A : Nat → Nat) (nt bel j : Nat) : Option (Nat × Nat × Nat) := ((List.range j).filter (fun s => dif s bel == 0)).foldl (psi A nt bel) none
theorem accM_succ (A : Nat → Nat) (nt bel j : Nat) : accM A nt bel (j + 1) = if dif j bel = 0 then psi A nt bel (accM A nt bel j) j else accM A nt bel j := by
  unfold accM
  rw [List.range_succ, List.filter_append, List.foldl_append]
  by_cases h : dif j bel = 0
  · rw [if_pos h, List.filter_cons_of_pos (p := fun s => dif s bel == 0) (by simpa using h)]
    rfl
  · rw [if_neg h, List.filter_cons_of_neg (p := fun s => dif s bel == 0) (by simpa using h)]
    rfl
theorem psi_lt {A : Nat → Nat} {nt bel s j : Nat} {acc : Option (Nat × Nat × Nat)} (h : ∀ q, acc = some q → q.2.1 < j) (hs : s ≤ j) : ∀ q, psi A nt bel acc s = some q → q.2.1 < j + 1 := by
  intro q hq
  unfold psi at hq
  split at hq
  · cases acc with
    | none => cases hq; show s < j + 1; omega
    | some r =>
      have h1 := h r rfl
      have hq2 : (if pcN s ≤ r.1 then (if pcN s < r.1 then some (pcN s, s, 1) else some (r.1, (if pref s r.2.1 = true then s else r.2.1), r.2.2 + 1)) else some r) = some q := hq
      split at hq2
      · split at hq2
        · cases hq2; show s < j + 1; omega
        · cases hq2
          show (if pref s r.2.1 = true then s else r.2.1) < j + 1
          split <;> omega
      · cases hq2; omega
  · have := h q hq; omega
theorem accM_ok (A : Nat → Nat) (nt bel : Nat) : ∀ j, j ≤ 1024 → Vd j (accM A nt bel j) ∧ ∀ q, accM A nt bel j = some q → q.2.1 < j := by
  intro j
  induction j with
  | zero => intro _; exact ⟨(fun q h => nomatch h), (fun q h => nomatch h)⟩
  | succ j ih =>
    intro hj
    obtain ⟨h1, h2⟩ := ih (by omega)
    rw [accM_succ]
    by_cases h : dif j bel = 0
    · rw [if_pos h]
      exact ⟨psi_vd h1 (by omega), psi_lt h2 (Nat.le_refl _)⟩
    · rw [if_neg h]
      exact ⟨fun q hq => by obtain ⟨a, b, c⟩ := h1 q hq; exact ⟨a, b, by omega⟩, fun q hq => by have := h2 q hq; omega⟩
/-- who is believed -/
def belN (nt d : Nat) : Nat := dif (2 ^ nt - 1) d
theorem bel_lt {nt d : Nat} : belN nt d < 2 ^ nt := dif_lt (by have := Nat.two_pow_pos nt; omega)
theorem bel_10 {nt d : Nat} (hn : nt ≤ 10) : belN nt d < 1024 := Nat.lt_of_lt_of_le bel_lt (Nat.pow_le_pow_right (by decide) hn : 2 ^ nt ≤ 2 ^ 10)
theorem full_bit {nt k : Nat} : (2 ^ nt - 1).testBit k = decide (k < nt) := Nat.testBit_two_pow_sub_one nt k
theorem bel_bit {nt d k : Nat} : (belN nt d).testBit k = (decide (k < nt) && !d.testBit k) := by
  unfold belN
  rw [dif_bit, full_bit]
theorem q_full {nt : Nat} (hn : nt < 32) : ((1 : Int32) <<< (nI nt &&& 31)) - 1 = nI (2 ^ nt - 1) := by
  rw [q_bit nt hn]
  have h := Nat.two_pow_pos nt
  have e : 2 ^ nt = (2 ^ nt - 1) + 1 := by omega
  rw [e, nI_pred]
  congr 1
theorem x_bel {nt d : Nat} (hn : nt < 32) : f_Ve_believedSet (nI nt) (nI d) = nI (belN nt d) := by
  unfold f_Ve_believedSet
  rw [q_full hn, q_dif]
  rfl
theorem pow_pc : ∀ i, i < 1024 → (1 : Int32) <<< (nI (pcN i) &&& 31) = nI (2 ^ pcN i) := fun i hi => q_bit _ (by have := pcN_le i hi; omega)
