/-! judging and looking: both come to the same sets -/
theorem rg {n j : Nat} {f : Nat → Int32} (h : j < n) (hn : n < 2147483648) : rget n f (nI j) = f j := by
  unfold rget
  rw [if_pos (ib_nI h hn), nI_clamp (by omega)]
/-- what a row of sets holds -/
def Ag (A : Nat → Nat) (f : Nat → Int32) : Prop := ∀ j, j < 10 → f j = nI (A j) ∧ A j < 1024
theorem one_ne : ¬ (1 : Int32) = 0 := by decide
theorem x_enough {A : Nat → Nat} {f : Nat → Int32} {nt rest N : Nat} (hA : Ag A f) (hn : nt ≤ 10) (hr : rest < 1024) (hN : nt < N) : lpS (f_Ve_isEnough_L9 (nI nt) f (nI rest)) none N 0 = some (if enB A nt rest = true then 1 else 0) := by
  have key := lp_all (step := f_Ve_isEnough_L9 (nI nt) f (nI rest)) (fail := none) (a := some 1) (b := some 0) (fun j => nI j) nt (fun t => decide (rest.testBit t = true → A t &&& rest = 0)) (by
      unfold f_Ve_isEnough_L9
      rw [if_pos (nI_le (Nat.le_refl _) (by omega))]) (fun j hj ho => by
      unfold f_Ve_isEnough_L9
      have h1 : f_Main_has (nI rest) (nI j) = if rest.testBit j = true then 1 else 0 := q_has (by omega) (by omega)
      rw [if_neg (nI_ge hj (by omega)), h1, rg (by omega) (by omega), (hA j (by omega)).1, q_and, ← nI_succ]
      have ho := of_decide_eq_true ho
      by_cases hb : rest.testBit j = true
      · rw [if_pos hb, if_neg one_ne, ho hb, if_pos (show nI 0 = 0 from rfl)]
      · rw [if_neg hb, if_pos rfl]) (fun j hj ho => by
      unfold f_Ve_isEnough_L9
      have h1 : f_Main_has (nI rest) (nI j) = if rest.testBit j = true then 1 else 0 := q_has (by omega) (by omega)
      rw [if_neg (nI_ge hj (by omega)), h1, rg (by omega) (by omega), (hA j (by omega)).1, q_and]
      have ho := of_decide_eq_false ho
      have hb : rest.testBit j = true := Decidable.byContradiction fun h => ho (fun h2 => absurd h2 h)
      have hz : ¬ A j &&& rest = 0 := fun h => ho (fun _ => h)
      have hl : A j &&& rest < 2 ^ 31 := Nat.lt_of_lt_of_le (and_lt (n := 10) (hA j (by omega)).2) (by decide)
      rw [if_pos hb, if_neg one_ne, if_neg (fun h => hz ((q_0 hl).mp h))]) (n := N) hN
  rw [show (0 : Int32) = nI 0 from rfl, key]
  have e : (∀ j, j < nt → decide (rest.testBit j = true → A j &&& rest = 0) = true) ↔ enB A nt rest = true := by
    unfold enB
    rw [decide_eq_true_eq]
    exact ⟨fun h j hj => of_decide_eq_true (h j hj), fun h j hj => decide_eq_true (h j hj)⟩
  by_cases hc : enB A nt rest = true
  · rw [if_pos (e.mpr hc), if_pos hc]
  · rw [if_neg (fun h => hc (e.mp h)), if_neg hc]; rfl
theorem inv_lt {A : Nat → Nat} {nt bel n : Nat} (hb : bel < 2 ^ n) : invN A nt bel < 2 ^ n := lt_of_bits (fun k hk => by
  cases h : (invN A nt bel).testBit k with
  | false => rfl
  | true => obtain ⟨t, -, -, -, h2⟩ := (inv_bit A nt bel k).mp h; rw [bits_of_lt hb hk] at h2; cases h2)
theorem inv_succ (A : Nat → Nat) (n bel : Nat) : invN A (n + 1) bel = if bel.testBit n = true then invN A n bel ||| (A n &&& bel) else invN A n bel := by
  unfold invN
  rw [List.range_succ, List.foldl_append, List.foldl_cons, List.foldl_nil]
theorem x_involved {A : Nat → Nat} {f : Nat → Int32} {nt bel N : Nat} (hA : Ag A f) (hn : nt ≤ 10) (hb : bel < 1024) (hN : nt < N) : f_Ve_involvedIn N (nI nt) f (nI bel) = some (nI (invN A nt bel)) := by
  unfold f_Ve_involvedIn
  refine lp_0 (fun j => (nI (invN A j bel), nI j)) nt rfl (fun j hj => ?_) ?_ hN
  · unfold f_Ve_involvedIn_L4
    have h1 : f_Main_has (nI bel) (nI j) = if bel.testBit j = true then 1 else 0 := q_has (by omega) (by omega)
    show (if nI nt ≤ nI j then _ else _) = _
    rw [if_neg (nI_ge hj (by omega))]
    show (if f_Main_has (nI bel) (nI j) = 0 then Sum.inl (nI (invN A j bel), nI j + 1) else Sum.inl ((nI (invN A j bel) ||| ((rget 10 f (nI j)) &&& nI bel)), nI j + 1)) = _
    rw [h1, rg (by omega) (by omega), (hA j (by omega)).1, q_and, q_or, ← nI_succ, inv_succ]
    by_cases hbt : bel.testBit j = true
    · rw [if_pos hbt, if_pos hbt, if_neg one_ne]
    · rw [if_neg hbt, if_neg hbt, if_pos rfl]
  · unfold f_Ve_involvedIn_L4
    show (if nI nt ≤ nI nt then Sum.inr (some (nI (invN A nt bel))) else _) = _
    rw [if_pos (nI_le (Nat.le_refl _) (by omega))]
def FO : Option (Nat × Nat × Nat) → Int32
  | none => 11
  | some q => nI q.1
def LO (l0 : Int32) : Option (Nat × Nat × Nat) → Int32
  | none => l0
  | some q => nI q.2.1
def CO (c0 : Int32) : Option (Nat × Nat × Nat) → Int32
  | none => c0
  | some q => nI q.2.2
def Vd (n : Nat) (acc : Option (Nat × Nat × Nat)) : Prop := ∀ q, acc = some q → q.1 ≤ 10 ∧ q.2.1 < 1024 ∧ q.2.2 ≤ n
theorem psi_vd {A : Nat → Nat} {nt bel s n : Nat} {acc : Option (Nat × Nat × Nat)} (h : Vd n acc) (hs : s < 1024) : Vd (n + 1) (psi A nt bel acc s) := by
  intro q hq
  unfold psi at hq
  split at hq
  · cases acc with
    | none => cases hq; exact ⟨pcN_le s hs, hs, by show 1 ≤ n + 1; omega⟩
    | some r =>
      obtain ⟨h1, h2, h3⟩ := h r rfl
      have hq2 : (if pcN s ≤ r.1 then (if pcN s < r.1 then some (pcN s, s, 1) else some (r.1, (if pref s r.2.1 = true then s else r.2.1), r.2.2 + 1)) else some r) = some q := hq
      split at hq2
      · split at hq2
        · cases hq2; exact ⟨pcN_le s hs, hs, by show 1 ≤ n + 1; omega⟩
        · cases hq2
          refine ⟨h1, ?_, by show r.2.2 + 1 ≤ n + 1; omega⟩
          show (if pref s r.2.1 = true then s else r.2.1) < 1024
          split
          · exact hs
          · exact h2
      · cases hq2; exact ⟨h1, h2, by omega⟩
  · obtain ⟨h1, h2, h3⟩ := h q hq
    exact ⟨h1, h2, by omega⟩
/-- the next set inside of inv -/
def nxt (inv s : Nat) : Nat := (s + (4294967296 - inv)) &&& inv
theorem q_nxt {inv s : Nat} (hi : inv < 1024) (hs : s < 1024) : (nI s - nI inv) &&& nI inv = nI (nxt inv s) := by
  have e : nI s - nI inv = nI (s + (4294967296 - inv)) := by
    apply Int32.toBitVec_inj.mp
    rw [Int32.toBitVec_sub]
    show BitVec.ofNat 32 s - BitVec.ofNat 32 inv = BitVec.ofNat 32 (s + (4294967296 - inv))
    apply BitVec.eq_of_toNat_eq
    rw [BitVec.toNat_sub, BitVec.toNat_ofNat, BitVec.toNat_ofNat, BitVec.toNat_ofNat]
    omega
  rw [e, q_and]
  rfl
def subL (inv : Nat) : Nat → Nat → List Nat
  | 0, _ => []
  | n + 1, s => s :: subL inv n (nxt inv s)
/-- goes through n numbers from s on: those that lie inside of inv are c, each the next of the one before, from e on -/
def subC (inv : Nat) : Nat → Nat → Nat → Nat → Bool
  | 0, _, _, c => c == 0
  | n + 1, s, e, c => if dif s inv == 0 then (if s == e then (if c == 0 then false else subC inv n (s + 1) (nxt inv e) (c - 1)) else false) else subC inv n (s + 1) e c
theorem subC_L {inv : Nat} : ∀ (n s e c : Nat), subC inv n s e c = true → (List.range' s n).filter (fun s => dif s inv == 0) = subL inv c e := by
  intro n
  induction n with
  | zero =>
    intro s e c h
    have : c = 0 := by simpa [subC] using h
    subst this
    rfl
  | succ n ih =>
    intro s e c h
    unfold subC at h
    rw [List.range'_succ]
    by_cases h1 : (dif s inv == 0) = true
    · rw [if_pos h1] at h
      rw [List.filter_cons_of_pos (p := fun s => dif s inv == 0) h1]
      by_cases h2 : (s == e) = true
      · rw [if_pos h2] at h
        cases c with
        | zero => simp at h
        | succ c =>
          rw [if_neg (by simp)] at h
          rw [ih _ _ _ h, beq_iff_eq.mp h2]
          rfl
      · rw [if_neg h2] at h
        cases h
    · rw [if_neg h1] at h
      rw [List.filter_cons_of_neg (p := fun s => dif s inv == 0) h1]
      exact ih _ _ _ h
theorem sbc_0 : ∀ q, q < 16 → subC (0 + q) (1 + q) 0 0 (2 ^ pcN (0 + q)) = true := by decide +kernel
theorem sbc_1 : ∀ q, q < 16 → subC (16 + q) (17 + q) 0 0 (2 ^ pcN (16 + q)) = true := by decide +kernel
theorem sbc_2 : ∀ q, q < 16 → subC (32 + q) (33 + q) 0 0 (2 ^ pcN (32 + q)) = true := by decide +kernel
theorem sbc_3 : ∀ q, q < 16 → subC (48 + q) (49 + q) 0 0 (2 ^ pcN (48 + q)) = true := by decide +kernel
theorem sbc_4 : ∀ q, q < 16 → subC (64 + q) (65 + q) 0 0 (2 ^ pcN (64 + q)) = true := by decide +kernel
theorem sbc_5 : ∀ q, q < 16 → subC (80 + q) (81 + q) 0 0 (2 ^ pcN (80 + q)) = true := by decide +kernel
theorem sbc_6 : ∀ q, q < 16 → subC (96 + q) (97 + q) 0 0 (2 ^ pcN (96 + q)) = true := by decide +kernel
theorem sbc_7 : ∀ q, q < 16 → subC (112 + q) (113 + q) 0 0 (2 ^ pcN (112 + q)) = true := by decide +kernel
theorem sbc_8 : ∀ q, q < 16 → subC (128 + q) (129 + q) 0 0 (2 ^ pcN (128 + q)) = true := by decide +kernel
theorem sbc_9 : ∀ q, q < 16 → subC (144 + q) (145 + q) 0 0 (2 ^ pcN (144 + q)) = true := by decide +kernel
theorem sbc_10 : ∀ q, q < 16 → subC (160 + q) (161 + q) 0 0 (2 ^ pcN (160 + q)) = true := by decide +kernel
theorem sbc_11 : ∀ q, q < 16 → subC (176 + q) (177 + q) 0 0 (2 ^ pcN (176 + q)) = true := by decide +kernel
theorem sbc_12 : ∀ q, q < 16 → subC (192 + q) (193 + q) 0 0 (2 ^ pcN (192 + q)) = true := by decide +kernel
theorem sbc_13 : ∀ q, q < 16 → subC (208 + q) (209 + q) 0 0 (2 ^ pcN (208 + q)) = true := by decide +kernel
theorem sbc_14 : ∀ q, q < 16 → subC (224 + q) (225 + q) 0 0 (2 ^ pcN (224 + q)) = true := by decide +kernel
theorem sbc_15 : ∀ q, q < 16 → subC (240 + q) (241 + q) 0 0 (2 ^ pcN (240 + q)) = true := by decide +kernel
theorem sbc_16 : ∀ q, q < 16 → subC (256 + q) (257 + q) 0 0 (2 ^ pcN (256 + q)) = true := by decide +kernel
theorem sbc_17 : ∀ q, q < 16 → subC (272 + q) (273 + q) 0 0 (2 ^ pcN (272 + q)) = true := by decide +kernel
theorem sbc_18 : ∀ q, q < 16 → subC (288 + q) (289 + q) 0 0 (2 ^ pcN (288 + q)) = true := by decide +kernel
theorem sbc_19 : ∀ q, q < 16 → subC (304 + q) (305 + q) 0 0 (2 ^ pcN (304 + q)) = true := by decide +kernel
theorem sbc_20 : ∀ q, q < 16 → subC (320 + q) (321 + q) 0 0 (2 ^ pcN (320 + q)) = true := by decide +kernel
theorem sbc_21 : ∀ q, q < 16 → subC (336 + q) (337 + q) 0 0 (2 ^ pcN (336 + q)) = true := by decide +kernel
theorem sbc_22 : ∀ q, q < 16 → subC (352 + q) (353 + q) 0 0 (2 ^ pcN (352 + q)) = true := by decide +kernel
theorem sbc_23 : ∀ q, q < 16 → subC (368 + q) (369 + q) 0 0 (2 ^ pcN (368 + q)) = true := by decide +kernel
theorem sbc_24 : ∀ q, q < 16 → subC (384 + q) (385 + q) 0 0 (2 ^ pcN (384 + q)) = true := by decide +kernel
theorem sbc_25 : ∀ q, q < 16 → subC (400 + q) (401 + q) 0 0 (2 ^ pcN (400 + q)) = true := by decide +kernel
theorem sbc_26 : ∀ q, q < 16 → subC (416 + q) (417 + q) 0 0 (2 ^ pcN (416 + q)) = true := by decide +kernel
theorem sbc_27 : ∀ q, q < 16 → subC (432 + q) (433 + q) 0 0 (2 ^ pcN (432 + q)) = true := by decide +kernel
theorem sbc_28 : ∀ q, q < 16 → subC (448 + q) (449 + q) 0 0 (2 ^ pcN (448 + q)) = true := by decide +kernel
theorem sbc_29 : ∀ q, q < 16 → subC (464 + q) (465 + q) 0 0 (2 ^ pcN (464 + q)) = true := by decide +kernel
theorem sbc_30 : ∀ q, q < 16 → subC (480 + q) (481 + q) 0 0 (2 ^ pcN (480 + q)) = true := by decide +kernel
theorem sbc_31 : ∀ q, q < 16 → subC (496 + q) (497 + q) 0 0 (2 ^ pcN (496 + q)) = true := by decide +kernel
theorem sbc_32 : ∀ q, q < 16 → subC (512 + q) (513 + q) 0 0 (2 ^ pcN (512 + q)) = true := by decide +kernel
theorem sbc_33 : ∀ q, q < 16 → subC (528 + q) (529 + q) 0 0 (2 ^ pcN (528 + q)) = true := by decide +kernel
theorem sbc_34 : ∀ q, q < 16 → subC (544 + q) (545 + q) 0 0 (2 ^ pcN (544 + q)) = true := by decide +kernel
theorem sbc_35 : ∀ q, q < 16 → subC (560 + q) (561 + q) 0 0 (2 ^ pcN (560 + q)) = true := by decide +kernel
theorem sbc_36 : ∀ q, q < 16 → subC (576 + q) (577 + q) 0 0 (2 ^ pcN (576 + q)) = true := by decide +kernel
theorem sbc_37 : ∀ q, q < 16 → subC (592 + q) (593 + q) 0 0 (2 ^ pcN (592 + q)) = true := by decide +kernel
theorem sbc_38 : ∀ q, q < 16 → subC (608 + q) (609 + q) 0 0 (2 ^ pcN (608 + q)) = true := by decide +kernel
theorem sbc_39 : ∀ q, q < 16 → subC (624 + q) (625 + q) 0 0 (2 ^ pcN (624 + q)) = true := by decide +kernel
theorem sbc_40 : ∀ q, q < 16 → subC (640 + q) (641 + q) 0 0 (2 ^ pcN (640 + q)) = true := by decide +kernel
theorem sbc_41 : ∀ q, q < 16 → subC (656 + q) (657 + q) 0 0 (2 ^ pcN (656 + q)) = true := by decide +kernel
theorem sbc_42 : ∀ q, q < 16 → subC (672 + q) (673 + q) 0 0 (2 ^ pcN (672 + q)) = true := by decide +kernel
theorem sbc_43 : ∀ q, q < 16 → subC (688 + q) (689 + q) 0 0 (2 ^ pcN (688 + q)) = true := by decide +kernel
theorem sbc_44 : ∀ q, q < 16 → subC (704 + q) (705 + q) 0 0 (2 ^ pcN (704 + q)) = true := by decide +kernel
theorem sbc_45 : ∀ q, q < 16 → subC (720 + q) (721 + q) 0 0 (2 ^ pcN (720 + q)) = true := by decide +kernel
theorem sbc_46 : ∀ q, q < 16 → subC (736 + q) (737 + q) 0 0 (2 ^ pcN (736 + q)) = true := by decide +kernel
theorem sbc_47 : ∀ q, q < 16 → subC (752 + q) (753 + q) 0 0 (2 ^ pcN (752 + q)) = true := by decide +kernel
theorem sbc_48 : ∀ q, q < 16 → subC (768 + q) (769 + q) 0 0 (2 ^ pcN (768 + q)) = true := by decide +kernel
theorem sbc_49 : ∀ q, q < 16 → subC (784 + q) (785 + q) 0 0 (2 ^ pcN (784 + q)) = true := by decide +kernel
theorem sbc_50 : ∀ q, q < 16 → subC (800 + q) (801 + q) 0 0 (2 ^ pcN (800 + q)) = true := by decide +kernel
theorem sbc_51 : ∀ q, q < 16 → subC (816 + q) (817 + q) 0 0 (2 ^ pcN (816 + q)) = true := by decide +kernel
theorem sbc_52 : ∀ q, q < 16 → subC (832 + q) (833 + q) 0 0 (2 ^ pcN (832 + q)) = true := by decide +kernel
theorem sbc_53 : ∀ q, q < 16 → subC (848 + q) (849 + q) 0 0 (2 ^ pcN (848 + q)) = true := by decide +kernel
theorem sbc_54 : ∀ q, q < 16 → subC (864 + q) (865 + q) 0 0 (2 ^ pcN (864 + q)) = true := by decide +kernel
theorem sbc_55 : ∀ q, q < 16 → subC (880 + q) (881 + q) 0 0 (2 ^ pcN (880 + q)) = true := by decide +kernel
theorem sbc_56 : ∀ q, q < 16 → subC (896 + q) (897 + q) 0 0 (2 ^ pcN (896 + q)) = true := by decide +kernel
theorem sbc_57 : ∀ q, q < 16 → subC (912 + q) (913 + q) 0 0 (2 ^ pcN (912 + q)) = true := by decide +kernel
theorem sbc_58 : ∀ q, q < 16 → subC (928 + q) (929 + q) 0 0 (2 ^ pcN (928 + q)) = true := by decide +kernel
theorem sbc_59 : ∀ q, q < 16 → subC (944 + q) (945 + q) 0 0 (2 ^ pcN (944 + q)) = true := by decide +kernel
theorem sbc_60 : ∀ q, q < 16 → subC (960 + q) (961 + q) 0 0 (2 ^ pcN (960 + q)) = true := by decide +kernel
theorem sbc_61 : ∀ q, q < 16 → subC (976 + q) (977 + q) 0 0 (2 ^ pcN (976 + q)) = true := by decide +kernel
theorem sbc_62 : ∀ q, q < 16 → subC (992 + q) (993 + q) 0 0 (2 ^ pcN (992 + q)) = true := by decide +kernel
theorem sbc_63 : ∀ q, q < 16 → subC (1008 + q) (1009 + q) 0 0 (2 ^ pcN (1008 + q)) = true := by decide +kernel
theorem sbc {inv : Nat} (h : inv < 1024) : subC inv (inv + 1) 0 0 (2 ^ pcN inv) = true := by
  have key : ∀ k, k < 64 → ∀ q, q < 16 → subC (16 * k + q) (16 * k + 1 + q) 0 0 (2 ^ pcN (16 * k + q)) = true := by
    intro k hk
    match k, hk with
    | 0, _ => exact sbc_0
    | 1, _ => exact sbc_1
    | 2, _ => exact sbc_2
    | 3, _ => exact sbc_3
    | 4, _ => exact sbc_4
    | 5, _ => exact sbc_5
    | 6, _ => exact sbc_6
    | 7, _ => exact sbc_7
    | 8, _ => exact sbc_8
    | 9, _ => exact sbc_9
    | 10, _ => exact sbc_10
    | 11, _ => exact sbc_11
    | 12, _ => exact sbc_12
    | 13, _ => exact sbc_13
    | 14, _ => exact sbc_14
    | 15, _ => exact sbc_15
    | 16, _ => exact sbc_16
    | 17, _ => exact sbc_17
    | 18, _ => exact sbc_18
    | 19, _ => exact sbc_19
    | 20, _ => exact sbc_20
    | 21, _ => exact sbc_21
    | 22, _ => exact sbc_22
    | 23, _ => exact sbc_23
    | 24, _ => exact sbc_24
    | 25, _ => exact sbc_25
    | 26, _ => exact sbc_26
    | 27, _ => exact sbc_27
    | 28, _ => exact sbc_28
    | 29, _ => exact sbc_29
    | 30, _ => exact sbc_30
    | 31, _ => exact sbc_31
    | 32, _ => exact sbc_32
    | 33, _ => exact sbc_33
    | 34, _ => exact sbc_34
    | 35, _ => exact sbc_35
    | 36, _ => exact sbc_36
    | 37, _ => exact sbc_37
    | 38, _ => exact sbc_38
    | 39, _ => exact sbc_39
    | 40, _ => exact sbc_40
    | 41, _ => exact sbc_41
    | 42, _ => exact sbc_42
    | 43, _ => exact sbc_43
    | 44, _ => exact sbc_44
    | 45, _ => exact sbc_45
    | 46, _ => exact sbc_46
    | 47, _ => exact sbc_47
    | 48, _ => exact sbc_48
    | 49, _ => exact sbc_49
    | 50, _ => exact sbc_50
    | 51, _ => exact sbc_51
    | 52, _ => exact sbc_52
    | 53, _ => exact sbc_53
    | 54, _ => exact sbc_54
    | 55, _ => exact sbc_55
    | 56, _ => exact sbc_56
    | 57, _ => exact sbc_57
    | 58, _ => exact sbc_58
    | 59, _ => exact sbc_59
    | 60, _ => exact sbc_60
    | 61, _ => exact sbc_61
    | 62, _ => exact sbc_62
    | 63, _ => exact sbc_63
    | k + 64, hk => exact absurd hk (by omega)
  have h2 := key (inv / 16) (by omega) (inv % 16) (by omega)
  rw [show 16 * (inv / 16) + inv % 16 = inv by omega, show 16 * (inv / 16) + 1 + inv % 16 = inv + 1 by omega] at h2
  exact h2
theorem listX_sub {inv : Nat} (h : inv < 1024) : listX inv = subL inv (2 ^ pcN inv) 0 := by
  rw [← subC_L _ _ _ _ (sbc h)]
  unfold listX
  rw [← List.range_eq_range']
  refine filter_range (by omega) ?_
  intro s h1 _
  have : ¬ dif s inv = 0 := fun h => by have := le_of_dif h; omega
  simp [this]
theorem judge_step {A : Nat → Nat} {f : Nat → Int32} {nt bel inv K N0 n s : Nat} {p1 l0 c0 : Int32} {acc : Option (Nat × Nat × Nat)} (hA : Ag A f) (hn : nt ≤ 10) (hb : bel < 1024) (hi : inv < 1024) (hK : K ≤ 1024) (hN0 : nt < N0) (hnK : n < K) (hs : s < 1024) (hv : Vd n acc) :
    f_Ve_judge_L39 N0 (nI nt) f p1 (nI inv) (nI bel) (nI K) (FO acc, nI s, nI n, LO l0 acc, CO c0 acc) = .inl (FO (psi A nt bel acc s), nI (nxt inv s), nI (n + 1), LO l0 (psi A nt bel acc s), CO c0 (psi A nt bel acc s)) := by
  have hp := pcN_le s hs
  have hd : dif bel s < 1024 := dif_lt (n := 10) hb
  have he : f_Ve_isEnough N0 (nI nt) f (nI s) (nI bel) = some (if enB A nt (dif bel s) = true then 1 else 0) := by
    unfold f_Ve_isEnough
    rw [q_dif]
    exact x_enough hA hn hd hN0
  have gK : ¬ nI K ≤ nI n := nI_ge hnK (by omega)
  have hns : nI n + (1 : Int32) = nI (n + 1) := (nI_succ n).symm
  unfold f_Ve_judge_L39
  rw [if_neg gK, q_pc s hs, q_nxt hi hs, he, hns]
  clear hA hn hb hi hK hN0 hnK he hd gK hns
  unfold psi
  by_cases hen : enB A nt (dif bel s) = true
  · rw [if_pos hen, if_pos hen]
    cases acc with
    | none =>
      have g1 : ¬ (11 : Int32) < nI (pcN s) := nI_nlt (a := 11) (by omega) (by decide)
      have g2 : ¬ (11 : Int32) ≤ nI (pcN s) := nI_ge (b := 11) (by omega) (by decide)
      have g3 : nI (pcN s) < (11 : Int32) := nI_lt (b := 11) (by omega) (by decide)
      show (if (11 : Int32) < nI (pcN s) then (Sum.inl ((11 : Int32), nI (nxt inv s), nI (n + 1), l0, c0) : (Int32 × Int32 × Int32 × Int32 × Int32) ⊕ (Option (Int32 × Int32 × Int32))) else _) = _
      rw [if_neg g1]
      show (if (1 : Int32) = 0 then (Sum.inl ((11 : Int32), nI (nxt inv s), nI (n + 1), l0, c0) : (Int32 × Int32 × Int32 × Int32 × Int32) ⊕ (Option (Int32 × Int32 × Int32))) else (if (11 : Int32) ≤ nI (pcN s) then _ else (if nI (pcN s) < (11 : Int32) then Sum.inl (nI (pcN s), nI (nxt inv s), nI (n + 1), nI s, (1 : Int32)) else _))) = _
      rw [if_neg one_ne, if_neg g2, if_pos g3]
      rfl
    | some q =>
      obtain ⟨v1, v2, v3⟩ := hv q rfl
      by_cases h2 : pcN s ≤ q.1
      · have g1 : ¬ nI q.1 < nI (pcN s) := nI_nlt h2 (by omega)
        show (if nI q.1 < nI (pcN s) then (_ : (Int32 × Int32 × Int32 × Int32 × Int32) ⊕ (Option (Int32 × Int32 × Int32))) else _) = _
        rw [if_neg g1]
        show (if nI q.1 ≤ nI (pcN s) then (_ : (Int32 × Int32 × Int32 × Int32 × Int32) ⊕ (Option (Int32 × Int32 × Int32))) else _) = Sum.inl (FO (if pcN s ≤ q.1 then _ else _), nI (nxt inv s), nI (n + 1), LO l0 (if pcN s ≤ q.1 then _ else _), CO c0 (if pcN s ≤ q.1 then _ else _))
        rw [if_pos h2]
        by_cases h3 : pcN s < q.1
        · have g2 : ¬ nI q.1 ≤ nI (pcN s) := nI_ge h3 (by omega)
          have g3 : nI (pcN s) < nI q.1 := nI_lt h3 (by omega)
          rw [if_neg g2, if_pos h3]
          show (if nI (pcN s) < nI q.1 then (_ : (Int32 × Int32 × Int32 × Int32 × Int32) ⊕ (Option (Int32 × Int32 × Int32))) else _) = _
          rw [if_pos g3]
          rfl
        · have h4 : pcN s = q.1 := by omega
          have g2 : nI q.1 ≤ nI (pcN s) := nI_le (by omega) (by omega)
          have g3 : ¬ nI (pcN s) < nI q.1 := nI_nlt (by omega) (by omega)
          rw [if_pos g2, if_neg h3]
          show (if nI (pcN s) < nI q.1 then (_ : (Int32 × Int32 × Int32 × Int32 × Int32) ⊕ (Option (Int32 × Int32 × Int32))) else _) = _
          rw [if_neg g3]
          show (if f_Ve_isPreferred (nI s) (nI q.2.1) = 0 then Sum.inl (nI (pcN s), nI (nxt inv s), nI (n + 1), nI q.2.1, nI q.2.2 + 1) else Sum.inl (nI (pcN s), nI (nxt inv s), nI (n + 1), nI s, nI q.2.2 + 1)) = Sum.inl (nI q.1, nI (nxt inv s), nI (n + 1), nI (if pref s q.2.1 = true then s else q.2.1), nI (q.2.2 + 1))
          rw [q_pref hs v2, nI_succ q.2.2, h4]
          by_cases h5 : pref s q.2.1 = true
          · rw [if_pos h5, if_pos h5, if_neg one_ne]
          · rw [if_neg h5, if_neg h5, if_pos rfl]
      · have g1 : nI q.1 < nI (pcN s) := nI_lt (by omega) (by omega)
        show (if nI q.1 < nI (pcN s) then (_ : (Int32 × Int32 × Int32 × Int32 × Int32) ⊕ (Option (Int32 × Int32 × Int32))) else _) = Sum.inl (FO (if pcN s ≤ q.1 then _ else _), nI (nxt inv s), nI (n + 1), LO l0 (if pcN s ≤ q.1 then _ else _), CO c0 (if pcN s ≤ q.1 then _ else _))
        rw [if_pos g1, if_neg h2]
  · rw [if_neg hen, if_neg hen]
    show (if FO acc < nI (pcN s) then Sum.inl (FO acc, nI (nxt inv s), nI (n + 1), LO l0 acc, CO c0 acc) else Sum.inl (FO acc, nI (nxt inv s), nI (n + 1), LO l0 acc, CO c0 acc)) = _
    split <;> rfl
/-- judging goes through the sets inside of the involved ones -/
theorem judge_go {A : Nat → Nat} {f : Nat → Int32} {nt bel inv K N0 : Nat} {p1 l0 c0 : Int32} (hA : Ag A f) (hn : nt ≤ 10) (hb : bel < 1024) (hi : inv < 1024) (hK : K ≤ 1024) (hN0 : nt < N0) :
    ∀ (k n s m : Nat) (acc : Option (Nat × Nat × Nat)), n + k = K → k < m → s < 1024 → Vd n acc →
      lpS (f_Ve_judge_L39 N0 (nI nt) f p1 (nI inv) (nI bel) (nI K)) none m (FO acc, nI s, nI n, LO l0 acc, CO c0 acc) = some (p1, LO l0 ((subL inv k s).foldl (psi A nt bel) acc), CO c0 ((subL inv k s).foldl (psi A nt bel) acc)) := by
  intro k
  induction k with
  | zero =>
    intro n s m acc h1 hm hs hv
    cases m with
    | zero => omega
    | succ m =>
      have e : f_Ve_judge_L39 N0 (nI nt) f p1 (nI inv) (nI bel) (nI K) (FO acc, nI s, nI n, LO l0 acc, CO c0 acc) = .inr (some (p1, LO l0 acc, CO c0 acc)) := by
        unfold f_Ve_judge_L39
        exact if_pos (nI_le (by omega) (by omega))
      exact lp_out e
  | succ k ih =>
    intro n s m acc h1 hm hs hv
    cases m with
    | zero => omega
    | succ m =>
      rw [lp_in (judge_step hA hn hb hi hK hN0 (by omega) hs hv)]
      exact ih (n + 1) (nxt inv s) m _ (by omega) (by omega) (Nat.lt_of_le_of_lt Nat.and_le_right hi) (psi_vd hv hs)
