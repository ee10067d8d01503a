def crB (v : Int32) : Bool := decide (v.toUInt32.toUInt16.toUInt32.toInt32 = v)
theorem crB_n {v : Int32} (h : crB v = true) : narrow .char (.int v) = .int v := by
  have h1 := of_decide_eq_true h
  show Value.int _ = _
  rw [h1]
def ckB (i n : Int32) : Bool := decide (¬ i < 0) && decide (i < n)
abbrev Da (v : Option Value) (W : va_W → va_W) (t : va_W) : Rs → va_W → Prop := fun r w => r = .inl v ∧ ∃ t2, w = W (t2 ++ t)
theorem pmT1 {A t : va_W} {e : Nat × va_E} : (A ++ (e :: t)).Perm (e :: (A ++ t)) := List.perm_middle
theorem pmT2 {A B t : va_W} {e : Nat × va_E} : (A ++ (B ++ (e :: t))).Perm (e :: (A ++ (B ++ t))) := (List.perm_middle.append_left A).trans List.perm_middle
section TXT
variable {g : GG} {ws : va_W}
theorem ct_ckP {a b : Int32} {v : Value} (hv : v = .null ∨ ∃ t, v = .ref t) (hb : ckB a b = true) : Ct g mJ3_checkIndex_8e157 1 0 0 [.int a, .int b, v] ws (Dv (some (.int a)) ws) := by
  simp only [ckB, Bool.and_eq_true, decide_eq_true_eq] at hb
  have key : R g mJ3_checkIndex_8e157 1 0 0 0 [(0, .int a), (1, .int b), (2, v)] [] ws (Dv (some (.int a)) ws) := by
    refine r_iload_n 0 dJ3_checkIndex_8e157_0 rfl ?_
    refine r_if_lt (tgt := 9) dJ3_checkIndex_8e157_1 (by decide) (fun h => absurd h hb.1) (fun _ => ?_)
    refine r_iload_n 0 dJ3_checkIndex_8e157_4 rfl ?_
    refine r_iload_n 1 dJ3_checkIndex_8e157_5 rfl ?_
    refine r_icmp_lt (tgt := 16) dJ3_checkIndex_8e157_6 (by decide) (fun _ => ?_) (fun h => absurd hb.2 h)
    refine r_iload_n 0 dJ3_checkIndex_8e157_16 rfl ?_
    exact r_iret dJ3_checkIndex_8e157_17 rfl ⟨rfl, rfl⟩
  rcases hv with rfl | ⟨t, rfl⟩
  · exact Ct.ofR (by decide +kernel) rfl (Nat.le_of_ble_eq_true rfl) key
  · exact Ct.ofR (by decide +kernel) rfl (Nat.le_of_ble_eq_true rfl) key
theorem ct_ckIdx {a b : Int32} (hb : ckB a b = true) : Ct g mJ0_checkIndex_df160 2 0 0 [.int a, .int b] ws (Dv none ws) := by
  refine Ct.ofR (by decide +kernel) rfl (Nat.le_of_ble_eq_true rfl) ?_
  refine r_iload_n 0 dJ0_checkIndex_df160_0 rfl ?_
  refine r_iload_n 1 dJ0_checkIndex_df160_1 rfl ?_
  refine r_getQ dJ0_checkIndex_df160_2 kk_304 (fun v hv => ?_)
  refine r_callS (x := 0) (y := 0) (As := [.int a, .int b, v]) (rest := []) dJ0_checkIndex_df160_5 ks_J0_1059 (ct_ckP hv hb) Dv.no rfl rfl (Nat.le_of_ble_eq_true rfl) (by decide) (by decide) (fun v2 w2 h => ?_)
  obtain ⟨h1, rfl⟩ := h
  cases h1
  refine r_pop (v := .int a) dJ0_checkIndex_df160_8 rfl ?_
  exact r_vret dJ0_checkIndex_df160_9 rfl ⟨rfl, rfl⟩
end TXT
