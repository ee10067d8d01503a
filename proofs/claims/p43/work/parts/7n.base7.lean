/-- the first k of a list without the one at c -/
def erC (ca : List Nat) (c k : Nat) : List Nat := (ca.take k).eraseIdx c
theorem erC_0 (ca : List Nat) (c : Nat) : erC ca c 0 = [] := by unfold erC; rw [List.take_zero]; rfl
theorem take_s {ca : List Nat} {k : Nat} (hk : k < ca.length) : ca.take (k + 1) = ca.take k ++ [ca.getD k 0] := by
  rw [List.take_succ, List.getElem?_eq_getElem hk, List.getD_eq_getElem?_getD, List.getElem?_eq_getElem hk]
  rfl
theorem erC_skip {ca : List Nat} {c : Nat} (hc : c < ca.length) : erC ca c (c + 1) = erC ca c c := by
  unfold erC
  rw [take_s hc, List.eraseIdx_append_of_length_le (by rw [List.length_take]; omega), List.length_take, Nat.min_eq_left (by omega), Nat.sub_self]
  have e : (ca.take c).eraseIdx c = ca.take c := List.eraseIdx_of_length_le (by rw [List.length_take]; omega)
  rw [e]
  exact List.append_nil _
theorem erC_more {ca : List Nat} {c k : Nat} (hk : k < ca.length) (hn : ¬ k = c) : erC ca c (k + 1) = erC ca c k ++ [ca.getD k 0] := by
  unfold erC
  rw [take_s hk]
  have hl : (ca.take k).length = k := by rw [List.length_take]; omega
  by_cases h : c < k
  · rw [List.eraseIdx_append_of_lt_length (by omega)]
  · rw [List.eraseIdx_append_of_length_le (by omega), List.eraseIdx_of_length_le (l := ca.take k) (by omega), List.eraseIdx_of_length_le (by rw [hl]; show 1 ≤ c - k; omega)]
theorem erC_all (ca : List Nat) (c : Nat) : erC ca c ca.length = ca.eraseIdx c := by unfold erC; rw [List.take_length]
theorem erC_mem {ca : List Nat} {c k a : Nat} (h : a ∈ erC ca c k) : a ∈ ca := List.mem_of_mem_take (List.mem_of_mem_eraseIdx h)
theorem erC_len (ca : List Nat) (c k : Nat) : (erC ca c k).length ≤ ca.length := by
  unfold erC
  have h1 := List.length_eraseIdx_le (ca.take k) c
  have h2 := List.length_take_le k ca
  have h3 : (ca.take k).length ≤ ca.length := by rw [List.length_take]; omega
  omega
theorem rows_of {g : GG} {t t2 : va_W} {ca cb : List Nat} (hs : ∀ a ∈ cb, a ∈ ca) (hR : ∀ k, k < ca.length → ∃ z : vp_A, (ca.getD k 0, .inl (gC g 0, z)) ∈ t) (hm : ∀ p ∈ t, p ∈ t2) : ∀ k, k < cb.length → ∃ z : vp_A, (cb.getD k 0, .inl (gC g 0, z)) ∈ t2 := by
  intro k hk
  have h1 : cb.getD k 0 ∈ cb := by rw [List.getD_eq_getElem?_getD, List.getElem?_eq_getElem hk]; exact List.getElem_mem hk
  obtain ⟨i, hi⟩ := List.getElem?_of_mem (hs _ h1)
  obtain ⟨hi2, -⟩ := List.getElem?_eq_some_iff.mp hi
  obtain ⟨z, hz⟩ := hR i hi2
  refine ⟨z, hm _ ?_⟩
  rw [List.getD_eq_getElem?_getD, hi] at hz
  exact hz
theorem nI_lit (n : Nat) : nI n = nI n := rfl
/-- a claim's line -/
def nN (v : Int32) : Nat := v.toNatClampNeg
def clR (f : Nat → Int32) : List Int32 := if f 0 = 0 then (([] ++ kT 18) ++ dgL (nN (f 3))) ++ (if f 3 < f 4 then ([] ++ kT 19) ++ dgL (nN (f 4)) else kT 20) else ([] ++ (if f 0 = 1 then kT 21 else kT 22)) ++ dgL (nN (f 3))
def clT (f : Nat → Int32) : List Int32 := (((((([] : List Int32) ++ kT 16) ++ dgL (nN (f 1))) ++ kT 17) ++ dgL (nN (f 2))) ++ clR f) ++ kT 14
theorem nN_nI {n : Nat} (h : n < 2147483648) : nN (nI n) = n := nI_clamp h
theorem clR_len {ne nt : Nat} {f : Nat → Int32} (h : CV1 ne nt f) (hne : ne ≤ 10) : (clR f).length ≤ 12 := by
  obtain ⟨-, -, -, h3, h4⟩ := h
  unfold clR
  by_cases h0 : f 0 = 0
  · rw [if_pos h0]
    obtain ⟨x, y, xy, y1, e1, e2⟩ := h4 h0
    rw [e1, e2, nN_nI (by omega), nN_nI (by omega)]
    have l1 := dgL_t2 (v := x) (by omega)
    have l2 := dgL_t2 (v := y) y1
    have k1 := kl_18
    have k2 := kl_19
    have k3 := kl_20
    split
    · simp only [List.length_append, List.length_nil]
      omega
    · simp only [List.length_append, List.length_nil]
      omega
  · rw [if_neg h0]
    obtain ⟨x, x1, e1⟩ := h3 h0
    rw [e1, nN_nI (by omega)]
    have l1 := dgL_t1 (v := x) (by omega)
    have k1 := kl_21
    have k2 := kl_22
    split
    · simp only [List.length_append, List.length_nil]
      omega
    · simp only [List.length_append, List.length_nil]
      omega
theorem clT_len {ne nt : Nat} {f : Nat → Int32} (h : CV1 ne nt f) (hne : ne ≤ 10) (hnt : nt ≤ 10) : (clT f).length ≤ 25 := by
  have h5 := clR_len h hne
  obtain ⟨-, ⟨t, h1, e1⟩, ⟨e, h2, e2⟩, -, -⟩ := h
  unfold clT
  rw [e1, e2, nN_nI (by omega), nN_nI (by omega)]
  have l1 := dgL_t1 (v := t) (by omega)
  have l2 := dgL_t1 (v := e) (by omega)
  have k1 := kl_16
  have k2 := kl_17
  have k3 := kl_14
  simp only [List.length_append, List.length_nil]
  omega
