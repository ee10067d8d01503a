def dgF : Nat → Nat → List Int32
  | 0, v => [nI (48 + v % 10)]
  | k + 1, v => if v < 10 then [nI (48 + v)] else dgF k (v / 10) ++ [nI (48 + v % 10)]
/-- the decimal digits of a number of at most 7 of them -/
def dgL (v : Nat) : List Int32 := dgF 6 v
theorem dgF_succ : ∀ k v, v < 10 ^ (k + 1) → dgF k v = dgF (k + 1) v
  | 0, v, h => by
    have h1 : v < 10 := by simpa using h
    rw [dgF, dgF, if_pos h1, Nat.mod_eq_of_lt h1]
  | k + 1, v, h => by
    have h2 : v / 10 < 10 ^ (k + 1) := by
      rw [Nat.div_lt_iff_lt_mul (by decide)]
      rw [Nat.pow_succ] at h
      exact h
    rw [dgF, dgF]
    split
    · rfl
    · rw [dgF_succ k (v / 10) h2]
theorem dgL_1 {v : Nat} (h : v < 10) : dgL v = [nI (48 + v)] := if_pos h
theorem dgL_s {v : Nat} (h : 10 ≤ v) (h2 : v < 10000000) : dgL v = dgL (v / 10) ++ [nI (48 + v % 10)] := by
  show (if v < 10 then _ else dgF 5 (v / 10) ++ _) = _
  rw [if_neg (by omega), dgF_succ 5 (v / 10) (by show v / 10 < 1000000; omega)]
  rfl
theorem dgL_100 {v : Nat} (h : 100 ≤ v) (h2 : v < 10000000) : dgL v = dgL (v / 100) ++ [tensB (v % 100), onesB (v % 100)] := by
  rw [dgL_s (by omega) h2, dgL_s (v := v / 10) (by omega) (by omega), List.append_assoc, Nat.div_div_eq_div_mul]
  congr 1
  show [nI (48 + v / 10 % 10), nI (48 + v % 10)] = [Int32.ofNat (48 + v % 100 / 10), Int32.ofNat (48 + v % 100 % 10)]
  rw [show v / 10 % 10 = v % 100 / 10 by omega, show v % 10 = v % 100 % 10 by omega]
  rfl
theorem dgL_10 {v : Nat} (h : 10 ≤ v) (h2 : v < 100) : dgL v = [tensB v, onesB v] := by
  rw [dgL_s h (by omega), dgL_1 (v := v / 10) (by omega)]
  rfl
theorem dgL_0 {v : Nat} (h : v < 10) : dgL v = [onesB v] := by
  rw [dgL_1 h]
  show [nI (48 + v)] = [Int32.ofNat (48 + v % 10)]
  rw [Nat.mod_eq_of_lt h]
  rfl
theorem dgL_pos (v : Nat) : 0 < (dgL v).length := by
  show 0 < (if v < 10 then [nI (48 + v)] else dgF 5 (v / 10) ++ [nI (48 + v % 10)]).length
  split <;> simp
theorem dgL_len : ∀ i v, v < 10 ^ i → 10 ^ i ≤ 10000000 → 0 < i → (v < 10 ∧ i = 1 ∨ 10 ^ (i - 1) ≤ v) → (dgL v).length = i
  | 0, _, _, _, h, _ => absurd h (by decide)
  | 1, v, h, _, _, _ => by rw [dgL_1 (by simpa using h)]; rfl
  | i + 2, v, h, h2, _, h3 => by
    have h4 : 10 ^ (i + 1) ≤ v := by
      rcases h3 with ⟨-, h3⟩ | h3
      · omega
      · exact h3
    have h5 : 10 ^ (i + 2) = 10 ^ (i + 1) * 10 := Nat.pow_succ ..
    have h6 : 10 ^ (i + 1) = 10 ^ i * 10 := Nat.pow_succ ..
    have h7 : 0 < 10 ^ i := by
      first | exact Nat.pow_pos (by decide) | exact Nat.pos_pow_of_pos _ (by decide)
    rw [dgL_s (by omega) (by omega), List.length_append, dgL_len (i + 1) (v / 10) (by omega) (by omega) (by omega) (Or.inr (by show 10 ^ i ≤ v / 10; omega))]
    rfl
theorem dg_nar : ∀ j, j < 100 → vp_nar .byte (onesB j) = onesB j ∧ vp_nar .byte (tensB j) = tensB j ∧ fits .byte (.int (onesB j)) = true ∧ fits .byte (.int (tensB j)) = true := by decide +kernel
/-- the digits of w, put in ahead of the place p -/
def PutD (f f' : Nat → Int32) (p w : Nat) : Prop := sb_Fit f' ∧ (∀ j, j < p - (dgL w).length → f' j = f j) ∧ (∀ i, i < (dgL w).length → f' (p - (dgL w).length + i) = (dgL w).getD i 0) ∧ ∀ j, p ≤ j → f' j = f j
theorem gd_app {L : List Int32} {a b : Int32} {i : Nat} : (L ++ [a, b]).getD i 0 = if i < L.length then L.getD i 0 else if i = L.length then a else if i = L.length + 1 then b else 0 := by
  rw [List.getD_eq_getElem?_getD]
  by_cases h : i < L.length
  · rw [if_pos h, List.getElem?_append_left h, List.getD_eq_getElem?_getD]
  · rw [if_neg h, List.getElem?_append_right (by omega)]
    by_cases h1 : i = L.length
    · rw [if_pos h1, show i - L.length = 0 by omega]
      rfl
    · rw [if_neg h1]
      by_cases h2 : i = L.length + 1
      · rw [if_pos h2, show i - L.length = 1 by omega]
        rfl
      · rw [if_neg h2, List.getElem?_eq_none (by simp; omega)]
        rfl
theorem PutD.step {f f' : Nat → Int32} {p w : Nat} (hw : 100 ≤ w) (hw2 : w < 10000000) (hp : (dgL w).length ≤ p) (h : PutD (upd (upd f (p - 1) (onesB (w % 100))) (p - 2) (tensB (w % 100))) f' (p - 2) (w / 100)) : PutD f f' p w ∧ p - 2 - (dgL (w / 100)).length = p - (dgL w).length := by
  have hl : (dgL w).length = (dgL (w / 100)).length + 2 := by rw [dgL_100 hw hw2]; simp
  have h0 := dgL_pos (w / 100)
  obtain ⟨h1, h2, h3, h4⟩ := h
  refine ⟨⟨h1, fun j hj => ?_, fun i hi => ?_, fun j hj => ?_⟩, by omega⟩
  · rw [h2 j (by omega), pk_un (by omega), pk_un (by omega)]
  · have e0 : (dgL w).getD i 0 = if i < (dgL (w / 100)).length then (dgL (w / 100)).getD i 0 else if i = (dgL (w / 100)).length then tensB (w % 100) else if i = (dgL (w / 100)).length + 1 then onesB (w % 100) else 0 := by rw [dgL_100 hw hw2, gd_app]
    rw [e0]
    by_cases h5 : i < (dgL (w / 100)).length
    · rw [if_pos h5, ← h3 i h5]
      congr 1
      omega
    · rw [if_neg h5]
      by_cases h6 : i = (dgL (w / 100)).length
      · rw [if_pos h6, show p - (dgL w).length + i = p - 2 by omega, h4 _ (by omega), pk_us]
      · rw [if_neg h6, if_pos (by omega), show p - (dgL w).length + i = p - 1 by omega, h4 _ (by omega), pk_un (by omega), pk_us]
  · rw [h4 j (by omega), pk_un (by omega), pk_un (by omega)]
theorem PutD.last2 {f : Nat → Int32} {p w : Nat} (hf : sb_Fit f) (hw : 10 ≤ w) (hw2 : w < 100) (hp : (dgL w).length ≤ p) : PutD f (upd (upd f (p - 1) (onesB w)) (p - 2) (tensB w)) p w ∧ (dgL w).length = 2 := by
  have hl : (dgL w).length = 2 := by rw [dgL_10 hw hw2]; rfl
  refine ⟨⟨sb_fitU (sb_fitU hf (dg_nar w hw2).2.2.1) (dg_nar w hw2).2.2.2, fun j hj => ?_, fun i hi => ?_, fun j hj => ?_⟩, hl⟩
  · rw [pk_un (by omega), pk_un (by omega)]
  · rw [hl] at hi ⊢
    rw [dgL_10 hw hw2]
    match i, hi with
    | 0, _ => rw [show p - 2 + 0 = p - 2 by omega, pk_us]; rfl
    | 1, _ => rw [show p - 2 + 1 = p - 1 by omega, pk_un (by omega), pk_us]; rfl
  · rw [pk_un (by omega), pk_un (by omega)]
theorem PutD.last1 {f : Nat → Int32} {p w : Nat} (hf : sb_Fit f) (hw : w < 10) (hp : (dgL w).length ≤ p) : PutD f (upd f (p - 1) (onesB w)) p w ∧ (dgL w).length = 1 := by
  have hl : (dgL w).length = 1 := by rw [dgL_0 hw]; rfl
  refine ⟨⟨sb_fitU hf (dg_nar w (by omega)).2.2.1, fun j hj => ?_, fun i hi => ?_, fun j hj => ?_⟩, hl⟩
  · rw [pk_un (by omega)]
  · rw [hl] at hi ⊢
    rw [dgL_0 hw]
    match i, hi with
    | 0, _ => rw [show p - 1 + 0 = p - 1 by omega, pk_us]; rfl
  · rw [pk_un (by omega)]
theorem ten_neg (x : Int32) : (10 : Int32) * (-x) = -((10 : Int32) * x) := by
  rw [Int32.mul_neg]
theorem ten_pow (i : Nat) : (10 : Int32) * (-nI (10 ^ i)) = -nI (10 ^ (i + 1)) := by
  rw [ten_neg, show (10 : Int32) = nI 10 from rfl, pk_mul, Nat.pow_succ, Nat.mul_comm]
theorem asc_and : ∀ c, c < 128 → nI c &&& 255 = nI c ∧ ((nI c).toUInt32 % 65536).toInt32 = nI c := by decide +kernel
theorem ckB_of {i n : Nat} (h : i < n) (hn : n < 2147483648) : ckB (nI i) (nI n) = true := by
  simp only [ckB, Bool.and_eq_true, decide_eq_true_eq]
  exact ⟨nI_pos (by omega), nI_lt h hn⟩
theorem negneg (x : Int32) : -(-x) = x := Int32.neg_neg
theorem sub0 (x : Int32) : x - 0 = x := Int32.sub_zero x
set_option maxRecDepth 20000 in
set_option maxHeartbeats 4000000 in
theorem cj_size {g : GG} {t : va_W} {v : Nat} (hv : v < 1000000) : Ct g mJ6_stringSize_0f7a4 1 0 0 [.int (nI v)] t (Dq (fun (z : Unit) => some (.int (nI (dgL v).length))) (fun z => t) (fun z => True)) := by
  refine Ct.ofR (by decide +kernel) rfl (Nat.le_of_ble_eq_true rfl) ?_
  show R g mJ6_stringSize_0f7a4 1 0 0 0 [(0, .int (nI v))] [] t _
  refine r_iconst (v := (1 : Int32)) dJ6_stringSize_0f7a4_0 (by decide) ?_
  refine r_istore_n [(1, .int (1 : Int32)), (0, .int (nI v))] dJ6_stringSize_0f7a4_1 (by decide) rfl ?_
  refine r_iload_n 1 dJ6_stringSize_0f7a4_2 rfl ?_
  refine r_if_lt (tgt := 11) dJ6_stringSize_0f7a4_3 (by decide) (fun hc => absurd hc (nI_pos (by omega))) (fun _ => ?_)
  refine r_iconst (v := (0 : Int32)) dJ6_stringSize_0f7a4_6 (by decide) ?_
  refine r_istore_n [(1, .int (0 : Int32)), (0, .int (nI v))] dJ6_stringSize_0f7a4_7 (by decide) rfl ?_
  refine r_iload_n 1 dJ6_stringSize_0f7a4_8 rfl ?_
  refine r_ineg dJ6_stringSize_0f7a4_9 ?_
  refine r_istore_n [(0, .int (-(nI v))), (1, .int (0 : Int32))] dJ6_stringSize_0f7a4_10 (by decide) rfl ?_
  refine r_bipush (v := (-10 : Int32)) dJ6_stringSize_0f7a4_11 (by decide) ?_
  refine r_top (w := .int (-nI (10 ^ 1))) (by decide) ?_
  refine r_istore_n [(2, .int (-nI (10 ^ 1))), (0, .int (-(nI v))), (1, .int (0 : Int32))] dJ6_stringSize_0f7a4_13 (by decide) rfl ?_
  refine r_iconst (v := (1 : Int32)) dJ6_stringSize_0f7a4_14 (by decide) ?_
  refine r_top (w := .int (nI 1)) (rfl) ?_
  refine r_istore_n [(3, .int (nI 1)), (2, .int (-nI (10 ^ 1))), (0, .int (-(nI v))), (1, .int (0 : Int32))] dJ6_stringSize_0f7a4_15 (by decide) rfl ?_
  have L : ∀ n i, n + i = 7 → 1 ≤ i → (i = 1 ∨ 10 ^ (i - 1) ≤ v) → R g mJ6_stringSize_0f7a4 1 0 0 16 [(3, .int (nI i)), (2, .int (-nI (10 ^ i))), (0, .int (-nI v)), (1, .int (0 : Int32))] [] t (Dq (fun (z : Unit) => some (.int (nI (dgL v).length))) (fun z => t) (fun z => True)) := by
    intro n
    induction n with
    | zero =>
      intro i hi _ h
      have e : i = 7 := by omega
      subst e
      rcases h with h | h
      · omega
      · have h9 : 1000000 ≤ v := h
        omega
    | succ n ih =>
      intro i hi h1 h2
      have hi6 : i ≤ 6 := by omega
      have hp : 10 ^ i ≤ 1000000 := Nat.pow_le_pow_right (by decide) hi6
      refine r_iload_n 0 dJ6_stringSize_0f7a4_16 rfl ?_
      refine r_bipush (v := (10 : Int32)) dJ6_stringSize_0f7a4_17 (by decide) ?_
      refine r_icmp_ge (tgt := 42) dJ6_stringSize_0f7a4_19 (by decide) (fun hc => absurd hc (by show ¬ nI 10 ≤ nI i; exact nI_ge (by omega) (by decide))) (fun _ => ?_)
      refine r_iload_n 2 dJ6_stringSize_0f7a4_22 rfl ?_
      refine r_iload_n 1 dJ6_stringSize_0f7a4_23 rfl ?_
      refine r_icmp_le (tgt := 31) dJ6_stringSize_0f7a4_24 (by decide) (fun hc => ?_) (fun hc => ?_)
      · have hc2 : 10 ^ i ≤ v := (sb_nle (by omega) (by omega)).mp hc
        refine r_bipush (v := (10 : Int32)) dJ6_stringSize_0f7a4_31 (by decide) ?_
        refine r_iload_n 1 dJ6_stringSize_0f7a4_33 rfl ?_
        refine r_imul dJ6_stringSize_0f7a4_34 ?_
        refine r_top (w := .int (-nI (10 ^ (i + 1)))) (by rw [ten_pow]) ?_
        refine r_istore_n [(2, .int (-nI (10 ^ (i + 1)))), (3, .int (nI i)), (0, .int (-nI v)), (1, .int (0 : Int32))] dJ6_stringSize_0f7a4_35 (by decide) rfl ?_
        refine r_iinc (v2 := (nI (i + 1))) 1 [(3, .int (nI (i + 1))), (2, .int (-nI (10 ^ (i + 1)))), (0, .int (-nI v)), (1, .int (0 : Int32))] dJ6_stringSize_0f7a4_36 rfl (nI_1 i) (by decide) rfl ?_
        refine r_goto (tgt := 16) dJ6_stringSize_0f7a4_39 (by decide) ?_
        refine r_ls [0, 1, 2, 3] (ls2 := [(3, .int (nI (i + 1))), (2, .int (-nI (10 ^ (i + 1)))), (0, .int (-nI v)), (1, .int (0 : Int32))]) rfl ?_
        exact ih (i + 1) (by omega) (by omega) (Or.inr hc2)
      · have hc2 : v < 10 ^ i := by have : ¬ _ := fun h => hc ((sb_nle (a := v) (b := 10 ^ i) (by omega) (by omega)).mpr h); omega
        have hlen : (dgL v).length = i := dgL_len i v hc2 (by omega) (by omega) (by rcases h2 with h2 | h2; subst h2; exact Or.inl ⟨by simpa using hc2, rfl⟩; exact Or.inr h2)
        refine r_iload_n 0 dJ6_stringSize_0f7a4_27 rfl ?_
        refine r_iload_n 3 dJ6_stringSize_0f7a4_28 rfl ?_
        refine r_iadd dJ6_stringSize_0f7a4_29 ?_
        refine r_top (w := .int (nI (dgL v).length)) (by rw [hlen]; exact congrArg Value.int (Int32.add_zero _)) ?_
        refine r_iret dJ6_stringSize_0f7a4_30 rfl ?_
        exact Dq.mk () rfl rfl trivial
  refine r_ls [0, 1, 2, 3] (ls2 := [(3, .int (nI 1)), (2, .int (-nI (10 ^ 1))), (0, .int (-(nI v))), (1, .int (0 : Int32))]) rfl ?_
  exact L 6 1 rfl (by decide) (Or.inl rfl)
set_option maxRecDepth 20000 in
set_option maxHeartbeats 4000000 in
theorem cj_getChars {g : GG} {t : va_W} {v p m u : Nat} {f : Nat → Int32} (hv : v < 1000000) (hp : (dgL v).length ≤ p) (hpm : p ≤ m) (hm : m ≤ 4000) (hf : sb_Fit f) : Ct g mJ6_getChars_ba4f3 1 0 0 [.int (nI v), .int (nI p), .ref u] ((u, yA g m f) :: t) (Dq (fun (z : Nat → Int32) => some (.int (nI (p - (dgL v).length)))) (fun z => (u, yA g m z) :: t) (fun z => PutD f z p v)) := by
  refine Ct.ofR (by decide +kernel) rfl (Nat.le_of_ble_eq_true rfl) ?_
  show R g mJ6_getChars_ba4f3 1 0 0 0 [(0, .int (nI v)), (1, .int (nI p)), (2, .ref u)] [] ((u, yA g m f) :: t) _
  refine r_iload_n 1 dJ6_getChars_ba4f3_0 rfl ?_
  refine r_istore [(5, .int (nI p)), (0, .int (nI v)), (1, .int (nI p)), (2, .ref u)] dJ6_getChars_ba4f3_1 (by decide) rfl ?_
  refine r_iload_n 1 dJ6_getChars_ba4f3_3 rfl ?_
  refine r_if_ge (tgt := 11) dJ6_getChars_ba4f3_4 (by decide) (fun _ => ?_) (fun hc => absurd (nI_pos' (by omega)) hc)
  refine r_iconst (v := (0 : Int32)) dJ6_getChars_ba4f3_11 (by decide) ?_
  refine r_istore [(6, .int (0 : Int32)), (5, .int (nI p)), (0, .int (nI v)), (1, .int (nI p)), (2, .ref u)] dJ6_getChars_ba4f3_12 (by decide) rfl ?_
  refine r_iload 0 dJ6_getChars_ba4f3_14 rfl ?_
  refine r_if_ne (tgt := 22) dJ6_getChars_ba4f3_16 (by decide) (fun hc => absurd (by decide) hc) (fun _ => ?_)
  refine r_iload_n 2 dJ6_getChars_ba4f3_19 rfl ?_
  refine r_ineg dJ6_getChars_ba4f3_20 ?_
  refine r_istore_n [(0, .int (-(nI v))), (6, .int (0 : Int32)), (5, .int (nI p)), (1, .int (nI p)), (2, .ref u)] dJ6_getChars_ba4f3_21 (by decide) rfl ?_
  refine r_ls [0, 1, 2, 4] (ls2 := [(0, .int (-(nI v))), (6, .int (0 : Int32)), (5, .int (nI p)), (2, .ref u)]) rfl ?_
  have L : ∀ n w p (f : Nat → Int32) (Q : Rs → va_W → Prop), w ≤ n → w < 1000000 → (dgL w).length ≤ p → p ≤ m → sb_Fit f → (∀ f9, PutD f f9 p w → Q (.inl (some (.int (nI (p - (dgL w).length))))) ((u, yA g m f9) :: t)) → R g mJ6_getChars_ba4f3 1 0 0 22 [(0, .int (-nI w)), (6, .int (0 : Int32)), (5, .int (nI p)), (2, .ref u)] [] ((u, yA g m f) :: t) Q := by
    intro n
    induction n with
    | zero =>
      intro w p f Q hn hw hp hpm hf hq
      have h0 := dgL_pos w
      refine r_iload_n 0 dJ6_getChars_ba4f3_22 rfl ?_
      refine r_bipush (v := (-100 : Int32)) dJ6_getChars_ba4f3_23 (by decide) ?_
      refine r_icmp_gt (tgt := 72) dJ6_getChars_ba4f3_25 (by decide) (fun hc => ?_) (fun hc => ?_)
      · have hc2 : w < 100 := by have := (sb_nlt (a := 100) (b := w) (by omega) (by omega)).mp (show -nI 100 < -nI w from hc); omega
        refine r_aload_n 3 dJ6_getChars_ba4f3_72 rfl ?_
        refine r_iinc (v2 := (nI (p - 1))) 2 [(5, .int (nI (p - 1))), (0, .int (-nI w)), (6, .int (0 : Int32)), (2, .ref u)] dJ6_getChars_ba4f3_73 rfl (by show nI p + (-1) = _; exact sb_m1 (by omega)) (by decide) rfl ?_
        refine r_iload 0 dJ6_getChars_ba4f3_76 rfl ?_
        refine r_getDO dJ6_getChars_ba4f3_78 kk_1435 ?_
        refine r_iload_n 1 dJ6_getChars_ba4f3_81 rfl ?_
        refine r_ineg dJ6_getChars_ba4f3_82 ?_
        refine r_top (w := .int (nI w)) (by rw [negneg]) ?_
        refine r_baldO dJ6_getChars_ba4f3_83 (ib_nI (by omega) (by omega)) ?_
        refine r_top (w := .int (onesB w)) (by rw [nI_clamp (by omega)]) ?_
        refine r_bast (w := (onesB w)) (ws2 := ((u, yA g m (upd f (p - 1) (onesB w))) :: t)) 0 dJ6_getChars_ba4f3_84 rfl (ib_nI (by omega) (by omega)) ((dg_nar w hc2).1) (by rw [nI_clamp (by omega)] <;> rfl) ?_
        refine r_iload_n 1 dJ6_getChars_ba4f3_85 rfl ?_
        refine r_bipush (v := (-9 : Int32)) dJ6_getChars_ba4f3_86 (by decide) ?_
        refine r_icmp_ge (tgt := 104) dJ6_getChars_ba4f3_88 (by decide) (fun hd => ?_) (fun hd => ?_)
        · have hd2 : w < 10 := by have := (sb_nle (a := 9) (b := w) (by omega) (by omega)).mp (show -nI 9 ≤ -nI w from hd); omega
          refine r_iload 2 dJ6_getChars_ba4f3_104 rfl ?_
          refine r_if_eq (tgt := 118) dJ6_getChars_ba4f3_106 (by decide) (fun _ => ?_) (fun hc => absurd (by decide) hc)
          refine r_iload 0 dJ6_getChars_ba4f3_118 rfl ?_
          obtain ⟨g1, g2⟩ := PutD.last1 hf hd2 hp
          refine r_top (w := .int (nI (p - (dgL w).length))) (by rw [g2]) ?_
          refine r_iret dJ6_getChars_ba4f3_120 rfl ?_
          exact hq _ g1
        · have hd2 : 10 ≤ w := by have : ¬ _ := fun h => hd (show -nI 9 ≤ -nI w from (sb_nle (a := 9) (b := w) (by omega) (by omega)).mpr h); omega
          obtain ⟨g1, g2⟩ := PutD.last2 hf hd2 hc2 hp
          refine r_aload_n 3 dJ6_getChars_ba4f3_91 rfl ?_
          refine r_iinc (v2 := (nI (p - 2))) 0 [(5, .int (nI (p - 2))), (0, .int (-nI w)), (6, .int (0 : Int32)), (2, .ref u)] dJ6_getChars_ba4f3_92 rfl (by show nI (p - 1) + (-1) = _; exact sb_m1 (by omega)) (by decide) rfl ?_
          refine r_iload 0 dJ6_getChars_ba4f3_95 rfl ?_
          refine r_getDT dJ6_getChars_ba4f3_97 kk_1437 ?_
          refine r_iload_n 1 dJ6_getChars_ba4f3_100 rfl ?_
          refine r_ineg dJ6_getChars_ba4f3_101 ?_
          refine r_top (w := .int (nI w)) (by rw [negneg]) ?_
          refine r_baldT dJ6_getChars_ba4f3_102 (ib_nI (by omega) (by omega)) ?_
          refine r_top (w := .int (tensB w)) (by rw [nI_clamp (by omega)]) ?_
          refine r_bast (w := (tensB w)) (ws2 := ((u, yA g m (upd (upd f (p - 1) (onesB w)) (p - 2) (tensB w))) :: t)) 0 dJ6_getChars_ba4f3_103 rfl (ib_nI (by omega) (by omega)) ((dg_nar w hc2).2.1) (by rw [nI_clamp (by omega)] <;> rfl) ?_
          refine r_iload 2 dJ6_getChars_ba4f3_104 rfl ?_
          refine r_if_eq (tgt := 118) dJ6_getChars_ba4f3_106 (by decide) (fun _ => ?_) (fun hc => absurd (by decide) hc)
          refine r_iload 0 dJ6_getChars_ba4f3_118 rfl ?_
          refine r_top (w := .int (nI (p - (dgL w).length))) (by rw [g2]) ?_
          refine r_iret dJ6_getChars_ba4f3_120 rfl ?_
          exact hq _ g1
      · have hc2 : 100 ≤ w := by have : ¬ _ := fun h => hc (show -nI 100 < -nI w from (sb_nlt (a := 100) (b := w) (by omega) (by omega)).mpr h); omega
        omega
    | succ n ih =>
      intro w p f Q hn hw hp hpm hf hq
      have h0 := dgL_pos w
      refine r_iload_n 0 dJ6_getChars_ba4f3_22 rfl ?_
      refine r_bipush (v := (-100 : Int32)) dJ6_getChars_ba4f3_23 (by decide) ?_
      refine r_icmp_gt (tgt := 72) dJ6_getChars_ba4f3_25 (by decide) (fun hc => ?_) (fun hc => ?_)
      · have hc2 : w < 100 := by have := (sb_nlt (a := 100) (b := w) (by omega) (by omega)).mp (show -nI 100 < -nI w from hc); omega
        refine r_aload_n 3 dJ6_getChars_ba4f3_72 rfl ?_
        refine r_iinc (v2 := (nI (p - 1))) 2 [(5, .int (nI (p - 1))), (0, .int (-nI w)), (6, .int (0 : Int32)), (2, .ref u)] dJ6_getChars_ba4f3_73 rfl (by show nI p + (-1) = _; exact sb_m1 (by omega)) (by decide) rfl ?_
        refine r_iload 0 dJ6_getChars_ba4f3_76 rfl ?_
        refine r_getDO dJ6_getChars_ba4f3_78 kk_1435 ?_
        refine r_iload_n 1 dJ6_getChars_ba4f3_81 rfl ?_
        refine r_ineg dJ6_getChars_ba4f3_82 ?_
        refine r_top (w := .int (nI w)) (by rw [negneg]) ?_
        refine r_baldO dJ6_getChars_ba4f3_83 (ib_nI (by omega) (by omega)) ?_
        refine r_top (w := .int (onesB w)) (by rw [nI_clamp (by omega)]) ?_
        refine r_bast (w := (onesB w)) (ws2 := ((u, yA g m (upd f (p - 1) (onesB w))) :: t)) 0 dJ6_getChars_ba4f3_84 rfl (ib_nI (by omega) (by omega)) ((dg_nar w hc2).1) (by rw [nI_clamp (by omega)] <;> rfl) ?_
        refine r_iload_n 1 dJ6_getChars_ba4f3_85 rfl ?_
        refine r_bipush (v := (-9 : Int32)) dJ6_getChars_ba4f3_86 (by decide) ?_
        refine r_icmp_ge (tgt := 104) dJ6_getChars_ba4f3_88 (by decide) (fun hd => ?_) (fun hd => ?_)
        · have hd2 : w < 10 := by have := (sb_nle (a := 9) (b := w) (by omega) (by omega)).mp (show -nI 9 ≤ -nI w from hd); omega
          refine r_iload 2 dJ6_getChars_ba4f3_104 rfl ?_
          refine r_if_eq (tgt := 118) dJ6_getChars_ba4f3_106 (by decide) (fun _ => ?_) (fun hc => absurd (by decide) hc)
          refine r_iload 0 dJ6_getChars_ba4f3_118 rfl ?_
          obtain ⟨g1, g2⟩ := PutD.last1 hf hd2 hp
          refine r_top (w := .int (nI (p - (dgL w).length))) (by rw [g2]) ?_
          refine r_iret dJ6_getChars_ba4f3_120 rfl ?_
          exact hq _ g1
        · have hd2 : 10 ≤ w := by have : ¬ _ := fun h => hd (show -nI 9 ≤ -nI w from (sb_nle (a := 9) (b := w) (by omega) (by omega)).mpr h); omega
          obtain ⟨g1, g2⟩ := PutD.last2 hf hd2 hc2 hp
          refine r_aload_n 3 dJ6_getChars_ba4f3_91 rfl ?_
          refine r_iinc (v2 := (nI (p - 2))) 0 [(5, .int (nI (p - 2))), (0, .int (-nI w)), (6, .int (0 : Int32)), (2, .ref u)] dJ6_getChars_ba4f3_92 rfl (by show nI (p - 1) + (-1) = _; exact sb_m1 (by omega)) (by decide) rfl ?_
          refine r_iload 0 dJ6_getChars_ba4f3_95 rfl ?_
          refine r_getDT dJ6_getChars_ba4f3_97 kk_1437 ?_
          refine r_iload_n 1 dJ6_getChars_ba4f3_100 rfl ?_
          refine r_ineg dJ6_getChars_ba4f3_101 ?_
          refine r_top (w := .int (nI w)) (by rw [negneg]) ?_
          refine r_baldT dJ6_getChars_ba4f3_102 (ib_nI (by omega) (by omega)) ?_
          refine r_top (w := .int (tensB w)) (by rw [nI_clamp (by omega)]) ?_
          refine r_bast (w := (tensB w)) (ws2 := ((u, yA g m (upd (upd f (p - 1) (onesB w)) (p - 2) (tensB w))) :: t)) 0 dJ6_getChars_ba4f3_103 rfl (ib_nI (by omega) (by omega)) ((dg_nar w hc2).2.1) (by rw [nI_clamp (by omega)] <;> rfl) ?_
          refine r_iload 2 dJ6_getChars_ba4f3_104 rfl ?_
          refine r_if_eq (tgt := 118) dJ6_getChars_ba4f3_106 (by decide) (fun _ => ?_) (fun hc => absurd (by decide) hc)
          refine r_iload 0 dJ6_getChars_ba4f3_118 rfl ?_
          refine r_top (w := .int (nI (p - (dgL w).length))) (by rw [g2]) ?_
          refine r_iret dJ6_getChars_ba4f3_120 rfl ?_
          exact hq _ g1
      · have hc2 : 100 ≤ w := by have : ¬ _ := fun h => hc (show -nI 100 < -nI w from (sb_nlt (a := 100) (b := w) (by omega) (by omega)).mpr h); omega
        have hl : (dgL w).length = (dgL (w / 100)).length + 2 := by rw [dgL_100 hc2 (by omega)]; simp
        have hr : w % 100 < 100 := Nat.mod_lt _ (by decide)
        refine r_iload_n 0 dJ6_getChars_ba4f3_28 rfl ?_
        refine r_bipush (v := (100 : Int32)) dJ6_getChars_ba4f3_29 (by decide) ?_
        refine r_idiv dJ6_getChars_ba4f3_31 (by decide) ?_
        refine r_top (w := .int (-nI (w / 100))) (by rw [sb_ndiv (w := w) (by omega)]) ?_
        refine r_istore_n [(3, .int (-nI (w / 100))), (0, .int (-nI w)), (6, .int (0 : Int32)), (5, .int (nI p)), (2, .ref u)] dJ6_getChars_ba4f3_32 (by decide) rfl ?_
        refine r_iload_n 0 dJ6_getChars_ba4f3_33 rfl ?_
        refine r_bipush (v := (100 : Int32)) dJ6_getChars_ba4f3_34 (by decide) ?_
        refine r_imul dJ6_getChars_ba4f3_36 ?_
        refine r_iload_n 1 dJ6_getChars_ba4f3_37 rfl ?_
        refine r_isub dJ6_getChars_ba4f3_38 ?_
        refine r_top (w := .int (nI (w % 100))) (by rw [sb_nrem (w := w) (by omega)]) ?_
        refine r_istore [(4, .int (nI (w % 100))), (3, .int (-nI (w / 100))), (0, .int (-nI w)), (6, .int (0 : Int32)), (5, .int (nI p)), (2, .ref u)] dJ6_getChars_ba4f3_39 (by decide) rfl ?_
        refine r_iload_n 1 dJ6_getChars_ba4f3_41 rfl ?_
        refine r_istore_n [(0, .int (-nI (w / 100))), (4, .int (nI (w % 100))), (3, .int (-nI (w / 100))), (6, .int (0 : Int32)), (5, .int (nI p)), (2, .ref u)] dJ6_getChars_ba4f3_42 (by decide) rfl ?_
        refine r_aload_n 5 dJ6_getChars_ba4f3_43 rfl ?_
        refine r_iinc (v2 := (nI (p - 1))) 4 [(5, .int (nI (p - 1))), (0, .int (-nI (w / 100))), (4, .int (nI (w % 100))), (3, .int (-nI (w / 100))), (6, .int (0 : Int32)), (2, .ref u)] dJ6_getChars_ba4f3_44 rfl (by show nI p + (-1) = _; exact sb_m1 (by omega)) (by decide) rfl ?_
        refine r_iload 0 dJ6_getChars_ba4f3_47 rfl ?_
        refine r_getDO dJ6_getChars_ba4f3_49 kk_1435 ?_
        refine r_iload 2 dJ6_getChars_ba4f3_52 rfl ?_
        refine r_baldO dJ6_getChars_ba4f3_54 (ib_nI (by omega) (by omega)) ?_
        refine r_top (w := .int (onesB (w % 100))) (by rw [nI_clamp (by omega)]) ?_
        refine r_bast (w := (onesB (w % 100))) (ws2 := ((u, yA g m (upd f (p - 1) (onesB (w % 100)))) :: t)) 0 dJ6_getChars_ba4f3_55 rfl (ib_nI (by omega) (by omega)) ((dg_nar _ hr).1) (by rw [nI_clamp (by omega)] <;> rfl) ?_
        refine r_aload_n 5 dJ6_getChars_ba4f3_56 rfl ?_
        refine r_iinc (v2 := (nI (p - 2))) 0 [(5, .int (nI (p - 2))), (0, .int (-nI (w / 100))), (4, .int (nI (w % 100))), (3, .int (-nI (w / 100))), (6, .int (0 : Int32)), (2, .ref u)] dJ6_getChars_ba4f3_57 rfl (by show nI (p - 1) + (-1) = _; exact sb_m1 (by omega)) (by decide) rfl ?_
        refine r_iload 0 dJ6_getChars_ba4f3_60 rfl ?_
        refine r_getDT dJ6_getChars_ba4f3_62 kk_1437 ?_
        refine r_iload 2 dJ6_getChars_ba4f3_65 rfl ?_
        refine r_baldT dJ6_getChars_ba4f3_67 (ib_nI (by omega) (by omega)) ?_
        refine r_top (w := .int (tensB (w % 100))) (by rw [nI_clamp (by omega)]) ?_
        refine r_bast (w := (tensB (w % 100))) (ws2 := ((u, yA g m (upd (upd f (p - 1) (onesB (w % 100))) (p - 2) (tensB (w % 100)))) :: t)) 0 dJ6_getChars_ba4f3_68 rfl (ib_nI (by omega) (by omega)) ((dg_nar _ hr).2.1) (by rw [nI_clamp (by omega)] <;> rfl) ?_
        refine r_goto (tgt := 22) dJ6_getChars_ba4f3_69 (by decide) ?_
        refine r_ls [1, 4, 0, 5] (ls2 := [(0, .int (-nI (w / 100))), (6, .int (0 : Int32)), (5, .int (nI (p - 2))), (2, .ref u)]) rfl ?_
        refine ih (w / 100) (p - 2) _ Q (by omega) (by omega) (by omega) (by omega) (sb_fitU (sb_fitU hf (dg_nar _ hr).2.2.1) (dg_nar _ hr).2.2.2) (fun f9 h9 => ?_)
        obtain ⟨g1, g2⟩ := PutD.step hc2 (by omega) hp h9
        rw [g2]
        exact hq f9 g1
  exact L v v p f _ (Nat.le_refl _) hv hp hpm hf (fun f9 h9 => Dq.mk f9 rfl rfl h9)
set_option maxRecDepth 20000 in
set_option maxHeartbeats 4000000 in
theorem cj_isL {g : GG} {t : va_W} {a v : Nat} {c : Int32}  : Ct g mJ5_isLatin1_aae02 1 0 0 [.ref a] ((a, .inr (13, [.ref v, .int (0 : Int32), .int (0 : Int32), .int c])) :: t) (Dq (fun (z : Unit) => some (.int (1 : Int32))) (fun z => (a, .inr (13, [.ref v, .int (0 : Int32), .int (0 : Int32), .int c])) :: t) (fun z => True)) := by
  refine Ct.ofR (by decide +kernel) rfl (Nat.le_of_ble_eq_true rfl) ?_
  show R g mJ5_isLatin1_aae02 1 0 0 0 [(0, .ref a)] [] ((a, .inr (13, [.ref v, .int (0 : Int32), .int (0 : Int32), .int c])) :: t) _
  refine r_getC dJ5_isLatin1_aae02_0 kk_1373 ?_
  refine r_if_eq (tgt := 17) dJ5_isLatin1_aae02_3 (by decide) (fun hc => absurd hc (by decide)) (fun _ => ?_)
  refine r_aload_n 0 dJ5_isLatin1_aae02_6 rfl ?_
  refine r_getf (v := .int (0 : Int32)) 0 dJ5_isLatin1_aae02_7 fl_J5_22 rfl rfl ?_
  refine r_if_ne (tgt := 17) dJ5_isLatin1_aae02_10 (by decide) (fun hc => absurd (by decide) hc) (fun _ => ?_)
  refine r_iconst (v := (1 : Int32)) dJ5_isLatin1_aae02_13 (by decide) ?_
  refine r_goto (tgt := 18) dJ5_isLatin1_aae02_14 (by decide) ?_
  refine r_zret dJ5_isLatin1_aae02_18 rfl (by decide) ?_
  exact Dq.mk () rfl rfl trivial
set_option maxRecDepth 20000 in
set_option maxHeartbeats 4000000 in
theorem cj_len0 {g : GG} {t : va_W} {a v : Nat} {c : Int32}  : Ct g mJ5_length_8abf5 1 0 0 [.ref a] ((a, .inr (13, [.ref v, .int (0 : Int32), .int (0 : Int32), .int c])) :: t) (Dq (fun (z : Unit) => some (.int c)) (fun z => (a, .inr (13, [.ref v, .int (0 : Int32), .int (0 : Int32), .int c])) :: t) (fun z => True)) := by
  refine Ct.ofR (by decide +kernel) rfl (Nat.le_of_ble_eq_true rfl) ?_
  show R g mJ5_length_8abf5 1 0 0 0 [(0, .ref a)] [] ((a, .inr (13, [.ref v, .int (0 : Int32), .int (0 : Int32), .int c])) :: t) _
  refine r_aload_n 0 dJ5_length_8abf5_0 rfl ?_
  refine r_getf (v := .int c) 0 dJ5_length_8abf5_1 fl_J5_79 rfl rfl ?_
  refine r_iret dJ5_length_8abf5_4 rfl ?_
  exact Dq.mk () rfl rfl trivial
set_option maxRecDepth 20000 in
set_option maxHeartbeats 4000000 in
theorem cj_getV {g : GG} {t : va_W} {a v : Nat} {c : Int32}  : Ct g mJ5_getValue_6d5f1 1 0 0 [.ref a] ((a, .inr (13, [.ref v, .int (0 : Int32), .int (0 : Int32), .int c])) :: t) (Dq (fun (z : Unit) => some (.ref v)) (fun z => (a, .inr (13, [.ref v, .int (0 : Int32), .int (0 : Int32), .int c])) :: t) (fun z => True)) := by
  refine Ct.ofR (by decide +kernel) rfl (Nat.le_of_ble_eq_true rfl) ?_
  show R g mJ5_getValue_6d5f1 1 0 0 0 [(0, .ref a)] [] ((a, .inr (13, [.ref v, .int (0 : Int32), .int (0 : Int32), .int c])) :: t) _
  refine r_aload_n 0 dJ5_getValue_6d5f1_0 rfl ?_
  refine r_getf (v := .ref v) 0 dJ5_getValue_6d5f1_1 fl_J5_15 rfl rfl ?_
  refine r_aret dJ5_getValue_6d5f1_4 rfl rfl (Or.inr ⟨_, rfl⟩) ?_
  exact Dq.mk () rfl rfl trivial
set_option maxRecDepth 20000 in
set_option maxHeartbeats 4000000 in
theorem cj_len {g : GG} {t : va_W} {a v : Nat} {c : Int32}  : Ct g mJ4_length_8abf5 2 0 0 [.ref a] ((a, .inr (13, [.ref v, .int (0 : Int32), .int (0 : Int32), .int c])) :: t) (Dq (fun (z : Unit) => some (.int c)) (fun z => (a, .inr (13, [.ref v, .int (0 : Int32), .int (0 : Int32), .int c])) :: t) (fun z => True)) := by
  refine Ct.ofR (by decide +kernel) rfl (Nat.le_of_ble_eq_true rfl) ?_
  show R g mJ4_length_8abf5 2 0 0 0 [(0, .ref a)] [] ((a, .inr (13, [.ref v, .int (0 : Int32), .int (0 : Int32), .int c])) :: t) _
  refine r_aload_n 0 dJ4_length_8abf5_0 rfl ?_
  refine k_SU (x := 0) (y := 0) (rest := []) 0 dJ4_length_8abf5_1 ksu_J4_343 (cj_len0) rfl rfl rfl rfl (Nat.le_of_ble_eq_true rfl) (by decide) (by decide) ?_
  rintro ⟨⟩ -
  show R g mJ4_length_8abf5 2 0 0 4 [(0, .ref a)] [.int c] ((a, .inr (13, [.ref v, .int (0 : Int32), .int (0 : Int32), .int c])) :: t) _
  refine r_iret dJ4_length_8abf5_4 rfl ?_
  exact Dq.mk () rfl rfl trivial
set_option maxRecDepth 20000 in
set_option maxHeartbeats 4000000 in
theorem cj_append0I {g : GG} {t : va_W} {a v m x9 : Nat} {f : Nat → Int32} {L : List Int32} (hL : LB f L) (hlm : L.length ≤ m) (hm : m ≤ 4000) (hx : x9 < 1000000) (hq : L.length + (dgL x9).length ≤ 2000) : Ct g mJ5_append_c97b9 5 1 4002 [.ref a, .int (nI x9)] ((a, .inr (13, [.ref v, .int (0 : Int32), .int (0 : Int32), .int (nI L.length)])) :: ((v, yA g m f) :: t)) (Dq (fun (z : Nat × Nat × (Nat → Int32)) => some (.ref a)) (fun z => (a, .inr (13, [.ref z.1, .int (0 : Int32), .int (0 : Int32), .int (nI (L.length + (dgL x9).length))])) :: (z.1, yA g z.2.1 z.2.2) :: t) (fun z => LB z.2.2 (L ++ dgL x9) ∧ (L ++ dgL x9).length ≤ z.2.1 ∧ z.2.1 ≤ 4000)) := by
  refine Ct.ofR (by decide +kernel) rfl (Nat.le_of_ble_eq_true rfl) ?_
  show R g mJ5_append_c97b9 5 1 4002 0 [(0, .ref a), (1, .int (nI x9))] [] ((a, .inr (13, [.ref v, .int (0 : Int32), .int (0 : Int32), .int (nI L.length)])) :: ((v, yA g m f) :: t)) _
  refine r_aload_n 0 dJ5_append_c97b9_0 rfl ?_
  refine r_getf (v := .int (nI L.length)) 0 dJ5_append_c97b9_1 fl_J5_79 rfl rfl ?_
  refine r_istore_n [(2, .int (nI L.length)), (0, .ref a), (1, .int (nI x9))] dJ5_append_c97b9_4 (by decide) rfl ?_
  refine r_iload_n 0 dJ5_append_c97b9_5 rfl ?_
  refine r_iload_n 2 dJ5_append_c97b9_6 rfl ?_
  refine k_S (x := 1) (y := 4002) (rest := [.int (nI L.length)]) dJ5_append_c97b9_7 ks_J5_245 (cj_size hx) rfl rfl (Nat.le_of_ble_eq_true rfl) (by decide) (by decide) ?_
  rintro ⟨⟩ -
  show R g mJ5_append_c97b9 5 1 4002 10 [(2, .int (nI L.length)), (0, .ref a), (1, .int (nI x9))] [.int (nI (dgL x9).length), .int (nI L.length)] ((a, .inr (13, [.ref v, .int (0 : Int32), .int (0 : Int32), .int (nI L.length)])) :: ((v, yA g m f) :: t)) _
  refine r_iadd dJ5_append_c97b9_10 ?_
  refine r_top (w := .int (nI (L.length + (dgL x9).length))) (by rw [nI_add]) ?_
  refine r_istore_n [(3, .int (nI (L.length + (dgL x9).length))), (2, .int (nI L.length)), (0, .ref a), (1, .int (nI x9))] dJ5_append_c97b9_11 (by decide) rfl ?_
  refine r_aload_n 2 dJ5_append_c97b9_12 rfl ?_
  refine r_iload_n 0 dJ5_append_c97b9_13 rfl ?_
  refine k_U (x := 0) (y := 0) (rest := []) 0 dJ5_append_c97b9_14 ku_J5_100 (cj_ens hm hq hL.1) rfl rfl rfl rfl (Nat.le_of_ble_eq_true rfl) (by decide) (by decide) ?_
  rintro ⟨v2, m2, f2⟩ ⟨h1, h2, h3, h4⟩
  try dsimp only at h1 h2 h3 h4
  show R g mJ5_append_c97b9 5 0 0 17 [(3, .int (nI (L.length + (dgL x9).length))), (2, .int (nI L.length)), (0, .ref a), (1, .int (nI x9))] [] ((a, .inr (13, [.ref v2, .int (0 : Int32), .int (0 : Int32), .int (nI L.length)])) :: ((v2, yA g m2 f2) :: t)) _
  refine r_aload_n 2 dJ5_append_c97b9_17 rfl ?_
  refine k_U (x := 0) (y := 0) (rest := []) 0 dJ5_append_c97b9_18 ku_J5_83 (cj_isL) rfl rfl rfl rfl (Nat.le_of_ble_eq_true rfl) (by decide) (by decide) ?_
  rintro ⟨⟩ -
  show R g mJ5_append_c97b9 5 0 0 21 [(3, .int (nI (L.length + (dgL x9).length))), (2, .int (nI L.length)), (0, .ref a), (1, .int (nI x9))] [.int (1 : Int32)] ((a, .inr (13, [.ref v2, .int (0 : Int32), .int (0 : Int32), .int (nI L.length)])) :: ((v2, yA g m2 f2) :: t)) _
  refine r_if_eq (tgt := 37) dJ5_append_c97b9_21 (by decide) (fun hc => absurd hc (by decide)) (fun _ => ?_)
  refine r_iload_n 3 dJ5_append_c97b9_24 rfl ?_
  refine r_iload_n 0 dJ5_append_c97b9_25 rfl ?_
  refine r_aload_n 2 dJ5_append_c97b9_26 rfl ?_
  refine r_getf (v := .ref v2) 0 dJ5_append_c97b9_27 fl_J5_15 rfl rfl ?_
  refine r_seg (ws2 := ((v2, yA g m2 f2) :: ((a, .inr (13, [.ref v2, .int (0 : Int32), .int (0 : Int32), .int (nI L.length)])) :: t))) [[(a, .inr (13, [.ref v2, .int (0 : Int32), .int (0 : Int32), .int (nI L.length)]))], [(v2, yA g m2 f2)], t] [1, 0, 2] rfl rfl rfl ?_
  refine k_S (x := 0) (y := 0) (rest := []) dJ5_append_c97b9_30 ks_J5_248 (cj_getChars (p := L.length + (dgL x9).length) hx (by omega) h1 h2 h3) rfl rfl (Nat.le_of_ble_eq_true rfl) (by decide) (by decide) ?_
  rintro f3 ⟨g1, g2, g3, g4⟩
  try dsimp only at g1 g2 g3 g4
  show R g mJ5_append_c97b9 5 0 0 33 [(3, .int (nI (L.length + (dgL x9).length))), (2, .int (nI L.length)), (0, .ref a), (1, .int (nI x9))] [.int (nI (L.length + (dgL x9).length - (dgL x9).length))] ((v2, yA g m2 f3) :: ((a, .inr (13, [.ref v2, .int (0 : Int32), .int (0 : Int32), .int (nI L.length)])) :: t)) _
  refine r_pop dJ5_append_c97b9_33 rfl ?_
  refine r_goto (tgt := 48) dJ5_append_c97b9_34 (by decide) ?_
  refine r_aload_n 2 dJ5_append_c97b9_48 rfl ?_
  refine r_iload_n 0 dJ5_append_c97b9_49 rfl ?_
  refine r_putf (ws2 := ((v2, yA g m2 f3) :: ((a, .inr (13, [.ref v2, .int (0 : Int32), .int (0 : Int32), .int (nI (L.length + (dgL x9).length))])) :: t))) 1 dJ5_append_c97b9_50 fl_J5_79 rfl (Nat.le_of_ble_eq_true rfl) rfl rfl rfl ?_
  refine r_aload_n 2 dJ5_append_c97b9_53 rfl ?_
  refine r_seg (ws2 := ((a, .inr (13, [.ref v2, .int (0 : Int32), .int (0 : Int32), .int (nI (L.length + (dgL x9).length))])) :: ((v2, yA g m2 f3) :: t))) [[(v2, yA g m2 f3)], [(a, .inr (13, [.ref v2, .int (0 : Int32), .int (0 : Int32), .int (nI (L.length + (dgL x9).length))]))], t] [1, 0, 2] rfl rfl rfl ?_
  refine r_aret dJ5_append_c97b9_54 rfl rfl (Or.inr ⟨_, rfl⟩) ?_
  have e9 : L.length + (dgL x9).length - (dgL x9).length = L.length := by omega
  rw [e9] at g2 g3
  refine Dq.mk (v2, m2, f3) rfl rfl ⟨LB.app g1 (fun j hj => ?_) g3, by rw [List.length_append]; exact h1, h2⟩
  show f3 j = _
  rw [g2 j hj, h4 j (by omega)]
  exact hL.2 j hj
set_option maxRecDepth 20000 in
set_option maxHeartbeats 4000000 in
theorem cj_appendI {g : GG} {t : va_W} {a v m x9 : Nat} {f : Nat → Int32} {L : List Int32} (hL : LB f L) (hlm : L.length ≤ m) (hm : m ≤ 4000) (hx : x9 < 1000000) (hq : L.length + (dgL x9).length ≤ 2000) : Ct g mJ4_append_bf812 6 1 4002 [.ref a, .int (nI x9)] ((a, .inr (13, [.ref v, .int (0 : Int32), .int (0 : Int32), .int (nI L.length)])) :: ((v, yA g m f) :: t)) (Dq (fun (z : Nat × Nat × (Nat → Int32)) => some (.ref a)) (fun z => (a, .inr (13, [.ref z.1, .int (0 : Int32), .int (0 : Int32), .int (nI (L.length + (dgL x9).length))])) :: (z.1, yA g z.2.1 z.2.2) :: t) (fun z => LB z.2.2 (L ++ dgL x9) ∧ (L ++ dgL x9).length ≤ z.2.1 ∧ z.2.1 ≤ 4000)) := by
  refine Ct.ofR (by decide +kernel) rfl (Nat.le_of_ble_eq_true rfl) ?_
  show R g mJ4_append_bf812 6 1 4002 0 [(0, .ref a), (1, .int (nI x9))] [] ((a, .inr (13, [.ref v, .int (0 : Int32), .int (0 : Int32), .int (nI L.length)])) :: ((v, yA g m f) :: t)) _
  refine r_aload_n 0 dJ4_append_bf812_0 rfl ?_
  refine r_iload_n 1 dJ4_append_bf812_1 rfl ?_
  refine k_SU (x := 0) (y := 0) (rest := []) 0 dJ4_append_bf812_2 ksu_J4_53 (cj_append0I hL hlm hm hx hq) rfl rfl rfl rfl (Nat.le_of_ble_eq_true rfl) (by decide) (by decide) ?_
  rintro ⟨v2, m2, f2⟩ h9
  try dsimp only at h9
  show R g mJ4_append_bf812 6 0 0 5 [(0, .ref a), (1, .int (nI x9))] [.ref a] ((a, .inr (13, [.ref v2, .int (0 : Int32), .int (0 : Int32), .int (nI (L.length + (dgL x9).length))])) :: ((v2, yA g m2 f2) :: t)) _
  refine r_pop dJ4_append_bf812_5 rfl ?_
  refine r_aload_n 0 dJ4_append_bf812_6 rfl ?_
  refine r_aret dJ4_append_bf812_7 rfl rfl (Or.inr ⟨_, rfl⟩) ?_
  exact Dq.mk (v2, m2, f2) rfl rfl h9
set_option maxRecDepth 20000 in
set_option maxHeartbeats 4000000 in
theorem cj_checkLen {g : GG} {t : va_W} {n : Nat} (hn : n ≤ 4000) : Ct g mJ7_checkLength_df160 1 0 0 [.int (0 : Int32), .int (nI n)] t (Dq (fun (z : Unit) => none) (fun z => t) (fun z => True)) := by
  refine Ct.ofR (by decide +kernel) rfl (Nat.le_of_ble_eq_true rfl) ?_
  show R g mJ7_checkLength_df160 1 0 0 0 [(0, .int (0 : Int32)), (1, .int (nI n))] [] t _
  refine r_iload_n 1 dJ7_checkLength_df160_0 rfl ?_
  refine r_iload_n 0 dJ7_checkLength_df160_1 rfl ?_
  refine r_icmp_ge (tgt := 37) dJ7_checkLength_df160_2 (by decide) (fun _ => ?_) (fun hc => absurd (nI_pos' (by omega)) hc)
  refine r_vret dJ7_checkLength_df160_37 rfl ?_
  exact Dq.mk () rfl rfl trivial
set_option maxRecDepth 20000 in
set_option maxHeartbeats 4000000 in
theorem cj_rangeB {g : GG} {t : va_W} {v m n : Nat} {f : Nat → Int32} (hn : n ≤ m) (hm : m ≤ 4000) (hf : sb_Fit f) : Ct g mJ7_copyOfRangeByte_39247 3 1 4002 [.ref v, .int (0 : Int32), .int (nI n)] ((v, yA g m f) :: t) (Dq (fun (z : Nat) => some (.ref z)) (fun z => (z, yA g n (va_cpy f (fun _ => 0) 0 0 n)) :: (v, yA g m f) :: t) (fun z => True)) := by
  refine Ct.ofR (by decide +kernel) rfl (Nat.le_of_ble_eq_true rfl) ?_
  show R g mJ7_copyOfRangeByte_39247 3 1 4002 0 [(0, .ref v), (1, .int (0 : Int32)), (2, .int (nI n))] [] ((v, yA g m f) :: t) _
  refine r_iload_n 1 dJ7_copyOfRangeByte_39247_0 rfl ?_
  refine r_iload_n 2 dJ7_copyOfRangeByte_39247_1 rfl ?_
  refine k_S (x := 1) (y := 4002) (rest := []) dJ7_copyOfRangeByte_39247_2 ks_J7_343 (cj_checkLen (by omega)) rfl rfl (Nat.le_of_ble_eq_true rfl) (by decide) (by decide) ?_
  rintro ⟨⟩ -
  show R g mJ7_copyOfRangeByte_39247 3 1 4002 5 [(0, .ref v), (1, .int (0 : Int32)), (2, .int (nI n))] [] ((v, yA g m f) :: t) _
  refine r_iload_n 2 dJ7_copyOfRangeByte_39247_5 rfl ?_
  refine r_iload_n 1 dJ7_copyOfRangeByte_39247_6 rfl ?_
  refine r_isub dJ7_copyOfRangeByte_39247_7 ?_
  refine r_top (w := .int (nI n)) (by rw [sub0]) ?_
  refine r_istore_n [(3, .int (nI n)), (0, .ref v), (1, .int (0 : Int32)), (2, .int (nI n))] dJ7_copyOfRangeByte_39247_8 (by decide) rfl ?_
  refine r_iload_n 0 dJ7_copyOfRangeByte_39247_9 rfl ?_
  refine r_room (x2 := 0 + 1) (y2 := 0 + n) (by omega) (by omega) ?_
  refine r_newB (x := 0) (y := 0) (N := n) dJ7_copyOfRangeByte_39247_10 kk_373 (nI_pos (by omega)) (nI_clamp (by omega)) (by omega) (fun u => ?_)
  refine r_astore [(4, .ref u), (3, .int (nI n)), (0, .ref v), (1, .int (0 : Int32)), (2, .int (nI n))] dJ7_copyOfRangeByte_39247_12 (by decide) rfl ?_
  refine r_aload_n 2 dJ7_copyOfRangeByte_39247_14 rfl ?_
  refine r_iload_n 3 dJ7_copyOfRangeByte_39247_15 rfl ?_
  refine r_aload 0 dJ7_copyOfRangeByte_39247_16 rfl ?_
  refine r_iconst (v := (0 : Int32)) dJ7_copyOfRangeByte_39247_18 (by decide) ?_
  refine r_aload_n 2 dJ7_copyOfRangeByte_39247_19 rfl ?_
  refine r_alenm (t := 2) (v := (nI m)) dJ7_copyOfRangeByte_39247_20 rfl (List.mem_cons_of_mem _ List.mem_cons_self) (by rfl) ?_
  refine r_iload_n 3 dJ7_copyOfRangeByte_39247_21 rfl ?_
  refine r_isub dJ7_copyOfRangeByte_39247_22 ?_
  refine r_top (w := .int (nI m)) (by rw [sub0]) ?_
  refine r_iload_n 1 dJ7_copyOfRangeByte_39247_23 rfl ?_
  refine c_mmin (rest := [.int (0 : Int32), .ref u, .int (0 : Int32), .ref v]) dJ7_copyOfRangeByte_39247_24 ks_J7_304 (Nat.le_of_ble_eq_true rfl) (by decide) ?_
  refine r_top (w := .int (nI n)) (by rw [mn_nI (by omega) (by omega), Nat.min_eq_right (by omega)]) ?_
  refine r_copyB (ws2 := ((u, yA g n (va_cpy f (fun _ => 0) (0 : Int32).toNatClampNeg (0 : Int32).toNatClampNeg (nI n).toNatClampNeg)) :: ((v, yA g m f) :: t))) 1 0 dJ7_copyOfRangeByte_39247_27 ⟨kk_1365, kk_1367, kk_1366, kk_77⟩ rfl rfl (by decide) (by decide) (nI_pos (by omega)) (by rw [zclamp, nI_clamp (by omega)]; omega) (by rw [zclamp, nI_clamp (by omega)]; omega) hf (Nat.le_of_ble_eq_true rfl) (by decide) rfl ?_
  refine r_aload 0 dJ7_copyOfRangeByte_39247_30 rfl ?_
  refine r_aret dJ7_copyOfRangeByte_39247_32 rfl rfl (Or.inr ⟨_, rfl⟩) ?_
  exact Dq.mk u rfl (by rw [zclamp, nI_clamp (by omega)]) trivial
set_option maxRecDepth 20000 in
set_option maxHeartbeats 4000000 in
theorem cj_range {g : GG} {t : va_W} {v m n : Nat} {f : Nat → Int32} (hn : n ≤ m) (hm : m ≤ 4000) (hf : sb_Fit f) : Ct g mJ7_copyOfRange_39247 4 1 4002 [.ref v, .int (0 : Int32), .int (nI n)] ((v, yA g m f) :: t) (Dq (fun (z : Nat × (Nat → Int32)) => some (.ref z.1)) (fun z => (z.1, yA g n z.2) :: (v, yA g m f) :: t) (fun z => sb_Fit z.2 ∧ ∀ j, j < n → z.2 j = f j)) := by
  refine Ct.ofR (by decide +kernel) rfl (Nat.le_of_ble_eq_true rfl) ?_
  show R g mJ7_copyOfRange_39247 4 1 4002 0 [(0, .ref v), (1, .int (0 : Int32)), (2, .int (nI n))] [] ((v, yA g m f) :: t) _
  refine r_iload_n 1 dJ7_copyOfRange_39247_0 rfl ?_
  refine r_if_ne (tgt := 10) dJ7_copyOfRange_39247_1 (by decide) (fun hc => absurd (by decide) hc) (fun _ => ?_)
  refine r_iload_n 2 dJ7_copyOfRange_39247_4 rfl ?_
  refine r_aload_n 0 dJ7_copyOfRange_39247_5 rfl ?_
  refine r_alenm (t := 2) (v := (nI m)) dJ7_copyOfRange_39247_6 rfl List.mem_cons_self (by rfl) ?_
  refine r_icmp_eq (tgt := 17) dJ7_copyOfRange_39247_7 (by decide) (fun hc => ?_) (fun hc => ?_)
  · have hnm : n = m := (nI_eq (by omega) (by omega)).mp hc
    subst hnm
    refine r_aload_n 0 dJ7_copyOfRange_39247_17 rfl ?_
    refine r_room (x2 := 0 + 1) (y2 := 0 + n) (by omega) (by omega) ?_
    refine r_cloneB (x := 0) (y := 0) 0 dJ7_copyOfRange_39247_18 dJ7_copyOfRange_39247_21 ⟨kk_1357, kk_1358, kk_1359, kk_1360, kk_1361, kn_1362, kk_1363⟩ rfl hf (Nat.le_of_ble_eq_true rfl) (by decide) (fun u => ?_)
    refine r_aret dJ7_copyOfRange_39247_24 rfl rfl (Or.inr ⟨_, rfl⟩) ?_
    exact Dq.mk (u, f) rfl rfl ⟨hf, fun _ _ => rfl⟩
  · refine r_aload_n 0 dJ7_copyOfRange_39247_10 rfl ?_
    refine r_iload_n 1 dJ7_copyOfRange_39247_11 rfl ?_
    refine r_iload_n 2 dJ7_copyOfRange_39247_12 rfl ?_
    refine k_S (x := 0) (y := 0) (rest := []) dJ7_copyOfRange_39247_13 ks_J7_339 (cj_rangeB hn hm hf) rfl rfl (Nat.le_of_ble_eq_true rfl) (by decide) (by decide) ?_
    rintro u -
    show R g mJ7_copyOfRange_39247 4 0 0 16 [(0, .ref v), (1, .int (0 : Int32)), (2, .int (nI n))] [.ref u] ((u, yA g n (va_cpy f (fun _ => 0) 0 0 n)) :: ((v, yA g m f) :: t)) _
    refine r_aret dJ7_copyOfRange_39247_16 rfl rfl (Or.inr ⟨_, rfl⟩) ?_
    exact Dq.mk (u, va_cpy f (fun _ => 0) 0 0 n) rfl rfl ⟨sb_fitC hf sb_fit0, fun j hj => (sb_cpy0 hj : va_cpy f (fun _ => 0) 0 0 n j = f j)⟩
set_option maxRecDepth 20000 in
set_option maxHeartbeats 4000000 in
theorem cj_str0 {g : GG} {t : va_W} {s a v m : Nat} {f : Nat → Int32} {L : List Int32} (hL : LB f L) (hlm : L.length ≤ m) (hm : m ≤ 4000) : Ct g mJ0_init_db425 5 1 4002 [.ref s, .ref a, .null] ((s, .inr (12, [.null, .int (0 : Int32), .int (0 : Int32), .int (0 : Int32)])) :: ((a, .inr (13, [.ref v, .int (0 : Int32), .int (0 : Int32), .int (nI L.length)])) :: ((v, yA g m f) :: t))) (Dq (fun (z : Nat × (Nat → Int32)) => none) (fun z => (s, .inr (12, [.ref z.1, .int (0 : Int32), .int (0 : Int32), .int (0 : Int32)])) :: (z.1, yA g L.length z.2) :: (a, .inr (13, [.ref v, .int (0 : Int32), .int (0 : Int32), .int (nI L.length)])) :: (v, yA g m f) :: t) (fun z => LB z.2 L)) := by
  refine Ct.ofR (by decide +kernel) rfl (Nat.le_of_ble_eq_true rfl) ?_
  show R g mJ0_init_db425 5 1 4002 0 [(0, .ref s), (1, .ref a), (2, .null)] [] ((s, .inr (12, [.null, .int (0 : Int32), .int (0 : Int32), .int (0 : Int32)])) :: ((a, .inr (13, [.ref v, .int (0 : Int32), .int (0 : Int32), .int (nI L.length)])) :: ((v, yA g m f) :: t))) _
  refine r_aload_n 0 dJ0_init_db425_0 rfl ?_
  refine r_objInit dJ0_init_db425_1 ko_J0_1 (Nat.le_of_ble_eq_true rfl) (by decide) ?_
  refine r_aload_n 1 dJ0_init_db425_4 rfl ?_
  refine r_seg (ws2 := ((a, .inr (13, [.ref v, .int (0 : Int32), .int (0 : Int32), .int (nI L.length)])) :: ((s, .inr (12, [.null, .int (0 : Int32), .int (0 : Int32), .int (0 : Int32)])) :: ((v, yA g m f) :: t)))) [[(s, .inr (12, [.null, .int (0 : Int32), .int (0 : Int32), .int (0 : Int32)]))], [(a, .inr (13, [.ref v, .int (0 : Int32), .int (0 : Int32), .int (nI L.length)]))], [(v, yA g m f)], t] [1, 0, 2, 3] rfl rfl rfl ?_
  refine k_U (x := 1) (y := 4002) (rest := []) 0 dJ0_init_db425_5 ku_J0_552 (cj_getV) rfl rfl rfl rfl (Nat.le_of_ble_eq_true rfl) (by decide) (by decide) ?_
  rintro ⟨⟩ -
  show R g mJ0_init_db425 5 1 4002 8 [(0, .ref s), (1, .ref a), (2, .null)] [.ref v] ((a, .inr (13, [.ref v, .int (0 : Int32), .int (0 : Int32), .int (nI L.length)])) :: ((s, .inr (12, [.null, .int (0 : Int32), .int (0 : Int32), .int (0 : Int32)])) :: ((v, yA g m f) :: t))) _
  refine r_astore_n [(3, .ref v), (0, .ref s), (1, .ref a), (2, .null)] dJ0_init_db425_8 (by decide) rfl ?_
  refine r_aload_n 2 dJ0_init_db425_9 rfl ?_
  refine k_U (x := 1) (y := 4002) (rest := []) 0 dJ0_init_db425_10 ku_J0_549 (cj_len) rfl rfl rfl rfl (Nat.le_of_ble_eq_true rfl) (by decide) (by decide) ?_
  rintro ⟨⟩ -
  show R g mJ0_init_db425 5 1 4002 13 [(3, .ref v), (0, .ref s), (1, .ref a), (2, .null)] [.int (nI L.length)] ((a, .inr (13, [.ref v, .int (0 : Int32), .int (0 : Int32), .int (nI L.length)])) :: ((s, .inr (12, [.null, .int (0 : Int32), .int (0 : Int32), .int (0 : Int32)])) :: ((v, yA g m f) :: t))) _
  refine r_istore [(4, .int (nI L.length)), (3, .ref v), (0, .ref s), (1, .ref a), (2, .null)] dJ0_init_db425_13 (by decide) rfl ?_
  refine r_aload_n 3 dJ0_init_db425_15 rfl ?_
  refine k_U (x := 1) (y := 4002) (rest := []) 0 dJ0_init_db425_16 ku_J0_1047 (cj_isL) rfl rfl rfl rfl (Nat.le_of_ble_eq_true rfl) (by decide) (by decide) ?_
  rintro ⟨⟩ -
  show R g mJ0_init_db425 5 1 4002 19 [(4, .int (nI L.length)), (3, .ref v), (0, .ref s), (1, .ref a), (2, .null)] [.int (1 : Int32)] ((a, .inr (13, [.ref v, .int (0 : Int32), .int (0 : Int32), .int (nI L.length)])) :: ((s, .inr (12, [.null, .int (0 : Int32), .int (0 : Int32), .int (0 : Int32)])) :: ((v, yA g m f) :: t))) _
  refine r_if_eq (tgt := 41) dJ0_init_db425_19 (by decide) (fun hc => absurd hc (by decide)) (fun _ => ?_)
  refine r_aload_n 2 dJ0_init_db425_22 rfl ?_
  refine r_iconst (v := (0 : Int32)) dJ0_init_db425_23 (by decide) ?_
  refine r_putF (ws2 := ((a, .inr (13, [.ref v, .int (0 : Int32), .int (0 : Int32), .int (nI L.length)])) :: ((s, .inr (12, [.null, .int (0 : Int32), .int (0 : Int32), .int (0 : Int32)])) :: ((v, yA g m f) :: t)))) 1 dJ0_init_db425_24 rfl ff_J0_15 rfl (Nat.le_of_ble_eq_true rfl) rfl rfl rfl ?_
  refine r_aload_n 2 dJ0_init_db425_27 rfl ?_
  refine r_aload_n 1 dJ0_init_db425_28 rfl ?_
  refine r_iconst (v := (0 : Int32)) dJ0_init_db425_29 (by decide) ?_
  refine r_iload 0 dJ0_init_db425_30 rfl ?_
  refine r_seg (ws2 := ((v, yA g m f) :: ((a, .inr (13, [.ref v, .int (0 : Int32), .int (0 : Int32), .int (nI L.length)])) :: ((s, .inr (12, [.null, .int (0 : Int32), .int (0 : Int32), .int (0 : Int32)])) :: t)))) [[(a, .inr (13, [.ref v, .int (0 : Int32), .int (0 : Int32), .int (nI L.length)]))], [(s, .inr (12, [.null, .int (0 : Int32), .int (0 : Int32), .int (0 : Int32)]))], [(v, yA g m f)], t] [2, 0, 1, 3] rfl rfl rfl ?_
  refine k_S (x := 0) (y := 0) (rest := [.ref s]) dJ0_init_db425_32 ks_J0_54 (cj_range hlm hm hL.1) rfl rfl (Nat.le_of_ble_eq_true rfl) (by decide) (by decide) ?_
  rintro ⟨b, fb⟩ ⟨h1, h2⟩
  try dsimp only at h1 h2
  show R g mJ0_init_db425 5 0 0 35 [(4, .int (nI L.length)), (3, .ref v), (0, .ref s), (1, .ref a), (2, .null)] [.ref b, .ref s] ((b, yA g L.length fb) :: ((v, yA g m f) :: ((a, .inr (13, [.ref v, .int (0 : Int32), .int (0 : Int32), .int (nI L.length)])) :: ((s, .inr (12, [.null, .int (0 : Int32), .int (0 : Int32), .int (0 : Int32)])) :: t)))) _
  refine r_putF (ws2 := ((b, yA g L.length fb) :: ((v, yA g m f) :: ((a, .inr (13, [.ref v, .int (0 : Int32), .int (0 : Int32), .int (nI L.length)])) :: ((s, .inr (12, [.ref b, .int (0 : Int32), .int (0 : Int32), .int (0 : Int32)])) :: t))))) 3 dJ0_init_db425_35 rfl ff_J0_9 rfl (Nat.le_of_ble_eq_true rfl) rfl rfl rfl ?_
  refine r_goto (tgt := 97) dJ0_init_db425_38 (by decide) ?_
  refine r_seg (ws2 := ((s, .inr (12, [.ref b, .int (0 : Int32), .int (0 : Int32), .int (0 : Int32)])) :: ((b, yA g L.length fb) :: ((a, .inr (13, [.ref v, .int (0 : Int32), .int (0 : Int32), .int (nI L.length)])) :: ((v, yA g m f) :: t))))) [[(b, yA g L.length fb)], [(v, yA g m f)], [(a, .inr (13, [.ref v, .int (0 : Int32), .int (0 : Int32), .int (nI L.length)]))], [(s, .inr (12, [.ref b, .int (0 : Int32), .int (0 : Int32), .int (0 : Int32)]))], t] [3, 0, 2, 1, 4] rfl rfl rfl ?_
  refine r_vret dJ0_init_db425_97 rfl ?_
  exact Dq.mk (b, fb) rfl rfl ⟨h1, fun j hj => (h2 j hj).trans (hL.2 j hj)⟩
set_option maxRecDepth 20000 in
set_option maxHeartbeats 4000000 in
theorem cj_str1 {g : GG} {t : va_W} {s a v m : Nat} {f : Nat → Int32} {L : List Int32} (hL : LB f L) (hlm : L.length ≤ m) (hm : m ≤ 4000) : Ct g mJ0_init_81219 6 1 4002 [.ref s, .ref a] ((s, .inr (12, [.null, .int (0 : Int32), .int (0 : Int32), .int (0 : Int32)])) :: ((a, .inr (13, [.ref v, .int (0 : Int32), .int (0 : Int32), .int (nI L.length)])) :: ((v, yA g m f) :: t))) (Dq (fun (z : Nat × (Nat → Int32)) => none) (fun z => (s, .inr (12, [.ref z.1, .int (0 : Int32), .int (0 : Int32), .int (0 : Int32)])) :: (z.1, yA g L.length z.2) :: (a, .inr (13, [.ref v, .int (0 : Int32), .int (0 : Int32), .int (nI L.length)])) :: (v, yA g m f) :: t) (fun z => LB z.2 L)) := by
  refine Ct.ofR (by decide +kernel) rfl (Nat.le_of_ble_eq_true rfl) ?_
  show R g mJ0_init_81219 6 1 4002 0 [(0, .ref s), (1, .ref a)] [] ((s, .inr (12, [.null, .int (0 : Int32), .int (0 : Int32), .int (0 : Int32)])) :: ((a, .inr (13, [.ref v, .int (0 : Int32), .int (0 : Int32), .int (nI L.length)])) :: ((v, yA g m f) :: t))) _
  refine r_aload_n 0 dJ0_init_81219_0 rfl ?_
  refine r_aload_n 1 dJ0_init_81219_1 rfl ?_
  refine r_null dJ0_init_81219_2 ?_
  refine k_I (x := 0) (y := 0) (rest := []) dJ0_init_81219_3 ki_J0_489 (cj_str0 hL hlm hm) rfl rfl (Nat.le_of_ble_eq_true rfl) (by decide) (by decide) ?_
  rintro ⟨b, fb⟩ h9
  try dsimp only at h9
  show R g mJ0_init_81219 6 0 0 6 [(0, .ref s), (1, .ref a)] [] ((s, .inr (12, [.ref b, .int (0 : Int32), .int (0 : Int32), .int (0 : Int32)])) :: ((b, yA g L.length fb) :: ((a, .inr (13, [.ref v, .int (0 : Int32), .int (0 : Int32), .int (nI L.length)])) :: ((v, yA g m f) :: t)))) _
  refine r_vret dJ0_init_81219_6 rfl ?_
  exact Dq.mk (b, fb) rfl rfl h9
set_option maxRecDepth 20000 in
set_option maxHeartbeats 4000000 in
theorem cj_toStr {g : GG} {t : va_W} {a v m : Nat} {f : Nat → Int32} {L : List Int32} (hL : LB f L) (hlm : L.length ≤ m) (hm : m ≤ 4000) : Ct g mJ4_toString_0e30d 7 2 4006 [.ref a] ((a, .inr (13, [.ref v, .int (0 : Int32), .int (0 : Int32), .int (nI L.length)])) :: ((v, yA g m f) :: t)) (Dq (fun (z : Nat × Nat × (Nat → Int32)) => some (.ref z.1)) (fun z => (z.1, .inr (12, [.ref z.2.1, .int (0 : Int32), .int (0 : Int32), .int (0 : Int32)])) :: (z.2.1, yA g L.length z.2.2) :: (a, .inr (13, [.ref v, .int (0 : Int32), .int (0 : Int32), .int (nI L.length)])) :: (v, yA g m f) :: t) (fun z => LB z.2.2 L)) := by
  refine Ct.ofR (by decide +kernel) rfl (Nat.le_of_ble_eq_true rfl) ?_
  show R g mJ4_toString_0e30d 7 2 4006 0 [(0, .ref a)] [] ((a, .inr (13, [.ref v, .int (0 : Int32), .int (0 : Int32), .int (nI L.length)])) :: ((v, yA g m f) :: t)) _
  refine r_new (N := 4) (x := 1) (y := 4002) dJ4_toString_0e30d_0 nl_J4_18 (fun q1 => ?_)
  refine r_dup dJ4_toString_0e30d_3 rfl ?_
  refine r_aload_n 0 dJ4_toString_0e30d_4 rfl ?_
  refine k_I (x := 0) (y := 0) (rest := [.ref q1]) dJ4_toString_0e30d_5 ki_J4_137 (cj_str1 hL hlm hm) rfl rfl (Nat.le_of_ble_eq_true rfl) (by decide) (by decide) ?_
  rintro ⟨b, fb⟩ h9
  try dsimp only at h9
  show R g mJ4_toString_0e30d 7 0 0 8 [(0, .ref a)] [.ref q1] ((q1, .inr (12, [.ref b, .int (0 : Int32), .int (0 : Int32), .int (0 : Int32)])) :: ((b, yA g L.length fb) :: ((a, .inr (13, [.ref v, .int (0 : Int32), .int (0 : Int32), .int (nI L.length)])) :: ((v, yA g m f) :: t)))) _
  refine r_aret dJ4_toString_0e30d_8 rfl rfl (Or.inr ⟨_, rfl⟩) ?_
  exact Dq.mk (q1, b, fb) rfl rfl h9
set_option maxRecDepth 20000 in
set_option maxHeartbeats 4000000 in
theorem cj_isLS {g : GG} {t : va_W} {s b n : Nat} {fb : Nat → Int32}  : Ct g mJ0_isLatin1_aae02 1 0 0 [.ref s] ((s, .inr (12, [.ref b, .int (0 : Int32), .int (0 : Int32), .int (0 : Int32)])) :: ((b, yA g n fb) :: t)) (Dq (fun (z : Unit) => some (.int (1 : Int32))) (fun z => ((s, .inr (12, [.ref b, .int (0 : Int32), .int (0 : Int32), .int (0 : Int32)])) :: ((b, yA g n fb) :: t))) (fun z => True)) := by
  refine Ct.ofR (by decide +kernel) rfl (Nat.le_of_ble_eq_true rfl) ?_
  show R g mJ0_isLatin1_aae02 1 0 0 0 [(0, .ref s)] [] ((s, .inr (12, [.ref b, .int (0 : Int32), .int (0 : Int32), .int (0 : Int32)])) :: ((b, yA g n fb) :: t)) _
  refine r_getC dJ0_isLatin1_aae02_0 kk_288 ?_
  refine r_if_eq (tgt := 17) dJ0_isLatin1_aae02_3 (by decide) (fun hc => absurd hc (by decide)) (fun _ => ?_)
  refine r_aload_n 0 dJ0_isLatin1_aae02_6 rfl ?_
  refine r_getf (v := .int (0 : Int32)) 0 dJ0_isLatin1_aae02_7 fl_J0_15 rfl rfl ?_
  refine r_if_ne (tgt := 17) dJ0_isLatin1_aae02_10 (by decide) (fun hc => absurd (by decide) hc) (fun _ => ?_)
  refine r_iconst (v := (1 : Int32)) dJ0_isLatin1_aae02_13 (by decide) ?_
  refine r_goto (tgt := 18) dJ0_isLatin1_aae02_14 (by decide) ?_
  refine r_zret dJ0_isLatin1_aae02_18 rfl (by decide) ?_
  exact Dq.mk () rfl rfl trivial
set_option maxRecDepth 20000 in
set_option maxHeartbeats 4000000 in
theorem cj_charAt1 {g : GG} {t : va_W} {b n i c : Nat} {fb : Nat → Int32} (hi : i < n) (hn : n ≤ 4000) (hc : fb i = nI c) (hc2 : c < 128) : Ct g mJ1_charAt_3b067 3 0 0 [.ref b, .int (nI i)] ((b, yA g n fb) :: t) (Dq (fun (z : Unit) => some (.int (nI c))) (fun z => (b, yA g n fb) :: t) (fun z => True)) := by
  refine Ct.ofR (by decide +kernel) rfl (Nat.le_of_ble_eq_true rfl) ?_
  show R g mJ1_charAt_3b067 3 0 0 0 [(0, .ref b), (1, .int (nI i))] [] ((b, yA g n fb) :: t) _
  refine r_iload_n 1 dJ1_charAt_3b067_0 rfl ?_
  refine r_aload_n 0 dJ1_charAt_3b067_1 rfl ?_
  refine r_alenm (t := 2) (v := (nI n)) dJ1_charAt_3b067_2 rfl List.mem_cons_self (by rfl) ?_
  refine k_S (x := 0) (y := 0) (rest := []) dJ1_charAt_3b067_3 ks_J1_9 ((ct_ckIdx (ckB_of hi (by omega))).dq) rfl rfl (Nat.le_of_ble_eq_true rfl) (by decide) (by decide) ?_
  rintro ⟨⟩ -
  show R g mJ1_charAt_3b067 3 0 0 6 [(0, .ref b), (1, .int (nI i))] [] ((b, yA g n fb) :: t) _
  refine r_aload_n 0 dJ1_charAt_3b067_6 rfl ?_
  refine r_iload_n 1 dJ1_charAt_3b067_7 rfl ?_
  refine r_baldm (n := n) (f := fb) dJ1_charAt_3b067_8 List.mem_cons_self (ib_nI hi (by omega)) ?_
  refine r_top (w := .int (nI c)) (by rw [nI_clamp (by omega), hc]) ?_
  refine r_sipush (v := (255 : Int32)) dJ1_charAt_3b067_9 (by decide) ?_
  refine r_iand dJ1_charAt_3b067_12 ?_
  refine r_top (w := .int (nI c)) (by rw [(asc_and c hc2).1]) ?_
  refine r_i2c dJ1_charAt_3b067_13 ?_
  refine r_top (w := .int (nI c)) (by rw [(asc_and c hc2).2]) ?_
  refine r_zret dJ1_charAt_3b067_14 rfl (pk_charN (by omega)).1 ?_
  exact Dq.mk () rfl rfl trivial
set_option maxRecDepth 20000 in
set_option maxHeartbeats 4000000 in
theorem cj_charAt {g : GG} {t : va_W} {s b n i c : Nat} {fb : Nat → Int32} (hi : i < n) (hn : n ≤ 4000) (hc : fb i = nI c) (hc2 : c < 128) : Ct g mJ0_charAt_5068e 4 0 0 [.ref s, .int (nI i)] ((s, .inr (12, [.ref b, .int (0 : Int32), .int (0 : Int32), .int (0 : Int32)])) :: ((b, yA g n fb) :: t)) (Dq (fun (z : Unit) => some (.int (nI c))) (fun z => ((s, .inr (12, [.ref b, .int (0 : Int32), .int (0 : Int32), .int (0 : Int32)])) :: ((b, yA g n fb) :: t))) (fun z => True)) := by
  refine Ct.ofR (by decide +kernel) rfl (Nat.le_of_ble_eq_true rfl) ?_
  show R g mJ0_charAt_5068e 4 0 0 0 [(0, .ref s), (1, .int (nI i))] [] ((s, .inr (12, [.ref b, .int (0 : Int32), .int (0 : Int32), .int (0 : Int32)])) :: ((b, yA g n fb) :: t)) _
  refine r_aload_n 0 dJ0_charAt_5068e_0 rfl ?_
  refine k_V (x := 0) (y := 0) (rest := []) 0 dJ0_charAt_5068e_1 kv_J0_492 (cj_isLS) rfl rfl rfl rfl (Nat.le_of_ble_eq_true rfl) (by decide) (by decide) ?_
  rintro ⟨⟩ -
  show R g mJ0_charAt_5068e 4 0 0 4 [(0, .ref s), (1, .int (nI i))] [.int (1 : Int32)] ((s, .inr (12, [.ref b, .int (0 : Int32), .int (0 : Int32), .int (0 : Int32)])) :: ((b, yA g n fb) :: t)) _
  refine r_if_eq (tgt := 16) dJ0_charAt_5068e_4 (by decide) (fun hc => absurd hc (by decide)) (fun _ => ?_)
  refine r_aload_n 0 dJ0_charAt_5068e_7 rfl ?_
  refine r_getf (v := .ref b) 0 dJ0_charAt_5068e_8 fl_J0_9 rfl rfl ?_
  refine r_iload_n 1 dJ0_charAt_5068e_11 rfl ?_
  refine r_seg (ws2 := ((b, yA g n fb) :: ((s, .inr (12, [.ref b, .int (0 : Int32), .int (0 : Int32), .int (0 : Int32)])) :: t))) [[(s, .inr (12, [.ref b, .int (0 : Int32), .int (0 : Int32), .int (0 : Int32)]))], [(b, yA g n fb)], t] [1, 0, 2] rfl rfl rfl ?_
  refine k_S (x := 0) (y := 0) (rest := []) dJ0_charAt_5068e_12 ks_J0_495 (cj_charAt1 hi hn hc hc2) rfl rfl (Nat.le_of_ble_eq_true rfl) (by decide) (by decide) ?_
  rintro ⟨⟩ -
  show R g mJ0_charAt_5068e 4 0 0 15 [(0, .ref s), (1, .int (nI i))] [.int (nI c)] ((b, yA g n fb) :: ((s, .inr (12, [.ref b, .int (0 : Int32), .int (0 : Int32), .int (0 : Int32)])) :: t)) _
  refine r_seg (ws2 := ((s, .inr (12, [.ref b, .int (0 : Int32), .int (0 : Int32), .int (0 : Int32)])) :: ((b, yA g n fb) :: t))) [[(b, yA g n fb)], [(s, .inr (12, [.ref b, .int (0 : Int32), .int (0 : Int32), .int (0 : Int32)]))], t] [1, 0, 2] rfl rfl rfl ?_
  refine r_zret dJ0_charAt_5068e_15 rfl (pk_charN (by omega)).1 ?_
  exact Dq.mk () rfl rfl trivial
