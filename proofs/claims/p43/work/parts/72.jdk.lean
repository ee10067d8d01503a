/-- what the bytes of a text hold -/
def LB (f : Nat → Int32) (L : List Int32) : Prop := sb_Fit f ∧ ∀ j, j < L.length → f j = L.getD j 0
theorem byt_ok : bytS.all (fun l => l.all (fun v => fits .byte (.int v))) = true := by decide +kernel
theorem byt_fit (j : Nat) : sb_Fit (fun i => (bytS.getD j []).getD i 0) := by
  intro i
  show fits .byte (.int ((bytS.getD j []).getD i 0)) = true
  by_cases hj : j < bytS.length
  · have h1 := List.all_eq_true.mp byt_ok (bytS.getD j []) (by rw [List.getD_eq_getElem?_getD, List.getElem?_eq_getElem hj]; exact List.getElem_mem _)
    by_cases hi : i < (bytS.getD j []).length
    · exact List.all_eq_true.mp h1 _ (by rw [List.getD_eq_getElem?_getD (l := bytS.getD j []), List.getElem?_eq_getElem hi]; exact List.getElem_mem _)
    · rw [List.getD_eq_getElem?_getD (l := bytS.getD j []), List.getElem?_eq_none (by omega)]
      rfl
  · rw [List.getD_eq_getElem?_getD (l := bytS), List.getElem?_eq_none (by omega)]
    rfl
theorem len_ok : ∀ j, j < 61 → lenS.getD j 0 = (bytS.getD j []).length := by decide +kernel
theorem len_sm : ∀ j, j < 61 → lenS.getD j 0 ≤ 200 := by decide +kernel
theorem mx_nI {a b : Nat} (ha : a < 2147483648) (hb : b < 2147483648) : f_J9_max_7cf53 (nI a) (nI b) = nI (max a b) := by
  unfold f_J9_max_7cf53
  by_cases h : b ≤ a
  · first | rw [if_pos (nI_le h ha), Nat.max_eq_left h] | (rw [if_neg (nI_nlt h ha), Nat.max_eq_left h]) | (simp [nI_le h ha, Nat.max_eq_left h])
  · first | rw [if_neg (nI_ge (by omega) hb), Nat.max_eq_right (by omega)] | (rw [if_pos (nI_lt (by omega) hb), Nat.max_eq_right (by omega)]) | (simp [nI_ge (show a < b by omega) hb, Nat.max_eq_right (show a ≤ b by omega)])
theorem mn_nI {a b : Nat} (ha : a < 2147483648) (hb : b < 2147483648) : f_J9_min_7cf53 (nI a) (nI b) = nI (min a b) := by
  unfold f_J9_min_7cf53
  by_cases h : a ≤ b
  · first | rw [if_pos (nI_le h hb), Nat.min_eq_left h] | (rw [if_neg (nI_nlt h hb), Nat.min_eq_left h]) | (simp [nI_le h hb, Nat.min_eq_left h])
  · first | rw [if_neg (nI_ge (by omega) ha), Nat.min_eq_right (by omega)] | (rw [if_pos (nI_lt (by omega) ha), Nat.min_eq_right (by omega)]) | (simp [nI_ge (show b < a by omega) ha, Nat.min_eq_right (show b ≤ a by omega)])
theorem soft {X : Nat} (h : X ≤ 100000) : ¬ (2147483639 : Int32) < nI X := by
  show ¬ nI 2147483639 < nI X
  exact nI_nlt (by omega) (by decide)
theorem soft2 {X : Nat} (h : X ≤ 100000) : ¬ nI X = (2147483647 : Int32) := by
  show ¬ nI X = nI 2147483647
  intro e
  have := (nI_eq (by omega) (by decide)).mp e
  omega
def capN (m q : Nat) : Nat := m + max (q - m) (m + 2)
theorem LB.app {f2 : Nat → Int32} {L L2 : List Int32} (hf : sb_Fit f2) (h1 : ∀ j, j < L.length → f2 j = L.getD j 0) (h2 : ∀ j, j < L2.length → f2 (L.length + j) = L2.getD j 0) : LB f2 (L ++ L2) := by
  refine ⟨hf, fun j hj => ?_⟩
  rw [List.length_append] at hj
  by_cases h : j < L.length
  · rw [h1 j h, List.getD_eq_getElem?_getD, List.getD_eq_getElem?_getD, List.getElem?_append_left h]
  · have e := h2 (j - L.length) (by omega)
    rw [show L.length + (j - L.length) = j by omega] at e
    rw [e, List.getD_eq_getElem?_getD, List.getD_eq_getElem?_getD, List.getElem?_append_right (by omega)]
theorem zclamp : (0 : Int32).toNatClampNeg = 0 := by decide
set_option maxRecDepth 20000 in
set_option maxHeartbeats 4000000 in
theorem cj_asb {g : GG} {t : va_W} {a : Nat}  : Ct g mJ5_init_d00df 2 1 16 [.ref a, .int (16 : Int32)] ((a, .inr (13, [.null, .int (0 : Int32), .int (0 : Int32), .int (0 : Int32)])) :: t) (Dq (fun (z : Nat) => none) (fun z => (a, .inr (13, [.ref z, .int (0 : Int32), .int (0 : Int32), .int (0 : Int32)])) :: (z, yA g 16 (fun _ => 0)) :: t) (fun z => True)) := by
  refine Ct.ofR (by decide +kernel) rfl (Nat.le_of_ble_eq_true rfl) ?_
  show R g mJ5_init_d00df 2 1 16 0 [(0, .ref a), (1, .int (16 : Int32))] [] ((a, .inr (13, [.null, .int (0 : Int32), .int (0 : Int32), .int (0 : Int32)])) :: t) _
  refine r_aload_n 0 dJ5_init_d00df_0 rfl ?_
  refine r_objInit dJ5_init_d00df_1 ko_J5_3 (Nat.le_of_ble_eq_true rfl) (by decide) ?_
  refine r_getC dJ5_init_d00df_4 kk_1373 ?_
  refine r_if_eq (tgt := 25) dJ5_init_d00df_7 (by decide) (fun hc => absurd hc (by decide)) (fun _ => ?_)
  refine r_aload_n 0 dJ5_init_d00df_10 rfl ?_
  refine r_iload_n 1 dJ5_init_d00df_11 rfl ?_
  refine r_newB (x := 0) (y := 0) (N := 16) dJ5_init_d00df_12 kk_373 (by decide) (by decide) (by decide) (fun q1 => ?_)
  refine r_putf (ws2 := ((q1, yA g 16 (fun _ => 0)) :: ((a, .inr (13, [.ref q1, .int (0 : Int32), .int (0 : Int32), .int (0 : Int32)])) :: t))) 1 dJ5_init_d00df_14 fl_J5_15 rfl (Nat.le_of_ble_eq_true rfl) rfl rfl rfl ?_
  refine r_aload_n 0 dJ5_init_d00df_17 rfl ?_
  refine r_iconst (v := (0 : Int32)) dJ5_init_d00df_18 (by decide) ?_
  refine r_putf (ws2 := ((q1, yA g 16 (fun _ => 0)) :: ((a, .inr (13, [.ref q1, .int (0 : Int32), .int (0 : Int32), .int (0 : Int32)])) :: t))) 1 dJ5_init_d00df_19 fl_J5_22 rfl (Nat.le_of_ble_eq_true rfl) rfl rfl rfl ?_
  refine r_goto (tgt := 38) dJ5_init_d00df_22 (by decide) ?_
  refine r_seg (ws2 := ((a, .inr (13, [.ref q1, .int (0 : Int32), .int (0 : Int32), .int (0 : Int32)])) :: ((q1, yA g 16 (fun _ => 0)) :: t))) [[(q1, yA g 16 (fun _ => 0))], [(a, .inr (13, [.ref q1, .int (0 : Int32), .int (0 : Int32), .int (0 : Int32)]))], t] [1, 0, 2] rfl rfl rfl ?_
  refine r_vret dJ5_init_d00df_38 rfl ?_
  exact Dq.mk q1 rfl rfl trivial
set_option maxRecDepth 20000 in
set_option maxHeartbeats 4000000 in
theorem cj_sb {g : GG} {t : va_W} {a : Nat}  : Ct g mJ4_init_da8c8 3 1 16 [.ref a] ((a, .inr (13, [.null, .int (0 : Int32), .int (0 : Int32), .int (0 : Int32)])) :: t) (Dq (fun (z : Nat) => none) (fun z => (a, .inr (13, [.ref z, .int (0 : Int32), .int (0 : Int32), .int (0 : Int32)])) :: (z, yA g 16 (fun _ => 0)) :: t) (fun z => True)) := by
  refine Ct.ofR (by decide +kernel) rfl (Nat.le_of_ble_eq_true rfl) ?_
  show R g mJ4_init_da8c8 3 1 16 0 [(0, .ref a)] [] ((a, .inr (13, [.null, .int (0 : Int32), .int (0 : Int32), .int (0 : Int32)])) :: t) _
  refine r_aload_n 0 dJ4_init_da8c8_0 rfl ?_
  refine r_bipush (v := (16 : Int32)) dJ4_init_da8c8_1 (by decide) ?_
  refine k_I (x := 0) (y := 0) (rest := []) dJ4_init_da8c8_3 ki_J4_1 (cj_asb) rfl rfl (Nat.le_of_ble_eq_true rfl) (by decide) (by decide) ?_
  rintro v -
  show R g mJ4_init_da8c8 3 0 0 6 [(0, .ref a)] [] ((a, .inr (13, [.ref v, .int (0 : Int32), .int (0 : Int32), .int (0 : Int32)])) :: ((v, yA g 16 (fun _ => 0)) :: t)) _
  refine r_vret dJ4_init_da8c8_6 rfl ?_
  exact Dq.mk v rfl rfl trivial
set_option maxRecDepth 20000 in
set_option maxHeartbeats 4000000 in
theorem cj_newLength {g : GG} {t : va_W} {m k p : Nat} (hm : m ≤ 10000) (hk : k ≤ 10000) (hp : p ≤ 10000) (h0 : 0 < p) : Ct g mJ8_newLength_cabcc 1 0 0 [.int (nI m), .int (nI k), .int (nI p)] t (Dq (fun (z : Unit) => some (.int (nI (m + max k p)))) (fun z => t) (fun z => True)) := by
  refine Ct.ofR (by decide +kernel) rfl (Nat.le_of_ble_eq_true rfl) ?_
  show R g mJ8_newLength_cabcc 1 0 0 0 [(0, .int (nI m)), (1, .int (nI k)), (2, .int (nI p))] [] t _
  have hx : max k p ≤ 10000 := by omega
  have hx0 : 0 < max k p := by omega
  refine r_iload_n 0 dJ8_newLength_cabcc_0 rfl ?_
  refine r_iload_n 1 dJ8_newLength_cabcc_1 rfl ?_
  refine r_iload_n 2 dJ8_newLength_cabcc_2 rfl ?_
  refine c_mmax (rest := [.int (nI m)]) dJ8_newLength_cabcc_3 ks_J8_194 (Nat.le_of_ble_eq_true rfl) (by decide) ?_
  refine r_top (w := .int (nI (max k p))) (by rw [mx_nI (by omega) (by omega)]) ?_
  refine r_iadd dJ8_newLength_cabcc_6 ?_
  refine r_top (w := .int (nI (m + max k p))) (by rw [nI_add]) ?_
  refine r_istore_n [(3, .int (nI (m + max k p))), (0, .int (nI m)), (1, .int (nI k)), (2, .int (nI p))] dJ8_newLength_cabcc_7 (by decide) rfl ?_
  refine r_iconst (v := (0 : Int32)) dJ8_newLength_cabcc_8 (by decide) ?_
  refine r_iload_n 0 dJ8_newLength_cabcc_9 rfl ?_
  refine r_icmp_ge (tgt := 21) dJ8_newLength_cabcc_10 (by decide) (fun hc => absurd hc (nI_nle (by omega) (by omega))) (fun _ => ?_)
  refine r_iload_n 0 dJ8_newLength_cabcc_13 rfl ?_
  refine r_ldc dJ8_newLength_cabcc_14 kk_1349 ?_
  refine r_icmp_gt (tgt := 21) dJ8_newLength_cabcc_16 (by decide) (fun hc => absurd hc (soft (by omega))) (fun _ => ?_)
  refine r_iload_n 0 dJ8_newLength_cabcc_19 rfl ?_
  refine r_iret dJ8_newLength_cabcc_20 rfl ?_
  exact Dq.mk () rfl rfl trivial
set_option maxRecDepth 20000 in
set_option maxHeartbeats 4000000 in
theorem cj_newCap {g : GG} {t : va_W} {a v m q : Nat} {c : Int32} {f : Nat → Int32} (hm : m ≤ 4000) (hq : q ≤ 4000) (hmq : m ≤ q) : Ct g mJ5_newCapacity_0f7a4 2 0 0 [.ref a, .int (nI q)] ((a, .inr (13, [.ref v, .int (0 : Int32), .int (0 : Int32), .int c])) :: ((v, yA g m f) :: t)) (Dq (fun (z : Unit) => some (.int (nI (capN m q)))) (fun z => (a, .inr (13, [.ref v, .int (0 : Int32), .int (0 : Int32), .int c])) :: (v, yA g m f) :: t) (fun z => True)) := by
  refine Ct.ofR (by decide +kernel) rfl (Nat.le_of_ble_eq_true rfl) ?_
  show R g mJ5_newCapacity_0f7a4 2 0 0 0 [(0, .ref a), (1, .int (nI q))] [] ((a, .inr (13, [.ref v, .int (0 : Int32), .int (0 : Int32), .int c])) :: ((v, yA g m f) :: t)) _
  have hx : capN m q ≤ 20000 := by unfold capN; omega
  refine r_aload_n 0 dJ5_newCapacity_0f7a4_0 rfl ?_
  refine r_getf (v := .ref v) 0 dJ5_newCapacity_0f7a4_1 fl_J5_15 rfl rfl ?_
  refine r_alenm (t := 2) (v := (nI m)) dJ5_newCapacity_0f7a4_4 rfl (List.mem_cons_of_mem _ List.mem_cons_self) (by rfl) ?_
  refine r_istore_n [(2, .int (nI m)), (0, .ref a), (1, .int (nI q))] dJ5_newCapacity_0f7a4_5 (by decide) rfl ?_
  refine r_iload_n 2 dJ5_newCapacity_0f7a4_6 rfl ?_
  refine r_aload_n 1 dJ5_newCapacity_0f7a4_7 rfl ?_
  refine r_getf (v := .int (0 : Int32)) 0 dJ5_newCapacity_0f7a4_8 fl_J5_22 rfl rfl ?_
  refine r_ishl dJ5_newCapacity_0f7a4_11 ?_
  refine r_top (w := .int (nI q)) (by rw [sb_shl0]) ?_
  refine r_istore_n [(3, .int (nI q)), (2, .int (nI m)), (0, .ref a), (1, .int (nI q))] dJ5_newCapacity_0f7a4_12 (by decide) rfl ?_
  refine r_iload_n 0 dJ5_newCapacity_0f7a4_13 rfl ?_
  refine r_iload_n 1 dJ5_newCapacity_0f7a4_14 rfl ?_
  refine r_isub dJ5_newCapacity_0f7a4_15 ?_
  refine r_top (w := .int (nI (q - m))) (by rw [pk_sub hmq]) ?_
  refine r_istore [(4, .int (nI (q - m))), (3, .int (nI q)), (2, .int (nI m)), (0, .ref a), (1, .int (nI q))] dJ5_newCapacity_0f7a4_16 (by decide) rfl ?_
  refine r_iload_n 2 dJ5_newCapacity_0f7a4_18 rfl ?_
  refine r_iload 0 dJ5_newCapacity_0f7a4_19 rfl ?_
  refine r_iload_n 2 dJ5_newCapacity_0f7a4_21 rfl ?_
  refine r_iconst (v := (2 : Int32)) dJ5_newCapacity_0f7a4_22 (by decide) ?_
  refine r_aload_n 3 dJ5_newCapacity_0f7a4_23 rfl ?_
  refine r_getf (v := .int (0 : Int32)) 0 dJ5_newCapacity_0f7a4_24 fl_J5_22 rfl rfl ?_
  refine r_ishl dJ5_newCapacity_0f7a4_27 ?_
  refine r_top (w := .int (2 : Int32)) (by rw [sb_shl0]) ?_
  refine r_iadd dJ5_newCapacity_0f7a4_28 ?_
  refine r_top (w := .int (nI (m + 2))) (by rw [show (2 : Int32) = nI 2 from rfl, nI_add]) ?_
  refine k_S (x := 0) (y := 0) (rest := []) dJ5_newCapacity_0f7a4_29 ks_J5_114 (cj_newLength (by omega) (by omega) (by omega) (by omega)) rfl rfl (Nat.le_of_ble_eq_true rfl) (by decide) (by decide) ?_
  rintro ⟨⟩ -
  show R g mJ5_newCapacity_0f7a4 2 0 0 32 [(4, .int (nI (q - m))), (3, .int (nI q)), (2, .int (nI m)), (0, .ref a), (1, .int (nI q))] [.int (nI (capN m q))] ((a, .inr (13, [.ref v, .int (0 : Int32), .int (0 : Int32), .int c])) :: ((v, yA g m f) :: t)) _
  refine r_istore [(5, .int (nI (capN m q))), (4, .int (nI (q - m))), (3, .int (nI q)), (2, .int (nI m)), (0, .ref a), (1, .int (nI q))] dJ5_newCapacity_0f7a4_32 (by decide) rfl ?_
  refine r_iload 0 dJ5_newCapacity_0f7a4_34 rfl ?_
  refine r_ldc dJ5_newCapacity_0f7a4_36 kk_1353 ?_
  refine r_icmp_ne (tgt := 51) dJ5_newCapacity_0f7a4_38 (by decide) (fun _ => ?_) (fun hc => absurd hc (soft2 (by omega)))
  refine r_iload 0 dJ5_newCapacity_0f7a4_51 rfl ?_
  refine r_aload_n 4 dJ5_newCapacity_0f7a4_53 rfl ?_
  refine r_getf (v := .int (0 : Int32)) 0 dJ5_newCapacity_0f7a4_54 fl_J5_22 rfl rfl ?_
  refine r_ishr dJ5_newCapacity_0f7a4_57 ?_
  refine r_top (w := .int (nI (capN m q))) (by rw [sb_shr0]) ?_
  refine r_iret dJ5_newCapacity_0f7a4_58 rfl ?_
  exact Dq.mk () rfl rfl trivial
set_option maxRecDepth 20000 in
set_option maxHeartbeats 4000000 in
theorem cj_copyOf {g : GG} {t : va_W} {v m q : Nat} {f : Nat → Int32} (hmq : m < q) (hq : q ≤ 4002) (hf : sb_Fit f) : Ct g mJ7_copyOf_9075b 3 1 4002 [.ref v, .int (nI q)] ((v, yA g m f) :: t) (Dq (fun (z : Nat) => some (.ref z)) (fun z => (z, yA g q (va_cpy f (fun _ => 0) 0 0 m)) :: (v, yA g m f) :: t) (fun z => True)) := by
  refine Ct.ofR (by decide +kernel) rfl (Nat.le_of_ble_eq_true rfl) ?_
  show R g mJ7_copyOf_9075b 3 1 4002 0 [(0, .ref v), (1, .int (nI q))] [] ((v, yA g m f) :: t) _
  refine r_iload_n 1 dJ7_copyOf_9075b_0 rfl ?_
  refine r_aload_n 0 dJ7_copyOf_9075b_1 rfl ?_
  refine r_alenm (t := 2) (v := (nI m)) dJ7_copyOf_9075b_2 rfl List.mem_cons_self (by rfl) ?_
  refine r_icmp_ne (tgt := 14) dJ7_copyOf_9075b_3 (by decide) (fun _ => ?_) (fun hc => absurd hc (fun e => by have := (nI_eq (by omega) (by omega)).mp e; omega))
  refine r_iload_n 1 dJ7_copyOf_9075b_14 rfl ?_
  refine r_room (x2 := 0 + 1) (y2 := 0 + q) (by omega) (by omega) ?_
  refine r_newB (x := 0) (y := 0) (N := q) dJ7_copyOf_9075b_15 kk_373 (nI_pos (by omega)) (nI_clamp (by omega)) (by omega) (fun u => ?_)
  refine r_astore_n [(2, .ref u), (0, .ref v), (1, .int (nI q))] dJ7_copyOf_9075b_17 (by decide) rfl ?_
  refine r_aload_n 1 dJ7_copyOf_9075b_18 rfl ?_
  refine r_iconst (v := (0 : Int32)) dJ7_copyOf_9075b_19 (by decide) ?_
  refine r_aload_n 0 dJ7_copyOf_9075b_20 rfl ?_
  refine r_iconst (v := (0 : Int32)) dJ7_copyOf_9075b_21 (by decide) ?_
  refine r_aload_n 1 dJ7_copyOf_9075b_22 rfl ?_
  refine r_alenm (t := 2) (v := (nI m)) dJ7_copyOf_9075b_23 rfl (List.mem_cons_of_mem _ List.mem_cons_self) (by rfl) ?_
  refine r_iload_n 2 dJ7_copyOf_9075b_24 rfl ?_
  refine c_mmin (rest := [.int (0 : Int32), .ref u, .int (0 : Int32), .ref v]) dJ7_copyOf_9075b_25 ks_J7_304 (Nat.le_of_ble_eq_true rfl) (by decide) ?_
  refine r_top (w := .int (nI m)) (by rw [mn_nI (by omega) (by omega), Nat.min_eq_left (by omega)]) ?_
  refine r_copyB (ws2 := ((u, yA g q (va_cpy f (fun _ => 0) (0 : Int32).toNatClampNeg (0 : Int32).toNatClampNeg (nI m).toNatClampNeg)) :: ((v, yA g m f) :: t))) 1 0 dJ7_copyOf_9075b_28 ⟨kk_1365, kk_1367, kk_1366, kk_77⟩ rfl rfl (by decide) (by decide) (nI_pos (by omega)) (by rw [zclamp, nI_clamp (by omega)]; omega) (by rw [zclamp, nI_clamp (by omega)]; omega) hf (Nat.le_of_ble_eq_true rfl) (by decide) rfl ?_
  refine r_aload_n 0 dJ7_copyOf_9075b_31 rfl ?_
  refine r_aret dJ7_copyOf_9075b_32 rfl rfl (Or.inr ⟨_, rfl⟩) ?_
  exact Dq.mk u rfl (by rw [zclamp, nI_clamp (by omega)]) trivial
set_option maxRecDepth 20000 in
set_option maxHeartbeats 4000000 in
theorem cj_ens {g : GG} {t : va_W} {a v m q : Nat} {c : Int32} {f : Nat → Int32} (hm : m ≤ 4000) (hq : q ≤ 2000) (hf : sb_Fit f) : Ct g mJ5_ensureCapacityInternal_d00df 4 1 4002 [.ref a, .int (nI q)] ((a, .inr (13, [.ref v, .int (0 : Int32), .int (0 : Int32), .int c])) :: ((v, yA g m f) :: t)) (Dq (fun (z : Nat × Nat × (Nat → Int32)) => none) (fun z => (a, .inr (13, [.ref z.1, .int (0 : Int32), .int (0 : Int32), .int c])) :: (z.1, yA g z.2.1 z.2.2) :: t) (fun z => q ≤ z.2.1 ∧ z.2.1 ≤ 4000 ∧ sb_Fit z.2.2 ∧ ∀ j, j < m → z.2.2 j = f j)) := by
  refine Ct.ofR (by decide +kernel) rfl (Nat.le_of_ble_eq_true rfl) ?_
  show R g mJ5_ensureCapacityInternal_d00df 4 1 4002 0 [(0, .ref a), (1, .int (nI q))] [] ((a, .inr (13, [.ref v, .int (0 : Int32), .int (0 : Int32), .int c])) :: ((v, yA g m f) :: t)) _
  refine r_aload_n 0 dJ5_ensureCapacityInternal_d00df_0 rfl ?_
  refine r_getf (v := .ref v) 0 dJ5_ensureCapacityInternal_d00df_1 fl_J5_15 rfl rfl ?_
  refine r_alenm (t := 2) (v := (nI m)) dJ5_ensureCapacityInternal_d00df_4 rfl (List.mem_cons_of_mem _ List.mem_cons_self) (by rfl) ?_
  refine r_aload_n 0 dJ5_ensureCapacityInternal_d00df_5 rfl ?_
  refine r_getf (v := .int (0 : Int32)) 0 dJ5_ensureCapacityInternal_d00df_6 fl_J5_22 rfl rfl ?_
  refine r_ishr dJ5_ensureCapacityInternal_d00df_9 ?_
  refine r_top (w := .int (nI m)) (by rw [sb_shr0]) ?_
  refine r_istore_n [(2, .int (nI m)), (0, .ref a), (1, .int (nI q))] dJ5_ensureCapacityInternal_d00df_10 (by decide) rfl ?_
  refine r_iload_n 2 dJ5_ensureCapacityInternal_d00df_11 rfl ?_
  refine r_iload_n 0 dJ5_ensureCapacityInternal_d00df_12 rfl ?_
  refine r_isub dJ5_ensureCapacityInternal_d00df_13 ?_
  have e1 : (nI q - nI m).toInt = (q : Int) - m := pk_sub_toInt (by omega) (by omega)
  refine r_if_le (tgt := 38) dJ5_ensureCapacityInternal_d00df_14 (by decide) (fun hc => ?_) (fun hc => ?_)
  · have hmq : q ≤ m := by rw [Int32.le_iff_toInt_le, e1, Int32.toInt_zero] at hc; omega
    refine r_vret dJ5_ensureCapacityInternal_d00df_38 rfl ?_
    exact Dq.mk (v, m, f) rfl rfl ⟨hmq, hm, hf, fun _ _ => rfl⟩
  · have hmq : m < q := by rw [Int32.le_iff_toInt_le, e1, Int32.toInt_zero] at hc; omega
    have hcp : capN m q ≤ 4000 ∧ q ≤ capN m q ∧ m < capN m q := by unfold capN; omega
    refine r_aload_n 1 dJ5_ensureCapacityInternal_d00df_17 rfl ?_
    refine r_aload_n 1 dJ5_ensureCapacityInternal_d00df_18 rfl ?_
    refine r_getf (v := .ref v) 0 dJ5_ensureCapacityInternal_d00df_19 fl_J5_15 rfl rfl ?_
    refine r_aload_n 1 dJ5_ensureCapacityInternal_d00df_22 rfl ?_
    refine r_iload_n 2 dJ5_ensureCapacityInternal_d00df_23 rfl ?_
    refine k_U (x := 1) (y := 4002) (rest := [.ref v, .ref a]) 0 dJ5_ensureCapacityInternal_d00df_24 ku_J5_104 (cj_newCap (by omega) (by omega) (by omega)) rfl rfl rfl rfl (Nat.le_of_ble_eq_true rfl) (by decide) (by decide) ?_
    rintro ⟨⟩ -
    show R g mJ5_ensureCapacityInternal_d00df 4 1 4002 27 [(2, .int (nI m)), (0, .ref a), (1, .int (nI q))] [.int (nI (capN m q)), .ref v, .ref a] ((a, .inr (13, [.ref v, .int (0 : Int32), .int (0 : Int32), .int c])) :: ((v, yA g m f) :: t)) _
    refine r_aload_n 1 dJ5_ensureCapacityInternal_d00df_27 rfl ?_
    refine r_getf (v := .int (0 : Int32)) 0 dJ5_ensureCapacityInternal_d00df_28 fl_J5_22 rfl rfl ?_
    refine r_ishl dJ5_ensureCapacityInternal_d00df_31 ?_
    refine r_top (w := .int (nI (capN m q))) (by rw [sb_shl0]) ?_
    refine r_seg (ws2 := ((v, yA g m f) :: ((a, .inr (13, [.ref v, .int (0 : Int32), .int (0 : Int32), .int c])) :: t))) [[(a, .inr (13, [.ref v, .int (0 : Int32), .int (0 : Int32), .int c]))], [(v, yA g m f)], t] [1, 0, 2] rfl rfl rfl ?_
    refine k_S (x := 0) (y := 0) (rest := [.ref a]) dJ5_ensureCapacityInternal_d00df_32 ks_J5_108 (cj_copyOf hcp.2.2 (by omega) hf) rfl rfl (Nat.le_of_ble_eq_true rfl) (by decide) (by decide) ?_
    rintro u -
    show R g mJ5_ensureCapacityInternal_d00df 4 0 0 35 [(2, .int (nI m)), (0, .ref a), (1, .int (nI q))] [.ref u, .ref a] ((u, yA g (capN m q) (va_cpy f (fun _ => 0) 0 0 m)) :: ((v, yA g m f) :: ((a, .inr (13, [.ref v, .int (0 : Int32), .int (0 : Int32), .int c])) :: t))) _
    refine r_putf (ws2 := ((u, yA g (capN m q) (va_cpy f (fun _ => 0) 0 0 m)) :: ((v, yA g m f) :: ((a, .inr (13, [.ref u, .int (0 : Int32), .int (0 : Int32), .int c])) :: t)))) 2 dJ5_ensureCapacityInternal_d00df_35 fl_J5_15 rfl (Nat.le_of_ble_eq_true rfl) rfl rfl rfl ?_
    refine r_seg (ws2 := ((a, .inr (13, [.ref u, .int (0 : Int32), .int (0 : Int32), .int c])) :: ((u, yA g (capN m q) (va_cpy f (fun _ => 0) 0 0 m)) :: t))) [[(u, yA g (capN m q) (va_cpy f (fun _ => 0) 0 0 m))], [(v, yA g m f)], [(a, .inr (13, [.ref u, .int (0 : Int32), .int (0 : Int32), .int c]))], t] [2, 0, 3] rfl rfl rfl ?_
    refine r_vret dJ5_ensureCapacityInternal_d00df_38 rfl ?_
    exact Dq.mk (u, capN m q, va_cpy f (fun _ => 0) 0 0 m) rfl rfl ⟨hcp.2.1, hcp.1, sb_fitC hf sb_fit0, fun j hj => (sb_cpy0 hj : va_cpy f (fun _ => 0) 0 0 m j = f j)⟩
set_option maxRecDepth 20000 in
set_option maxHeartbeats 4000000 in
theorem cj_coderK {g : GG} {t : va_W} {i : Nat} (hi : i < 61) : Ct g mJ0_coder_7d493 1 0 0 [.ref (gK g i)] t (Dq (fun (z : Unit) => some (.int (0 : Int32))) (fun z => t) (fun z => True)) := by
  refine Ct.ofR (by decide +kernel) rfl (Nat.le_of_ble_eq_true rfl) ?_
  show R g mJ0_coder_7d493 1 0 0 0 [(0, .ref (gK g i))] [] t _
  refine r_getC dJ0_coder_7d493_0 kk_288 ?_
  refine r_if_eq (tgt := 13) dJ0_coder_7d493_3 (by decide) (fun hc => absurd hc (by decide)) (fun _ => ?_)
  refine r_aload_n 0 dJ0_coder_7d493_6 rfl ?_
  refine r_getKc hi dJ0_coder_7d493_7 kk_1531 ?_
  refine r_goto (tgt := 14) dJ0_coder_7d493_10 (by decide) ?_
  refine r_zret dJ0_coder_7d493_14 rfl (by decide) ?_
  exact Dq.mk () rfl rfl trivial
set_option maxRecDepth 20000 in
set_option maxHeartbeats 4000000 in
theorem cj_lengthK {g : GG} {t : va_W} {i : Nat} (hi : i < 61) : Ct g mJ0_length_8abf5 2 0 0 [.ref (gK g i)] t (Dq (fun (z : Unit) => some (.int (nI (lenS.getD i 0)))) (fun z => t) (fun z => True)) := by
  refine Ct.ofR (by decide +kernel) rfl (Nat.le_of_ble_eq_true rfl) ?_
  show R g mJ0_length_8abf5 2 0 0 0 [(0, .ref (gK g i))] [] t _
  refine r_aload_n 0 dJ0_length_8abf5_0 rfl ?_
  refine r_getKv hi dJ0_length_8abf5_1 kk_1530 ?_
  refine r_alenV hi dJ0_length_8abf5_4 ?_
  refine r_aload_n 0 dJ0_length_8abf5_5 rfl ?_
  refine k_K (x := 0) (y := 0) (rest := [.int (Int32.ofNat (lenS.getD i 0))]) dJ0_length_8abf5_6 kv_J0_335 rfl hi (cj_coderK hi) rfl rfl (Nat.le_of_ble_eq_true rfl) (by decide) (by decide) ?_
  rintro ⟨⟩ -
  show R g mJ0_length_8abf5 2 0 0 9 [(0, .ref (gK g i))] [.int (0 : Int32), .int (Int32.ofNat (lenS.getD i 0))] t _
  refine r_ishr dJ0_length_8abf5_9 ?_
  refine r_top (w := .int (nI (lenS.getD i 0))) (by rw [sb_shr0]; rfl) ?_
  refine r_iret dJ0_length_8abf5_10 rfl ?_
  exact Dq.mk () rfl rfl trivial
set_option maxRecDepth 20000 in
set_option maxHeartbeats 4000000 in
theorem cj_inflK {g : GG} {t : va_W} {i : Nat} {a v : Nat} {c : Int32} (hi : i < 61) : Ct g mJ5_inflateIfNeededFor_a7421 2 0 0 [.ref a, .ref (gK g i)] ((a, .inr (13, [.ref v, .int (0 : Int32), .int (0 : Int32), .int c])) :: t) (Dq (fun (z : Unit) => none) (fun z => (a, .inr (13, [.ref v, .int (0 : Int32), .int (0 : Int32), .int c])) :: t) (fun z => True)) := by
  refine Ct.ofR (by decide +kernel) rfl (Nat.le_of_ble_eq_true rfl) ?_
  show R g mJ5_inflateIfNeededFor_a7421 2 0 0 0 [(0, .ref a), (1, .ref (gK g i))] [] ((a, .inr (13, [.ref v, .int (0 : Int32), .int (0 : Int32), .int c])) :: t) _
  refine r_getC dJ5_inflateIfNeededFor_a7421_0 kk_1373 ?_
  refine r_if_eq (tgt := 21) dJ5_inflateIfNeededFor_a7421_3 (by decide) (fun hc => absurd hc (by decide)) (fun _ => ?_)
  refine r_aload_n 0 dJ5_inflateIfNeededFor_a7421_6 rfl ?_
  refine r_getf (v := .int (0 : Int32)) 0 dJ5_inflateIfNeededFor_a7421_7 fl_J5_22 rfl rfl ?_
  refine r_aload_n 1 dJ5_inflateIfNeededFor_a7421_10 rfl ?_
  refine k_K (x := 0) (y := 0) (rest := [.int (0 : Int32)]) dJ5_inflateIfNeededFor_a7421_11 kv_J5_40 rfl hi (cj_coderK hi) rfl rfl (Nat.le_of_ble_eq_true rfl) (by decide) (by decide) ?_
  rintro ⟨⟩ -
  show R g mJ5_inflateIfNeededFor_a7421 2 0 0 14 [(0, .ref a), (1, .ref (gK g i))] [.int (0 : Int32), .int (0 : Int32)] ((a, .inr (13, [.ref v, .int (0 : Int32), .int (0 : Int32), .int c])) :: t) _
  refine r_icmp_eq (tgt := 21) dJ5_inflateIfNeededFor_a7421_14 (by decide) (fun _ => ?_) (fun hc => absurd (by decide) hc)
  refine r_vret dJ5_inflateIfNeededFor_a7421_21 rfl ?_
  exact Dq.mk () rfl rfl trivial
set_option maxRecDepth 20000 in
set_option maxHeartbeats 4000000 in
theorem cj_getBytesK {g : GG} {t : va_W} {i : Nat} {u m p : Nat} {f : Nat → Int32} (hi : i < 61) (hp : p + (lenS.getD i 0) ≤ m) (hm : m ≤ 4000) : Ct g mJ0_getBytes_840e7 3 0 0 [.ref (gK g i), .ref u, .int (nI p), .int (0 : Int32)] ((u, yA g m f) :: t) (Dq (fun (z : Unit) => none) (fun z => (u, yA g m (va_cpy (fun j => (bytS.getD i []).getD j 0) f 0 p (lenS.getD i 0))) :: t) (fun z => True)) := by
  refine Ct.ofR (by decide +kernel) rfl (Nat.le_of_ble_eq_true rfl) ?_
  show R g mJ0_getBytes_840e7 3 0 0 0 [(0, .ref (gK g i)), (1, .ref u), (2, .int (nI p)), (3, .int (0 : Int32))] [] ((u, yA g m f) :: t) _
  refine r_aload_n 0 dJ0_getBytes_840e7_0 rfl ?_
  refine k_K (x := 0) (y := 0) (rest := []) dJ0_getBytes_840e7_1 kv_J0_335 rfl hi (cj_coderK hi) rfl rfl (Nat.le_of_ble_eq_true rfl) (by decide) (by decide) ?_
  rintro ⟨⟩ -
  show R g mJ0_getBytes_840e7 3 0 0 4 [(0, .ref (gK g i)), (1, .ref u), (2, .int (nI p)), (3, .int (0 : Int32))] [.int (0 : Int32)] ((u, yA g m f) :: t) _
  refine r_iload_n 3 dJ0_getBytes_840e7_4 rfl ?_
  refine r_icmp_ne (tgt := 28) dJ0_getBytes_840e7_5 (by decide) (fun hc => absurd (by decide) hc) (fun _ => ?_)
  refine r_aload_n 0 dJ0_getBytes_840e7_8 rfl ?_
  refine r_getKv hi dJ0_getBytes_840e7_9 kk_1530 ?_
  refine r_iconst (v := (0 : Int32)) dJ0_getBytes_840e7_12 (by decide) ?_
  refine r_aload_n 1 dJ0_getBytes_840e7_13 rfl ?_
  refine r_iload_n 2 dJ0_getBytes_840e7_14 rfl ?_
  refine r_iload_n 3 dJ0_getBytes_840e7_15 rfl ?_
  refine r_ishl dJ0_getBytes_840e7_16 ?_
  refine r_top (w := .int (nI p)) (by rw [sb_shl0]) ?_
  refine r_aload_n 0 dJ0_getBytes_840e7_17 rfl ?_
  refine r_getKv hi dJ0_getBytes_840e7_18 kk_1530 ?_
  refine r_alenV hi dJ0_getBytes_840e7_21 ?_
  refine r_top (w := .int (nI (lenS.getD i 0))) (rfl) ?_
  have hl9 := len_sm i hi
  refine r_copyK (ws2 := ((u, yA g m (va_cpy (fun j => (bytS.getD i []).getD j 0) f (0 : Int32).toNatClampNeg (nI p).toNatClampNeg (nI (lenS.getD i 0)).toNatClampNeg)) :: t)) 0 hi dJ0_getBytes_840e7_22 ⟨kk_1420, kk_1367, kk_1366, kk_77⟩ rfl (by decide) (nI_pos (by omega)) (nI_pos (by omega)) (by rw [zclamp, nI_clamp (by omega)]; omega) (by rw [nI_clamp (n := p) (by omega), nI_clamp (by omega)]; omega) (byt_fit i) (Nat.le_of_ble_eq_true rfl) (by decide) rfl ?_
  refine r_goto (tgt := 43) dJ0_getBytes_840e7_25 (by decide) ?_
  refine r_vret dJ0_getBytes_840e7_43 rfl ?_
  exact Dq.mk () rfl (by rw [zclamp, nI_clamp (n := p) (by omega), nI_clamp (by omega)]) trivial
set_option maxRecDepth 20000 in
set_option maxHeartbeats 4000000 in
theorem cj_putStrK {g : GG} {t : va_W} {i : Nat} {a v m p : Nat} {c : Int32} {f : Nat → Int32} (hi : i < 61) (hp : p + (lenS.getD i 0) ≤ m) (hm : m ≤ 4000) : Ct g mJ5_putStringAt_47b60 4 0 0 [.ref a, .int (nI p), .ref (gK g i)] ((a, .inr (13, [.ref v, .int (0 : Int32), .int (0 : Int32), .int c])) :: ((v, yA g m f) :: t)) (Dq (fun (z : Unit) => none) (fun z => (a, .inr (13, [.ref v, .int (0 : Int32), .int (0 : Int32), .int c])) :: (v, yA g m (va_cpy (fun j => (bytS.getD i []).getD j 0) f 0 p (lenS.getD i 0))) :: t) (fun z => True)) := by
  refine Ct.ofR (by decide +kernel) rfl (Nat.le_of_ble_eq_true rfl) ?_
  show R g mJ5_putStringAt_47b60 4 0 0 0 [(0, .ref a), (1, .int (nI p)), (2, .ref (gK g i))] [] ((a, .inr (13, [.ref v, .int (0 : Int32), .int (0 : Int32), .int c])) :: ((v, yA g m f) :: t)) _
  refine r_aload_n 0 dJ5_putStringAt_47b60_0 rfl ?_
  refine r_aload_n 2 dJ5_putStringAt_47b60_1 rfl ?_
  refine k_U (x := 0) (y := 0) (rest := []) 0 dJ5_putStringAt_47b60_2 ku_J5_397 (cj_inflK hi) rfl rfl rfl rfl (Nat.le_of_ble_eq_true rfl) (by decide) (by decide) ?_
  rintro ⟨⟩ -
  show R g mJ5_putStringAt_47b60 4 0 0 5 [(0, .ref a), (1, .int (nI p)), (2, .ref (gK g i))] [] ((a, .inr (13, [.ref v, .int (0 : Int32), .int (0 : Int32), .int c])) :: ((v, yA g m f) :: t)) _
  refine r_aload_n 2 dJ5_putStringAt_47b60_5 rfl ?_
  refine r_aload_n 0 dJ5_putStringAt_47b60_6 rfl ?_
  refine r_getf (v := .ref v) 0 dJ5_putStringAt_47b60_7 fl_J5_15 rfl rfl ?_
  refine r_iload_n 1 dJ5_putStringAt_47b60_10 rfl ?_
  refine r_aload_n 0 dJ5_putStringAt_47b60_11 rfl ?_
  refine r_getf (v := .int (0 : Int32)) 0 dJ5_putStringAt_47b60_12 fl_J5_22 rfl rfl ?_
  refine r_seg (ws2 := ((v, yA g m f) :: ((a, .inr (13, [.ref v, .int (0 : Int32), .int (0 : Int32), .int c])) :: t))) [[(a, .inr (13, [.ref v, .int (0 : Int32), .int (0 : Int32), .int c]))], [(v, yA g m f)], t] [1, 0, 2] rfl rfl rfl ?_
  refine k_K (x := 0) (y := 0) (rest := []) dJ5_putStringAt_47b60_15 kv_J5_399 rfl hi (cj_getBytesK hi hp hm) rfl rfl (Nat.le_of_ble_eq_true rfl) (by decide) (by decide) ?_
  rintro ⟨⟩ -
  show R g mJ5_putStringAt_47b60 4 0 0 18 [(0, .ref a), (1, .int (nI p)), (2, .ref (gK g i))] [] ((v, yA g m (va_cpy (fun j => (bytS.getD i []).getD j 0) f 0 p (lenS.getD i 0))) :: ((a, .inr (13, [.ref v, .int (0 : Int32), .int (0 : Int32), .int c])) :: t)) _
  refine r_seg (ws2 := ((a, .inr (13, [.ref v, .int (0 : Int32), .int (0 : Int32), .int c])) :: ((v, yA g m (va_cpy (fun j => (bytS.getD i []).getD j 0) f 0 p (lenS.getD i 0))) :: t))) [[(v, yA g m (va_cpy (fun j => (bytS.getD i []).getD j 0) f 0 p (lenS.getD i 0)))], [(a, .inr (13, [.ref v, .int (0 : Int32), .int (0 : Int32), .int c]))], t] [1, 0, 2] rfl rfl rfl ?_
  refine r_vret dJ5_putStringAt_47b60_18 rfl ?_
  exact Dq.mk () rfl rfl trivial
set_option maxRecDepth 20000 in
set_option maxHeartbeats 4000000 in
theorem cj_append0K {g : GG} {t : va_W} {i : Nat} {a v m : Nat} {f : Nat → Int32} {L : List Int32} (hi : i < 61) (hL : LB f L) (hlm : L.length ≤ m) (hm : m ≤ 4000) (hq : L.length + (lenS.getD i 0) ≤ 2000) : Ct g mJ5_append_cf1ce 5 1 4002 [.ref a, .ref (gK g i)] ((a, .inr (13, [.ref v, .int (0 : Int32), .int (0 : Int32), .int (nI L.length)])) :: ((v, yA g m f) :: t)) (Dq (fun (z : Nat × Nat × (Nat → Int32)) => some (.ref a)) (fun z => (a, .inr (13, [.ref z.1, .int (0 : Int32), .int (0 : Int32), .int (nI (L.length + (lenS.getD i 0)))])) :: (z.1, yA g z.2.1 z.2.2) :: t) (fun z => LB z.2.2 (L ++ bytS.getD i []) ∧ (L ++ bytS.getD i []).length ≤ z.2.1 ∧ z.2.1 ≤ 4000)) := by
  refine Ct.ofR (by decide +kernel) rfl (Nat.le_of_ble_eq_true rfl) ?_
  show R g mJ5_append_cf1ce 5 1 4002 0 [(0, .ref a), (1, .ref (gK g i))] [] ((a, .inr (13, [.ref v, .int (0 : Int32), .int (0 : Int32), .int (nI L.length)])) :: ((v, yA g m f) :: t)) _
  refine r_aload_n 1 dJ5_append_cf1ce_0 rfl ?_
  refine r_ifnonnull (tgt := 9) dJ5_append_cf1ce_1 (by decide) ?_
  refine r_aload_n 1 dJ5_append_cf1ce_9 rfl ?_
  refine k_K (x := 1) (y := 4002) (rest := []) dJ5_append_cf1ce_10 kv_J5_32 rfl hi (cj_lengthK hi) rfl rfl (Nat.le_of_ble_eq_true rfl) (by decide) (by decide) ?_
  rintro ⟨⟩ -
  show R g mJ5_append_cf1ce 5 1 4002 13 [(0, .ref a), (1, .ref (gK g i))] [.int (nI (lenS.getD i 0))] ((a, .inr (13, [.ref v, .int (0 : Int32), .int (0 : Int32), .int (nI L.length)])) :: ((v, yA g m f) :: t)) _
  refine r_istore_n [(2, .int (nI (lenS.getD i 0))), (0, .ref a), (1, .ref (gK g i))] dJ5_append_cf1ce_13 (by decide) rfl ?_
  refine r_aload_n 1 dJ5_append_cf1ce_14 rfl ?_
  refine r_aload_n 1 dJ5_append_cf1ce_15 rfl ?_
  refine r_getf (v := .int (nI L.length)) 0 dJ5_append_cf1ce_16 fl_J5_79 rfl rfl ?_
  refine r_iload_n 0 dJ5_append_cf1ce_19 rfl ?_
  refine r_iadd dJ5_append_cf1ce_20 ?_
  refine r_top (w := .int (nI (L.length + (lenS.getD i 0)))) (by rw [nI_add]) ?_
  refine k_U (x := 0) (y := 0) (rest := []) 0 dJ5_append_cf1ce_21 ku_J5_100 (cj_ens hm hq hL.1) rfl rfl rfl rfl (Nat.le_of_ble_eq_true rfl) (by decide) (by decide) ?_
  rintro ⟨v2, m2, f2⟩ ⟨h1, h2, h3, h4⟩
  try dsimp only at h1 h2 h3 h4
  show R g mJ5_append_cf1ce 5 0 0 24 [(2, .int (nI (lenS.getD i 0))), (0, .ref a), (1, .ref (gK g i))] [] ((a, .inr (13, [.ref v2, .int (0 : Int32), .int (0 : Int32), .int (nI L.length)])) :: ((v2, yA g m2 f2) :: t)) _
  have hl9 := len_sm i hi
  refine r_aload_n 1 dJ5_append_cf1ce_24 rfl ?_
  refine r_aload_n 1 dJ5_append_cf1ce_25 rfl ?_
  refine r_getf (v := .int (nI L.length)) 0 dJ5_append_cf1ce_26 fl_J5_79 rfl rfl ?_
  refine r_aload_n 2 dJ5_append_cf1ce_29 rfl ?_
  refine k_U (x := 0) (y := 0) (rest := []) 0 dJ5_append_cf1ce_30 ku_J5_208 (cj_putStrK hi h1 h2) rfl rfl rfl rfl (Nat.le_of_ble_eq_true rfl) (by decide) (by decide) ?_
  rintro ⟨⟩ -
  show R g mJ5_append_cf1ce 5 0 0 33 [(2, .int (nI (lenS.getD i 0))), (0, .ref a), (1, .ref (gK g i))] [] ((a, .inr (13, [.ref v2, .int (0 : Int32), .int (0 : Int32), .int (nI L.length)])) :: ((v2, yA g m2 (va_cpy (fun j => (bytS.getD i []).getD j 0) f2 0 L.length (lenS.getD i 0))) :: t)) _
  refine r_aload_n 1 dJ5_append_cf1ce_33 rfl ?_
  refine r_dup dJ5_append_cf1ce_34 rfl ?_
  refine r_getf (v := .int (nI L.length)) 0 dJ5_append_cf1ce_35 fl_J5_79 rfl rfl ?_
  refine r_iload_n 0 dJ5_append_cf1ce_38 rfl ?_
  refine r_iadd dJ5_append_cf1ce_39 ?_
  refine r_top (w := .int (nI (L.length + (lenS.getD i 0)))) (by rw [nI_add]) ?_
  refine r_putf (ws2 := ((a, .inr (13, [.ref v2, .int (0 : Int32), .int (0 : Int32), .int (nI (L.length + (lenS.getD i 0)))])) :: ((v2, yA g m2 (va_cpy (fun j => (bytS.getD i []).getD j 0) f2 0 L.length (lenS.getD i 0))) :: t))) 0 dJ5_append_cf1ce_40 fl_J5_79 rfl (Nat.le_of_ble_eq_true rfl) rfl rfl rfl ?_
  refine r_aload_n 1 dJ5_append_cf1ce_43 rfl ?_
  have hl : (bytS.getD i []).length = (lenS.getD i 0) := (len_ok i hi).symm
  refine r_aret dJ5_append_cf1ce_44 rfl rfl (Or.inr ⟨_, rfl⟩) ?_
  refine Dq.mk (v2, m2, va_cpy (fun j => (bytS.getD i []).getD j 0) f2 0 L.length (lenS.getD i 0)) rfl rfl ⟨LB.app (sb_fitC (byt_fit i) h3) (fun j hj => ?_) (fun j hj => ?_), by rw [List.length_append, hl]; exact h1, h2⟩
  · show va_cpy (fun j => (bytS.getD i []).getD j 0) f2 0 L.length (lenS.getD i 0) j = _
    rw [pk_cpy_out (Or.inl hj), h4 j (by omega)]
    exact hL.2 j hj
  · show va_cpy (fun j => (bytS.getD i []).getD j 0) f2 0 L.length (lenS.getD i 0) (L.length + j) = _
    rw [pk_cpy_in (by omega) (by omega), show 0 + (L.length + j - L.length) = j by omega]
    try rfl
set_option maxRecDepth 20000 in
set_option maxHeartbeats 4000000 in
theorem cj_appendK {g : GG} {t : va_W} {i : Nat} {a v m : Nat} {f : Nat → Int32} {L : List Int32} (hi : i < 61) (hL : LB f L) (hlm : L.length ≤ m) (hm : m ≤ 4000) (hq : L.length + (lenS.getD i 0) ≤ 2000) : Ct g mJ4_append_15ec4 6 1 4002 [.ref a, .ref (gK g i)] ((a, .inr (13, [.ref v, .int (0 : Int32), .int (0 : Int32), .int (nI L.length)])) :: ((v, yA g m f) :: t)) (Dq (fun (z : Nat × Nat × (Nat → Int32)) => some (.ref a)) (fun z => (a, .inr (13, [.ref z.1, .int (0 : Int32), .int (0 : Int32), .int (nI (L.length + (lenS.getD i 0)))])) :: (z.1, yA g z.2.1 z.2.2) :: t) (fun z => LB z.2.2 (L ++ bytS.getD i []) ∧ (L ++ bytS.getD i []).length ≤ z.2.1 ∧ z.2.1 ≤ 4000)) := by
  refine Ct.ofR (by decide +kernel) rfl (Nat.le_of_ble_eq_true rfl) ?_
  show R g mJ4_append_15ec4 6 1 4002 0 [(0, .ref a), (1, .ref (gK g i))] [] ((a, .inr (13, [.ref v, .int (0 : Int32), .int (0 : Int32), .int (nI L.length)])) :: ((v, yA g m f) :: t)) _
  refine r_aload_n 0 dJ4_append_15ec4_0 rfl ?_
  refine r_aload_n 1 dJ4_append_15ec4_1 rfl ?_
  refine k_SU (x := 0) (y := 0) (rest := []) 0 dJ4_append_15ec4_2 ksu_J4_29 (cj_append0K hi hL hlm hm hq) rfl rfl rfl rfl (Nat.le_of_ble_eq_true rfl) (by decide) (by decide) ?_
  rintro ⟨v2, m2, f2⟩ h9
  try dsimp only at h9
  show R g mJ4_append_15ec4 6 0 0 5 [(0, .ref a), (1, .ref (gK g i))] [.ref a] ((a, .inr (13, [.ref v2, .int (0 : Int32), .int (0 : Int32), .int (nI (L.length + (lenS.getD i 0)))])) :: ((v2, yA g m2 f2) :: t)) _
  refine r_pop dJ4_append_15ec4_5 rfl ?_
  refine r_aload_n 0 dJ4_append_15ec4_6 rfl ?_
  refine r_aret dJ4_append_15ec4_7 rfl rfl (Or.inr ⟨_, rfl⟩) ?_
  exact Dq.mk (v2, m2, f2) rfl rfl h9
set_option maxRecDepth 20000 in
set_option maxHeartbeats 4000000 in
theorem cj_coderS {g : GG} {t : va_W} {s b n : Nat} {fb : Nat → Int32}  : Ct g mJ0_coder_7d493 1 0 0 [.ref s] ((s, .inr (12, [.ref b, .int (0 : Int32), .int (0 : Int32), .int (0 : Int32)])) :: ((b, yA g n fb) :: t)) (Dq (fun (z : Unit) => some (.int (0 : Int32))) (fun z => (s, .inr (12, [.ref b, .int (0 : Int32), .int (0 : Int32), .int (0 : Int32)])) :: (b, yA g n fb) :: t) (fun z => True)) := by
  refine Ct.ofR (by decide +kernel) rfl (Nat.le_of_ble_eq_true rfl) ?_
  show R g mJ0_coder_7d493 1 0 0 0 [(0, .ref s)] [] ((s, .inr (12, [.ref b, .int (0 : Int32), .int (0 : Int32), .int (0 : Int32)])) :: ((b, yA g n fb) :: t)) _
  refine r_getC dJ0_coder_7d493_0 kk_288 ?_
  refine r_if_eq (tgt := 13) dJ0_coder_7d493_3 (by decide) (fun hc => absurd hc (by decide)) (fun _ => ?_)
  refine r_aload_n 0 dJ0_coder_7d493_6 rfl ?_
  refine r_getf (v := .int (0 : Int32)) 0 dJ0_coder_7d493_7 fl_J0_15 rfl rfl ?_
  refine r_goto (tgt := 14) dJ0_coder_7d493_10 (by decide) ?_
  refine r_zret dJ0_coder_7d493_14 rfl (by decide) ?_
  exact Dq.mk () rfl rfl trivial
set_option maxRecDepth 20000 in
set_option maxHeartbeats 4000000 in
theorem cj_lengthS {g : GG} {t : va_W} {s b n : Nat} {fb : Nat → Int32}  : Ct g mJ0_length_8abf5 2 0 0 [.ref s] ((s, .inr (12, [.ref b, .int (0 : Int32), .int (0 : Int32), .int (0 : Int32)])) :: ((b, yA g n fb) :: t)) (Dq (fun (z : Unit) => some (.int (nI n))) (fun z => (s, .inr (12, [.ref b, .int (0 : Int32), .int (0 : Int32), .int (0 : Int32)])) :: (b, yA g n fb) :: t) (fun z => True)) := by
  refine Ct.ofR (by decide +kernel) rfl (Nat.le_of_ble_eq_true rfl) ?_
  show R g mJ0_length_8abf5 2 0 0 0 [(0, .ref s)] [] ((s, .inr (12, [.ref b, .int (0 : Int32), .int (0 : Int32), .int (0 : Int32)])) :: ((b, yA g n fb) :: t)) _
  refine r_aload_n 0 dJ0_length_8abf5_0 rfl ?_
  refine r_getf (v := .ref b) 0 dJ0_length_8abf5_1 fl_J0_9 rfl rfl ?_
  refine r_alenm (t := 2) (v := (nI n)) dJ0_length_8abf5_4 rfl (List.mem_cons_of_mem _ List.mem_cons_self) (by rfl) ?_
  refine r_aload_n 0 dJ0_length_8abf5_5 rfl ?_
  refine k_V (x := 0) (y := 0) (rest := [.int (nI n)]) 0 dJ0_length_8abf5_6 kv_J0_335 (cj_coderS ) rfl rfl rfl rfl (Nat.le_of_ble_eq_true rfl) (by decide) (by decide) ?_
  rintro ⟨⟩ -
  show R g mJ0_length_8abf5 2 0 0 9 [(0, .ref s)] [.int (0 : Int32), .int (nI n)] ((s, .inr (12, [.ref b, .int (0 : Int32), .int (0 : Int32), .int (0 : Int32)])) :: ((b, yA g n fb) :: t)) _
  refine r_ishr dJ0_length_8abf5_9 ?_
  refine r_top (w := .int (nI n)) (by rw [sb_shr0]) ?_
  refine r_iret dJ0_length_8abf5_10 rfl ?_
  exact Dq.mk () rfl rfl trivial
set_option maxRecDepth 20000 in
set_option maxHeartbeats 4000000 in
theorem cj_inflS {g : GG} {t : va_W} {s b n : Nat} {fb : Nat → Int32} {a v : Nat} {c : Int32}  : Ct g mJ5_inflateIfNeededFor_a7421 2 0 0 [.ref a, .ref s] ((a, .inr (13, [.ref v, .int (0 : Int32), .int (0 : Int32), .int c])) :: ((s, .inr (12, [.ref b, .int (0 : Int32), .int (0 : Int32), .int (0 : Int32)])) :: ((b, yA g n fb) :: t))) (Dq (fun (z : Unit) => none) (fun z => (a, .inr (13, [.ref v, .int (0 : Int32), .int (0 : Int32), .int c])) :: (s, .inr (12, [.ref b, .int (0 : Int32), .int (0 : Int32), .int (0 : Int32)])) :: (b, yA g n fb) :: t) (fun z => True)) := by
  refine Ct.ofR (by decide +kernel) rfl (Nat.le_of_ble_eq_true rfl) ?_
  show R g mJ5_inflateIfNeededFor_a7421 2 0 0 0 [(0, .ref a), (1, .ref s)] [] ((a, .inr (13, [.ref v, .int (0 : Int32), .int (0 : Int32), .int c])) :: ((s, .inr (12, [.ref b, .int (0 : Int32), .int (0 : Int32), .int (0 : Int32)])) :: ((b, yA g n fb) :: t))) _
  refine r_getC dJ5_inflateIfNeededFor_a7421_0 kk_1373 ?_
  refine r_if_eq (tgt := 21) dJ5_inflateIfNeededFor_a7421_3 (by decide) (fun hc => absurd hc (by decide)) (fun _ => ?_)
  refine r_aload_n 0 dJ5_inflateIfNeededFor_a7421_6 rfl ?_
  refine r_getf (v := .int (0 : Int32)) 0 dJ5_inflateIfNeededFor_a7421_7 fl_J5_22 rfl rfl ?_
  refine r_aload_n 1 dJ5_inflateIfNeededFor_a7421_10 rfl ?_
  refine r_seg (ws2 := ((s, .inr (12, [.ref b, .int (0 : Int32), .int (0 : Int32), .int (0 : Int32)])) :: ((b, yA g n fb) :: ((a, .inr (13, [.ref v, .int (0 : Int32), .int (0 : Int32), .int c])) :: t)))) [[(a, .inr (13, [.ref v, .int (0 : Int32), .int (0 : Int32), .int c]))], [(s, .inr (12, [.ref b, .int (0 : Int32), .int (0 : Int32), .int (0 : Int32)]))], [(b, yA g n fb)], t] [1, 2, 0, 3] rfl rfl rfl ?_
  refine k_V (x := 0) (y := 0) (rest := [.int (0 : Int32)]) 0 dJ5_inflateIfNeededFor_a7421_11 kv_J5_40 (cj_coderS ) rfl rfl rfl rfl (Nat.le_of_ble_eq_true rfl) (by decide) (by decide) ?_
  rintro ⟨⟩ -
  show R g mJ5_inflateIfNeededFor_a7421 2 0 0 14 [(0, .ref a), (1, .ref s)] [.int (0 : Int32), .int (0 : Int32)] ((s, .inr (12, [.ref b, .int (0 : Int32), .int (0 : Int32), .int (0 : Int32)])) :: ((b, yA g n fb) :: ((a, .inr (13, [.ref v, .int (0 : Int32), .int (0 : Int32), .int c])) :: t))) _
  refine r_icmp_eq (tgt := 21) dJ5_inflateIfNeededFor_a7421_14 (by decide) (fun _ => ?_) (fun hc => absurd (by decide) hc)
  refine r_seg (ws2 := ((a, .inr (13, [.ref v, .int (0 : Int32), .int (0 : Int32), .int c])) :: ((s, .inr (12, [.ref b, .int (0 : Int32), .int (0 : Int32), .int (0 : Int32)])) :: ((b, yA g n fb) :: t)))) [[(s, .inr (12, [.ref b, .int (0 : Int32), .int (0 : Int32), .int (0 : Int32)]))], [(b, yA g n fb)], [(a, .inr (13, [.ref v, .int (0 : Int32), .int (0 : Int32), .int c]))], t] [2, 0, 1, 3] rfl rfl rfl ?_
  refine r_vret dJ5_inflateIfNeededFor_a7421_21 rfl ?_
  exact Dq.mk () rfl rfl trivial
set_option maxRecDepth 20000 in
set_option maxHeartbeats 4000000 in
theorem cj_getBytesS {g : GG} {t : va_W} {s b n : Nat} {fb : Nat → Int32} {u m p : Nat} {f : Nat → Int32}  (hp : p + n ≤ m) (hm : m ≤ 4000) (hfb : sb_Fit fb) : Ct g mJ0_getBytes_840e7 3 0 0 [.ref s, .ref u, .int (nI p), .int (0 : Int32)] ((u, yA g m f) :: ((s, .inr (12, [.ref b, .int (0 : Int32), .int (0 : Int32), .int (0 : Int32)])) :: ((b, yA g n fb) :: t))) (Dq (fun (z : Unit) => none) (fun z => (u, yA g m (va_cpy fb f 0 p n)) :: (s, .inr (12, [.ref b, .int (0 : Int32), .int (0 : Int32), .int (0 : Int32)])) :: (b, yA g n fb) :: t) (fun z => True)) := by
  refine Ct.ofR (by decide +kernel) rfl (Nat.le_of_ble_eq_true rfl) ?_
  show R g mJ0_getBytes_840e7 3 0 0 0 [(0, .ref s), (1, .ref u), (2, .int (nI p)), (3, .int (0 : Int32))] [] ((u, yA g m f) :: ((s, .inr (12, [.ref b, .int (0 : Int32), .int (0 : Int32), .int (0 : Int32)])) :: ((b, yA g n fb) :: t))) _
  refine r_aload_n 0 dJ0_getBytes_840e7_0 rfl ?_
  refine r_seg (ws2 := ((s, .inr (12, [.ref b, .int (0 : Int32), .int (0 : Int32), .int (0 : Int32)])) :: ((b, yA g n fb) :: ((u, yA g m f) :: t)))) [[(u, yA g m f)], [(s, .inr (12, [.ref b, .int (0 : Int32), .int (0 : Int32), .int (0 : Int32)]))], [(b, yA g n fb)], t] [1, 2, 0, 3] rfl rfl rfl ?_
  refine k_V (x := 0) (y := 0) (rest := []) 0 dJ0_getBytes_840e7_1 kv_J0_335 (cj_coderS ) rfl rfl rfl rfl (Nat.le_of_ble_eq_true rfl) (by decide) (by decide) ?_
  rintro ⟨⟩ -
  show R g mJ0_getBytes_840e7 3 0 0 4 [(0, .ref s), (1, .ref u), (2, .int (nI p)), (3, .int (0 : Int32))] [.int (0 : Int32)] ((s, .inr (12, [.ref b, .int (0 : Int32), .int (0 : Int32), .int (0 : Int32)])) :: ((b, yA g n fb) :: ((u, yA g m f) :: t))) _
  refine r_iload_n 3 dJ0_getBytes_840e7_4 rfl ?_
  refine r_icmp_ne (tgt := 28) dJ0_getBytes_840e7_5 (by decide) (fun hc => absurd (by decide) hc) (fun _ => ?_)
  refine r_aload_n 0 dJ0_getBytes_840e7_8 rfl ?_
  refine r_getf (v := .ref b) 0 dJ0_getBytes_840e7_9 fl_J0_9 rfl rfl ?_
  refine r_iconst (v := (0 : Int32)) dJ0_getBytes_840e7_12 (by decide) ?_
  refine r_aload_n 1 dJ0_getBytes_840e7_13 rfl ?_
  refine r_iload_n 2 dJ0_getBytes_840e7_14 rfl ?_
  refine r_iload_n 3 dJ0_getBytes_840e7_15 rfl ?_
  refine r_ishl dJ0_getBytes_840e7_16 ?_
  refine r_top (w := .int (nI p)) (by rw [sb_shl0]) ?_
  refine r_aload_n 0 dJ0_getBytes_840e7_17 rfl ?_
  refine r_getf (v := .ref b) 0 dJ0_getBytes_840e7_18 fl_J0_9 rfl rfl ?_
  refine r_alenm (t := 2) (v := (nI n)) dJ0_getBytes_840e7_21 rfl (List.mem_cons_of_mem _ List.mem_cons_self) (by rfl) ?_
  refine r_copyB (ws2 := ((s, .inr (12, [.ref b, .int (0 : Int32), .int (0 : Int32), .int (0 : Int32)])) :: ((b, yA g n fb) :: ((u, yA g m (va_cpy fb f (0 : Int32).toNatClampNeg (nI p).toNatClampNeg (nI n).toNatClampNeg)) :: t)))) 1 2 dJ0_getBytes_840e7_22 ⟨kk_1420, kk_1367, kk_1366, kk_77⟩ rfl rfl (by decide) (nI_pos (by omega)) (nI_pos (by omega)) (by rw [zclamp, nI_clamp (by omega)]; omega) (by rw [nI_clamp (n := p) (by omega), nI_clamp (by omega)]; omega) hfb (Nat.le_of_ble_eq_true rfl) (by decide) rfl ?_
  refine r_goto (tgt := 43) dJ0_getBytes_840e7_25 (by decide) ?_
  refine r_seg (ws2 := ((u, yA g m (va_cpy fb f (0 : Int32).toNatClampNeg (nI p).toNatClampNeg (nI n).toNatClampNeg)) :: ((s, .inr (12, [.ref b, .int (0 : Int32), .int (0 : Int32), .int (0 : Int32)])) :: ((b, yA g n fb) :: t)))) [[(s, .inr (12, [.ref b, .int (0 : Int32), .int (0 : Int32), .int (0 : Int32)]))], [(b, yA g n fb)], [(u, yA g m (va_cpy fb f (0 : Int32).toNatClampNeg (nI p).toNatClampNeg (nI n).toNatClampNeg))], t] [2, 0, 1, 3] rfl rfl rfl ?_
  refine r_vret dJ0_getBytes_840e7_43 rfl ?_
  exact Dq.mk () rfl (by rw [zclamp, nI_clamp (n := p) (by omega), nI_clamp (by omega)]) trivial
set_option maxRecDepth 20000 in
set_option maxHeartbeats 4000000 in
theorem cj_putStrS {g : GG} {t : va_W} {s b n : Nat} {fb : Nat → Int32} {a v m p : Nat} {c : Int32} {f : Nat → Int32}  (hp : p + n ≤ m) (hm : m ≤ 4000) (hfb : sb_Fit fb) : Ct g mJ5_putStringAt_47b60 4 0 0 [.ref a, .int (nI p), .ref s] ((a, .inr (13, [.ref v, .int (0 : Int32), .int (0 : Int32), .int c])) :: ((v, yA g m f) :: ((s, .inr (12, [.ref b, .int (0 : Int32), .int (0 : Int32), .int (0 : Int32)])) :: ((b, yA g n fb) :: t)))) (Dq (fun (z : Unit) => none) (fun z => (a, .inr (13, [.ref v, .int (0 : Int32), .int (0 : Int32), .int c])) :: (v, yA g m (va_cpy fb f 0 p n)) :: (s, .inr (12, [.ref b, .int (0 : Int32), .int (0 : Int32), .int (0 : Int32)])) :: (b, yA g n fb) :: t) (fun z => True)) := by
  refine Ct.ofR (by decide +kernel) rfl (Nat.le_of_ble_eq_true rfl) ?_
  show R g mJ5_putStringAt_47b60 4 0 0 0 [(0, .ref a), (1, .int (nI p)), (2, .ref s)] [] ((a, .inr (13, [.ref v, .int (0 : Int32), .int (0 : Int32), .int c])) :: ((v, yA g m f) :: ((s, .inr (12, [.ref b, .int (0 : Int32), .int (0 : Int32), .int (0 : Int32)])) :: ((b, yA g n fb) :: t)))) _
  refine r_aload_n 0 dJ5_putStringAt_47b60_0 rfl ?_
  refine r_aload_n 2 dJ5_putStringAt_47b60_1 rfl ?_
  refine r_seg (ws2 := ((a, .inr (13, [.ref v, .int (0 : Int32), .int (0 : Int32), .int c])) :: ((s, .inr (12, [.ref b, .int (0 : Int32), .int (0 : Int32), .int (0 : Int32)])) :: ((b, yA g n fb) :: ((v, yA g m f) :: t))))) [[(a, .inr (13, [.ref v, .int (0 : Int32), .int (0 : Int32), .int c]))], [(v, yA g m f)], [(s, .inr (12, [.ref b, .int (0 : Int32), .int (0 : Int32), .int (0 : Int32)]))], [(b, yA g n fb)], t] [0, 2, 3, 1, 4] rfl rfl rfl ?_
  refine k_U (x := 0) (y := 0) (rest := []) 0 dJ5_putStringAt_47b60_2 ku_J5_397 (cj_inflS ) rfl rfl rfl rfl (Nat.le_of_ble_eq_true rfl) (by decide) (by decide) ?_
  rintro ⟨⟩ -
  show R g mJ5_putStringAt_47b60 4 0 0 5 [(0, .ref a), (1, .int (nI p)), (2, .ref s)] [] ((a, .inr (13, [.ref v, .int (0 : Int32), .int (0 : Int32), .int c])) :: ((s, .inr (12, [.ref b, .int (0 : Int32), .int (0 : Int32), .int (0 : Int32)])) :: ((b, yA g n fb) :: ((v, yA g m f) :: t)))) _
  refine r_aload_n 2 dJ5_putStringAt_47b60_5 rfl ?_
  refine r_aload_n 0 dJ5_putStringAt_47b60_6 rfl ?_
  refine r_getf (v := .ref v) 0 dJ5_putStringAt_47b60_7 fl_J5_15 rfl rfl ?_
  refine r_iload_n 1 dJ5_putStringAt_47b60_10 rfl ?_
  refine r_aload_n 0 dJ5_putStringAt_47b60_11 rfl ?_
  refine r_getf (v := .int (0 : Int32)) 0 dJ5_putStringAt_47b60_12 fl_J5_22 rfl rfl ?_
  refine r_seg (ws2 := ((v, yA g m f) :: ((s, .inr (12, [.ref b, .int (0 : Int32), .int (0 : Int32), .int (0 : Int32)])) :: ((b, yA g n fb) :: ((a, .inr (13, [.ref v, .int (0 : Int32), .int (0 : Int32), .int c])) :: t))))) [[(a, .inr (13, [.ref v, .int (0 : Int32), .int (0 : Int32), .int c]))], [(s, .inr (12, [.ref b, .int (0 : Int32), .int (0 : Int32), .int (0 : Int32)]))], [(b, yA g n fb)], [(v, yA g m f)], t] [3, 1, 2, 0, 4] rfl rfl rfl ?_
  refine k_V (x := 0) (y := 0) (rest := []) 1 dJ5_putStringAt_47b60_15 kv_J5_399 (cj_getBytesS  hp hm hfb) rfl rfl rfl rfl (Nat.le_of_ble_eq_true rfl) (by decide) (by decide) ?_
  rintro ⟨⟩ -
  show R g mJ5_putStringAt_47b60 4 0 0 18 [(0, .ref a), (1, .int (nI p)), (2, .ref s)] [] ((v, yA g m (va_cpy fb f 0 p n)) :: ((s, .inr (12, [.ref b, .int (0 : Int32), .int (0 : Int32), .int (0 : Int32)])) :: ((b, yA g n fb) :: ((a, .inr (13, [.ref v, .int (0 : Int32), .int (0 : Int32), .int c])) :: t)))) _
  refine r_seg (ws2 := ((a, .inr (13, [.ref v, .int (0 : Int32), .int (0 : Int32), .int c])) :: ((v, yA g m (va_cpy fb f 0 p n)) :: ((s, .inr (12, [.ref b, .int (0 : Int32), .int (0 : Int32), .int (0 : Int32)])) :: ((b, yA g n fb) :: t))))) [[(v, yA g m (va_cpy fb f 0 p n))], [(s, .inr (12, [.ref b, .int (0 : Int32), .int (0 : Int32), .int (0 : Int32)]))], [(b, yA g n fb)], [(a, .inr (13, [.ref v, .int (0 : Int32), .int (0 : Int32), .int c]))], t] [3, 0, 1, 2, 4] rfl rfl rfl ?_
  refine r_vret dJ5_putStringAt_47b60_18 rfl ?_
  exact Dq.mk () rfl rfl trivial
set_option maxRecDepth 20000 in
set_option maxHeartbeats 4000000 in
theorem cj_append0S {g : GG} {t : va_W} {s b n : Nat} {fb : Nat → Int32} {a v m : Nat} {f : Nat → Int32} {L L2 : List Int32}  (hL : LB f L) (hlm : L.length ≤ m) (hm : m ≤ 4000) (hq : L.length + n ≤ 2000) (hL2 : LB fb L2) (hn : L2.length = n) : Ct g mJ5_append_cf1ce 5 1 4002 [.ref a, .ref s] ((a, .inr (13, [.ref v, .int (0 : Int32), .int (0 : Int32), .int (nI L.length)])) :: ((v, yA g m f) :: ((s, .inr (12, [.ref b, .int (0 : Int32), .int (0 : Int32), .int (0 : Int32)])) :: ((b, yA g n fb) :: t)))) (Dq (fun (z : Nat × Nat × (Nat → Int32)) => some (.ref a)) (fun z => (a, .inr (13, [.ref z.1, .int (0 : Int32), .int (0 : Int32), .int (nI (L.length + n))])) :: (z.1, yA g z.2.1 z.2.2) :: (s, .inr (12, [.ref b, .int (0 : Int32), .int (0 : Int32), .int (0 : Int32)])) :: (b, yA g n fb) :: t) (fun z => LB z.2.2 (L ++ L2) ∧ (L ++ L2).length ≤ z.2.1 ∧ z.2.1 ≤ 4000)) := by
  refine Ct.ofR (by decide +kernel) rfl (Nat.le_of_ble_eq_true rfl) ?_
  show R g mJ5_append_cf1ce 5 1 4002 0 [(0, .ref a), (1, .ref s)] [] ((a, .inr (13, [.ref v, .int (0 : Int32), .int (0 : Int32), .int (nI L.length)])) :: ((v, yA g m f) :: ((s, .inr (12, [.ref b, .int (0 : Int32), .int (0 : Int32), .int (0 : Int32)])) :: ((b, yA g n fb) :: t)))) _
  refine r_aload_n 1 dJ5_append_cf1ce_0 rfl ?_
  refine r_ifnonnull (tgt := 9) dJ5_append_cf1ce_1 (by decide) ?_
  refine r_aload_n 1 dJ5_append_cf1ce_9 rfl ?_
  refine r_seg (ws2 := ((s, .inr (12, [.ref b, .int (0 : Int32), .int (0 : Int32), .int (0 : Int32)])) :: ((b, yA g n fb) :: ((a, .inr (13, [.ref v, .int (0 : Int32), .int (0 : Int32), .int (nI L.length)])) :: ((v, yA g m f) :: t))))) [[(a, .inr (13, [.ref v, .int (0 : Int32), .int (0 : Int32), .int (nI L.length)]))], [(v, yA g m f)], [(s, .inr (12, [.ref b, .int (0 : Int32), .int (0 : Int32), .int (0 : Int32)]))], [(b, yA g n fb)], t] [2, 3, 0, 1, 4] rfl rfl rfl ?_
  refine k_V (x := 1) (y := 4002) (rest := []) 0 dJ5_append_cf1ce_10 kv_J5_32 (cj_lengthS ) rfl rfl rfl rfl (Nat.le_of_ble_eq_true rfl) (by decide) (by decide) ?_
  rintro ⟨⟩ -
  show R g mJ5_append_cf1ce 5 1 4002 13 [(0, .ref a), (1, .ref s)] [.int (nI n)] ((s, .inr (12, [.ref b, .int (0 : Int32), .int (0 : Int32), .int (0 : Int32)])) :: ((b, yA g n fb) :: ((a, .inr (13, [.ref v, .int (0 : Int32), .int (0 : Int32), .int (nI L.length)])) :: ((v, yA g m f) :: t)))) _
  refine r_istore_n [(2, .int (nI n)), (0, .ref a), (1, .ref s)] dJ5_append_cf1ce_13 (by decide) rfl ?_
  refine r_aload_n 1 dJ5_append_cf1ce_14 rfl ?_
  refine r_aload_n 1 dJ5_append_cf1ce_15 rfl ?_
  refine r_getf (v := .int (nI L.length)) 2 dJ5_append_cf1ce_16 fl_J5_79 rfl rfl ?_
  refine r_iload_n 0 dJ5_append_cf1ce_19 rfl ?_
  refine r_iadd dJ5_append_cf1ce_20 ?_
  refine r_top (w := .int (nI (L.length + n))) (by rw [nI_add]) ?_
  refine r_seg (ws2 := ((a, .inr (13, [.ref v, .int (0 : Int32), .int (0 : Int32), .int (nI L.length)])) :: ((v, yA g m f) :: ((s, .inr (12, [.ref b, .int (0 : Int32), .int (0 : Int32), .int (0 : Int32)])) :: ((b, yA g n fb) :: t))))) [[(s, .inr (12, [.ref b, .int (0 : Int32), .int (0 : Int32), .int (0 : Int32)]))], [(b, yA g n fb)], [(a, .inr (13, [.ref v, .int (0 : Int32), .int (0 : Int32), .int (nI L.length)]))], [(v, yA g m f)], t] [2, 3, 0, 1, 4] rfl rfl rfl ?_
  refine k_U (x := 0) (y := 0) (rest := []) 0 dJ5_append_cf1ce_21 ku_J5_100 (cj_ens hm hq hL.1) rfl rfl rfl rfl (Nat.le_of_ble_eq_true rfl) (by decide) (by decide) ?_
  rintro ⟨v2, m2, f2⟩ ⟨h1, h2, h3, h4⟩
  try dsimp only at h1 h2 h3 h4
  show R g mJ5_append_cf1ce 5 0 0 24 [(2, .int (nI n)), (0, .ref a), (1, .ref s)] [] ((a, .inr (13, [.ref v2, .int (0 : Int32), .int (0 : Int32), .int (nI L.length)])) :: ((v2, yA g m2 f2) :: ((s, .inr (12, [.ref b, .int (0 : Int32), .int (0 : Int32), .int (0 : Int32)])) :: ((b, yA g n fb) :: t)))) _
  refine r_aload_n 1 dJ5_append_cf1ce_24 rfl ?_
  refine r_aload_n 1 dJ5_append_cf1ce_25 rfl ?_
  refine r_getf (v := .int (nI L.length)) 0 dJ5_append_cf1ce_26 fl_J5_79 rfl rfl ?_
  refine r_aload_n 2 dJ5_append_cf1ce_29 rfl ?_
  refine k_U (x := 0) (y := 0) (rest := []) 0 dJ5_append_cf1ce_30 ku_J5_208 (cj_putStrS  h1 h2 hL2.1) rfl rfl rfl rfl (Nat.le_of_ble_eq_true rfl) (by decide) (by decide) ?_
  rintro ⟨⟩ -
  show R g mJ5_append_cf1ce 5 0 0 33 [(2, .int (nI n)), (0, .ref a), (1, .ref s)] [] ((a, .inr (13, [.ref v2, .int (0 : Int32), .int (0 : Int32), .int (nI L.length)])) :: ((v2, yA g m2 (va_cpy fb f2 0 L.length n)) :: ((s, .inr (12, [.ref b, .int (0 : Int32), .int (0 : Int32), .int (0 : Int32)])) :: ((b, yA g n fb) :: t)))) _
  refine r_aload_n 1 dJ5_append_cf1ce_33 rfl ?_
  refine r_dup dJ5_append_cf1ce_34 rfl ?_
  refine r_getf (v := .int (nI L.length)) 0 dJ5_append_cf1ce_35 fl_J5_79 rfl rfl ?_
  refine r_iload_n 0 dJ5_append_cf1ce_38 rfl ?_
  refine r_iadd dJ5_append_cf1ce_39 ?_
  refine r_top (w := .int (nI (L.length + n))) (by rw [nI_add]) ?_
  refine r_putf (ws2 := ((a, .inr (13, [.ref v2, .int (0 : Int32), .int (0 : Int32), .int (nI (L.length + n))])) :: ((v2, yA g m2 (va_cpy fb f2 0 L.length n)) :: ((s, .inr (12, [.ref b, .int (0 : Int32), .int (0 : Int32), .int (0 : Int32)])) :: ((b, yA g n fb) :: t))))) 0 dJ5_append_cf1ce_40 fl_J5_79 rfl (Nat.le_of_ble_eq_true rfl) rfl rfl rfl ?_
  refine r_aload_n 1 dJ5_append_cf1ce_43 rfl ?_
  have hl : L2.length = n := hn
  refine r_aret dJ5_append_cf1ce_44 rfl rfl (Or.inr ⟨_, rfl⟩) ?_
  refine Dq.mk (v2, m2, va_cpy fb f2 0 L.length n) rfl rfl ⟨LB.app (sb_fitC hL2.1 h3) (fun j hj => ?_) (fun j hj => ?_), by rw [List.length_append, hl]; exact h1, h2⟩
  · show va_cpy fb f2 0 L.length n j = _
    rw [pk_cpy_out (Or.inl hj), h4 j (by omega)]
    exact hL.2 j hj
  · show va_cpy fb f2 0 L.length n (L.length + j) = _
    rw [pk_cpy_in (by omega) (by omega), show 0 + (L.length + j - L.length) = j by omega]
    exact hL2.2 j hj
set_option maxRecDepth 20000 in
set_option maxHeartbeats 4000000 in
theorem cj_appendS {g : GG} {t : va_W} {s b n : Nat} {fb : Nat → Int32} {a v m : Nat} {f : Nat → Int32} {L L2 : List Int32}  (hL : LB f L) (hlm : L.length ≤ m) (hm : m ≤ 4000) (hq : L.length + n ≤ 2000) (hL2 : LB fb L2) (hn : L2.length = n) : Ct g mJ4_append_15ec4 6 1 4002 [.ref a, .ref s] ((a, .inr (13, [.ref v, .int (0 : Int32), .int (0 : Int32), .int (nI L.length)])) :: ((v, yA g m f) :: ((s, .inr (12, [.ref b, .int (0 : Int32), .int (0 : Int32), .int (0 : Int32)])) :: ((b, yA g n fb) :: t)))) (Dq (fun (z : Nat × Nat × (Nat → Int32)) => some (.ref a)) (fun z => (a, .inr (13, [.ref z.1, .int (0 : Int32), .int (0 : Int32), .int (nI (L.length + n))])) :: (z.1, yA g z.2.1 z.2.2) :: (s, .inr (12, [.ref b, .int (0 : Int32), .int (0 : Int32), .int (0 : Int32)])) :: (b, yA g n fb) :: t) (fun z => LB z.2.2 (L ++ L2) ∧ (L ++ L2).length ≤ z.2.1 ∧ z.2.1 ≤ 4000)) := by
  refine Ct.ofR (by decide +kernel) rfl (Nat.le_of_ble_eq_true rfl) ?_
  show R g mJ4_append_15ec4 6 1 4002 0 [(0, .ref a), (1, .ref s)] [] ((a, .inr (13, [.ref v, .int (0 : Int32), .int (0 : Int32), .int (nI L.length)])) :: ((v, yA g m f) :: ((s, .inr (12, [.ref b, .int (0 : Int32), .int (0 : Int32), .int (0 : Int32)])) :: ((b, yA g n fb) :: t)))) _
  refine r_aload_n 0 dJ4_append_15ec4_0 rfl ?_
  refine r_aload_n 1 dJ4_append_15ec4_1 rfl ?_
  refine k_SU (x := 0) (y := 0) (rest := []) 0 dJ4_append_15ec4_2 ksu_J4_29 (cj_append0S  hL hlm hm hq hL2 hn) rfl rfl rfl rfl (Nat.le_of_ble_eq_true rfl) (by decide) (by decide) ?_
  rintro ⟨v2, m2, f2⟩ h9
  try dsimp only at h9
  show R g mJ4_append_15ec4 6 0 0 5 [(0, .ref a), (1, .ref s)] [.ref a] ((a, .inr (13, [.ref v2, .int (0 : Int32), .int (0 : Int32), .int (nI (L.length + n))])) :: ((v2, yA g m2 f2) :: ((s, .inr (12, [.ref b, .int (0 : Int32), .int (0 : Int32), .int (0 : Int32)])) :: ((b, yA g n fb) :: t)))) _
  refine r_pop dJ4_append_15ec4_5 rfl ?_
  refine r_aload_n 0 dJ4_append_15ec4_6 rfl ?_
  refine r_aret dJ4_append_15ec4_7 rfl rfl (Or.inr ⟨_, rfl⟩) ?_
  exact Dq.mk (v2, m2, f2) rfl rfl h9
