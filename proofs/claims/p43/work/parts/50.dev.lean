set_option maxRecDepth 20000 in
set_option maxHeartbeats 4000000 in
theorem rt_J0_isLatin1_aae02 {g : GG}  {t : va_W}  {i : Nat} {o : Int32} {Q : Rs → va_W → Prop} (h : f_J0_isLatin1_aae02 i = o) (hi0 : i < 61) (hq : Q (.inl (some (.int o))) t) : R g mJ0_isLatin1_aae02 1 0 0 0 [(0, .ref (gK g i))] [] t Q := by
  unfold f_J0_isLatin1_aae02 at h
  refine r_getC dJ0_isLatin1_aae02_0 kk_288 ?_
  refine r_if_eq (tgt := 17) dJ0_isLatin1_aae02_3 (by decide) (fun hc => absurd hc (by decide)) (fun _ => ?_)
  refine r_aload_n 0 dJ0_isLatin1_aae02_6 rfl ?_
  refine r_getKc hi0 dJ0_isLatin1_aae02_7 kk_1531 ?_
  refine r_if_ne (tgt := 17) dJ0_isLatin1_aae02_10 (by decide) (fun hc => absurd hc (by decide)) (fun _ => ?_)
  refine r_iconst (v := (1 : Int32)) dJ0_isLatin1_aae02_13 (by decide) ?_
  refine r_goto (tgt := 18) dJ0_isLatin1_aae02_14 (by decide) ?_
  refine r_zret dJ0_isLatin1_aae02_18 rfl (by decide) ?_
  have h : _ = o := h
  subst h
  exact hq
theorem ct_J0_isLatin1_aae02 {g : GG}  {t : va_W}  {i : Nat} {o : Int32} (h : f_J0_isLatin1_aae02 i = o) (hi0 : i < 61) : Ct g mJ0_isLatin1_aae02 1 0 0 [.ref (gK g i)] t (Dv (some (.int o)) t) := Ct.ofR (by decide +kernel) rfl (Nat.le_of_ble_eq_true rfl) (rt_J0_isLatin1_aae02 h hi0 ⟨rfl, rfl⟩)
set_option maxRecDepth 20000 in
set_option maxHeartbeats 4000000 in
theorem rt_J0_coder_7d493 {g : GG}  {t : va_W}  {i : Nat} {o : Int32} {Q : Rs → va_W → Prop} (h : f_J0_coder_7d493 i = o) (hi0 : i < 61) (hq : Q (.inl (some (.int o))) t) : R g mJ0_coder_7d493 1 0 0 0 [(0, .ref (gK g i))] [] t Q := by
  unfold f_J0_coder_7d493 at h
  refine r_getC dJ0_coder_7d493_0 kk_288 ?_
  refine r_if_eq (tgt := 13) dJ0_coder_7d493_3 (by decide) (fun hc => absurd hc (by decide)) (fun _ => ?_)
  refine r_aload_n 0 dJ0_coder_7d493_6 rfl ?_
  refine r_getKc hi0 dJ0_coder_7d493_7 kk_1531 ?_
  refine r_goto (tgt := 14) dJ0_coder_7d493_10 (by decide) ?_
  refine r_zret dJ0_coder_7d493_14 rfl (by decide) ?_
  have h : _ = o := h
  subst h
  exact hq
theorem ct_J0_coder_7d493 {g : GG}  {t : va_W}  {i : Nat} {o : Int32} (h : f_J0_coder_7d493 i = o) (hi0 : i < 61) : Ct g mJ0_coder_7d493 1 0 0 [.ref (gK g i)] t (Dv (some (.int o)) t) := Ct.ofR (by decide +kernel) rfl (Nat.le_of_ble_eq_true rfl) (rt_J0_coder_7d493 h hi0 ⟨rfl, rfl⟩)
set_option maxRecDepth 20000 in
set_option maxHeartbeats 4000000 in
theorem rt_J0_length_8abf5 {g : GG}  {t : va_W}  {i : Nat} {o : Int32} {Q : Rs → va_W → Prop} (h : f_J0_length_8abf5 i = o) (hi0 : i < 61) (hq : Q (.inl (some (.int o))) t) : R g mJ0_length_8abf5 2 0 0 0 [(0, .ref (gK g i))] [] t Q := by
  unfold f_J0_length_8abf5 at h
  refine r_aload_n 0 dJ0_length_8abf5_0 rfl ?_
  refine r_getKv hi0 dJ0_length_8abf5_1 kk_1530 ?_
  refine r_alenV hi0 dJ0_length_8abf5_4 ?_
  refine r_aload_n 0 dJ0_length_8abf5_5 rfl ?_
  refine c_K (rest := [.int (Int32.ofNat (lenS.getD i 0))]) 0 0 dJ0_length_8abf5_6 kv_J0_335 rfl hi0 (ct_J0_coder_7d493 (i := i) (o := 0) rfl hi0) rfl rfl (Nat.le_of_ble_eq_true rfl) (by decide) (by decide) ?_
  refine r_ishr dJ0_length_8abf5_9 ?_
  refine r_iret dJ0_length_8abf5_10 rfl ?_
  have h : _ = o := h
  subst h
  exact hq
theorem ct_J0_length_8abf5 {g : GG}  {t : va_W}  {i : Nat} {o : Int32} (h : f_J0_length_8abf5 i = o) (hi0 : i < 61) : Ct g mJ0_length_8abf5 2 0 0 [.ref (gK g i)] t (Dv (some (.int o)) t) := Ct.ofR (by decide +kernel) rfl (Nat.le_of_ble_eq_true rfl) (rt_J0_length_8abf5 h hi0 ⟨rfl, rfl⟩)
set_option maxRecDepth 20000 in
set_option maxHeartbeats 4000000 in
theorem rt_J1_canEncode_9a6ad {g : GG}  {t : va_W}  {p0 : Int32} {o : Int32} {Q : Rs → va_W → Prop} (h : f_J1_canEncode_9a6ad p0 = o) (hq : Q (.inl (some (.int o))) t) : R g mJ1_canEncode_9a6ad 1 0 0 0 [(0, .int p0)] [] t Q := by
  unfold f_J1_canEncode_9a6ad at h
  refine r_iload_n 0 dJ1_canEncode_9a6ad_0 rfl ?_
  refine r_if_lt (tgt := 15) dJ1_canEncode_9a6ad_1 (by decide) (fun hc302 => ?_) (fun hc302 => ?_)
  · have h := ip (fun z9 => z9) hc302 h
    refine r_iconst (v := (0 : Int32)) dJ1_canEncode_9a6ad_15 (by decide) ?_
    refine r_zret dJ1_canEncode_9a6ad_16 rfl (by decide) ?_
    have h : _ = o := h
    subst h
    exact hq
  · have h := iq (fun z9 => z9) hc302 h
    refine r_iload_n 0 dJ1_canEncode_9a6ad_4 rfl ?_
    refine r_sipush (v := (255 : Int32)) dJ1_canEncode_9a6ad_5 (by decide) ?_
    refine r_icmp_gt (tgt := 15) dJ1_canEncode_9a6ad_8 (by decide) (fun hc303 => ?_) (fun hc303 => ?_)
    · have h := ip (fun z9 => z9) hc303 h
      refine r_iconst (v := (0 : Int32)) dJ1_canEncode_9a6ad_15 (by decide) ?_
      refine r_zret dJ1_canEncode_9a6ad_16 rfl (by decide) ?_
      have h : _ = o := h
      subst h
      exact hq
    · have h := iq (fun z9 => z9) hc303 h
      refine r_iconst (v := (1 : Int32)) dJ1_canEncode_9a6ad_11 (by decide) ?_
      refine r_goto (tgt := 16) dJ1_canEncode_9a6ad_12 (by decide) ?_
      refine r_zret dJ1_canEncode_9a6ad_16 rfl (by decide) ?_
      have h : _ = o := h
      subst h
      exact hq
theorem ct_J1_canEncode_9a6ad {g : GG}  {t : va_W}  {p0 : Int32} {o : Int32} (h : f_J1_canEncode_9a6ad p0 = o) : Ct g mJ1_canEncode_9a6ad 1 0 0 [.int p0] t (Dv (some (.int o)) t) := Ct.ofR (by decide +kernel) rfl (Nat.le_of_ble_eq_true rfl) (rt_J1_canEncode_9a6ad h ⟨rfl, rfl⟩)
set_option maxRecDepth 20000 in
set_option maxHeartbeats 4000000 in
theorem rt_J1_indexOfChar_4cfef {g : GG}  {t : va_W}  {N : Nat} {i : Nat} {p1 : Int32} {p2 : Int32} {p3 : Int32} {o : Int32} {Q : Rs → va_W → Prop} (h : f_J1_indexOfChar_4cfef N i p1 p2 p3 = some o) (hi0 : i < 61) (hq : Q (.inl (some (.int o))) t) : R g mJ1_indexOfChar_4cfef 1 0 0 0 [(0, .ref (gV g i)), (1, .int p1), (2, .int p2), (3, .int p3)] [] t Q := by
  unfold f_J1_indexOfChar_4cfef at h
  refine r_iload_n 1 dJ1_indexOfChar_4cfef_0 rfl ?_
  refine r_i2b dJ1_indexOfChar_4cfef_1 ?_
  refine r_istore [(4, .int p1.toInt8.toInt32), (0, .ref (gV g i)), (1, .int p1), (2, .int p2), (3, .int p3)] dJ1_indexOfChar_4cfef_2 (by decide) rfl ?_
  refine r_iload_n 3 dJ1_indexOfChar_4cfef_4 rfl ?_
  refine r_istore [(5, .int p2), (4, .int p1.toInt8.toInt32), (0, .ref (gV g i)), (1, .int p1), (2, .int p2), (3, .int p3)] dJ1_indexOfChar_4cfef_5 (by decide) rfl ?_
  refine r_ls [2, 5, 1, 0] (ls2 := [(0, .ref (gV g i)), (3, .int p3), (4, .int p1.toInt8.toInt32), (5, .int p2)]) rfl ?_
  have L1 : ∀ (n1 : Nat) (c4_1 : Int32) (l5_1 : Int32), (fun z9 => z9) (lpS (f_J1_indexOfChar_4cfef_L7 i p3 c4_1) none n1 l5_1) = some o → R g mJ1_indexOfChar_4cfef 1 0 0 7 [(0, .ref (gV g i)), (3, .int p3), (4, .int c4_1), (5, .int l5_1)] [] t Q := by
    intro n1
    induction n1 with
    | zero => intro c4_1 l5_1 h; exact nomatch (show (none : Option _) = some _ from h)
    | succ n1 ih1 =>
      intro c4_1 l5_1 h
      have h : (fun z9 => (lC (f_J1_indexOfChar_4cfef_L7 i p3 c4_1) none n1 z9)) (f_J1_indexOfChar_4cfef_L7 i p3 c4_1 l5_1) = some o := h
      unfold f_J1_indexOfChar_4cfef_L7 at h
      try dsimp only at h
      refine r_iload 3 dJ1_indexOfChar_4cfef_7 rfl ?_
      refine r_iload_n 1 dJ1_indexOfChar_4cfef_9 rfl ?_
      refine r_icmp_ge (tgt := 31) dJ1_indexOfChar_4cfef_10 (by decide) (fun hc306 => ?_) (fun hc306 => ?_)
      · have h := ip (fun z9 => (lC (f_J1_indexOfChar_4cfef_L7 i p3 c4_1) none n1 z9)) hc306 h
        refine r_iconst (v := (-1 : Int32)) dJ1_indexOfChar_4cfef_31 (by decide) ?_
        refine r_iret dJ1_indexOfChar_4cfef_32 rfl ?_
        have h := Option.some.inj (show some _ = some o from h)
        subst h
        exact hq
      · have h := iq (fun z9 => (lC (f_J1_indexOfChar_4cfef_L7 i p3 c4_1) none n1 z9)) hc306 h
        refine r_aload_n 0 dJ1_indexOfChar_4cfef_13 rfl ?_
        refine r_iload 3 dJ1_indexOfChar_4cfef_14 rfl ?_
        obtain ⟨hb307, h⟩ := gd (fun z9 => (lC (f_J1_indexOfChar_4cfef_L7 i p3 c4_1) none n1 z9)) rfl h
        refine r_bald hi0 dJ1_indexOfChar_4cfef_16 hb307 ?_
        refine r_iload 2 dJ1_indexOfChar_4cfef_17 rfl ?_
        refine r_icmp_ne (tgt := 25) dJ1_indexOfChar_4cfef_19 (by decide) (fun hc308 => ?_) (fun hc308 => ?_)
        · have h := iq (fun z9 => (lC (f_J1_indexOfChar_4cfef_L7 i p3 c4_1) none n1 z9)) hc308 h
          refine r_iinc (v2 := (l5_1 + (1 : Int32))) 3 [(5, .int (l5_1 + (1 : Int32))), (0, .ref (gV g i)), (3, .int p3), (4, .int c4_1)] dJ1_indexOfChar_4cfef_25 rfl rfl (by decide) rfl ?_
          refine r_goto (tgt := 7) dJ1_indexOfChar_4cfef_28 (by decide) ?_
          refine r_ls [1, 2, 3, 0] (ls2 := [(0, .ref (gV g i)), (3, .int p3), (4, .int c4_1), (5, .int (l5_1 + (1 : Int32)))]) rfl ?_
          exact ih1 c4_1 (l5_1 + (1 : Int32)) h
        · have h := ip (fun z9 => (lC (f_J1_indexOfChar_4cfef_L7 i p3 c4_1) none n1 z9)) hc308 h
          refine r_iload 3 dJ1_indexOfChar_4cfef_22 rfl ?_
          refine r_iret dJ1_indexOfChar_4cfef_24 rfl ?_
          have h := Option.some.inj (show some _ = some o from h)
          subst h
          exact hq
  exact L1 _ p1.toInt8.toInt32 p2 h
theorem ct_J1_indexOfChar_4cfef {g : GG}  {t : va_W}  {N : Nat} {i : Nat} {p1 : Int32} {p2 : Int32} {p3 : Int32} {o : Int32} (h : f_J1_indexOfChar_4cfef N i p1 p2 p3 = some o) (hi0 : i < 61) : Ct g mJ1_indexOfChar_4cfef 1 0 0 [.ref (gV g i), .int p1, .int p2, .int p3] t (Dv (some (.int o)) t) := Ct.ofR (by decide +kernel) rfl (Nat.le_of_ble_eq_true rfl) (rt_J1_indexOfChar_4cfef h hi0 ⟨rfl, rfl⟩)
set_option maxRecDepth 20000 in
set_option maxHeartbeats 4000000 in
theorem rt_J1_indexOf_4cfef {g : GG}  {t : va_W}  {N : Nat} {i : Nat} {p1 : Int32} {p2 : Int32} {p3 : Int32} {o : Int32} {Q : Rs → va_W → Prop} (h : f_J1_indexOf_4cfef N i p1 p2 p3 = some o) (hi0 : i < 61) (hq : Q (.inl (some (.int o))) t) : R g mJ1_indexOf_4cfef 2 0 0 0 [(0, .ref (gV g i)), (1, .int p1), (2, .int p2), (3, .int p3)] [] t Q := by
  unfold f_J1_indexOf_4cfef at h
  refine r_iload_n 1 dJ1_indexOf_4cfef_0 rfl ?_
  refine c_S (rest := []) 0 0 dJ1_indexOf_4cfef_1 ks_J1_88 (ct_J1_canEncode_9a6ad rfl) rfl rfl (Nat.le_of_ble_eq_true rfl) (by decide) (by decide) ?_
  refine r_if_ne (tgt := 9) dJ1_indexOf_4cfef_4 (by decide) (fun hc309 => ?_) (fun hc309 => ?_)
  · have h := iq (fun z9 => z9) hc309 h
    refine r_iload_n 2 dJ1_indexOf_4cfef_9 rfl ?_
    refine r_iconst (v := (0 : Int32)) dJ1_indexOf_4cfef_10 (by decide) ?_
    refine c_mmax (rest := []) dJ1_indexOf_4cfef_11 ks_J1_92 (Nat.le_of_ble_eq_true rfl) (by decide) ?_
    refine r_istore_n [(2, .int (f_J9_max_7cf53 p2 (0 : Int32))), (0, .ref (gV g i)), (1, .int p1), (3, .int p3)] dJ1_indexOf_4cfef_14 (by decide) rfl ?_
    refine r_iload_n 3 dJ1_indexOf_4cfef_15 rfl ?_
    refine r_aload_n 1 dJ1_indexOf_4cfef_16 rfl ?_
    refine r_alenV hi0 dJ1_indexOf_4cfef_17 ?_
    refine c_mmin (rest := []) dJ1_indexOf_4cfef_18 ks_J1_38 (Nat.le_of_ble_eq_true rfl) (by decide) ?_
    refine r_istore_n [(3, .int (f_J9_min_7cf53 p3 (Int32.ofNat (lenS.getD i 0)))), (2, .int (f_J9_max_7cf53 p2 (0 : Int32))), (0, .ref (gV g i)), (1, .int p1)] dJ1_indexOf_4cfef_21 (by decide) rfl ?_
    refine r_iload_n 1 dJ1_indexOf_4cfef_22 rfl ?_
    refine r_iload_n 0 dJ1_indexOf_4cfef_23 rfl ?_
    refine r_icmp_lt (tgt := 29) dJ1_indexOf_4cfef_24 (by decide) (fun hc310 => ?_) (fun hc310 => ?_)
    · have h := ip (fun z9 => z9) hc310 h
      refine r_aload_n 2 dJ1_indexOf_4cfef_29 rfl ?_
      refine r_iload_n 3 dJ1_indexOf_4cfef_30 rfl ?_
      refine r_iload_n 1 dJ1_indexOf_4cfef_31 rfl ?_
      refine r_iload_n 0 dJ1_indexOf_4cfef_32 rfl ?_
      obtain ⟨r311, hc312, h⟩ := ob (fun z9 => z9) rfl h
      refine c_S (rest := []) 0 0 dJ1_indexOf_4cfef_33 ks_J1_95 (ct_J1_indexOfChar_4cfef hc312 hi0) rfl rfl (Nat.le_of_ble_eq_true rfl) (by decide) (by decide) ?_
      refine r_iret dJ1_indexOf_4cfef_36 rfl ?_
      have h := Option.some.inj (show some _ = some o from h)
      subst h
      exact hq
    · have h := iq (fun z9 => z9) hc310 h
      refine r_iconst (v := (-1 : Int32)) dJ1_indexOf_4cfef_27 (by decide) ?_
      refine r_iret dJ1_indexOf_4cfef_28 rfl ?_
      have h := Option.some.inj (show some _ = some o from h)
      subst h
      exact hq
  · have h := ip (fun z9 => z9) hc309 h
    refine r_iconst (v := (-1 : Int32)) dJ1_indexOf_4cfef_7 (by decide) ?_
    refine r_iret dJ1_indexOf_4cfef_8 rfl ?_
    have h := Option.some.inj (show some _ = some o from h)
    subst h
    exact hq
theorem ct_J1_indexOf_4cfef {g : GG}  {t : va_W}  {N : Nat} {i : Nat} {p1 : Int32} {p2 : Int32} {p3 : Int32} {o : Int32} (h : f_J1_indexOf_4cfef N i p1 p2 p3 = some o) (hi0 : i < 61) : Ct g mJ1_indexOf_4cfef 2 0 0 [.ref (gV g i), .int p1, .int p2, .int p3] t (Dv (some (.int o)) t) := Ct.ofR (by decide +kernel) rfl (Nat.le_of_ble_eq_true rfl) (rt_J1_indexOf_4cfef h hi0 ⟨rfl, rfl⟩)
set_option maxRecDepth 20000 in
set_option maxHeartbeats 4000000 in
theorem rt_J0_indexOf_7cf53 {g : GG}  {t : va_W}  {N : Nat} {i : Nat} {p1 : Int32} {p2 : Int32} {o : Int32} {Q : Rs → va_W → Prop} (h : f_J0_indexOf_7cf53 N i p1 p2 = some o) (hi0 : i < 61) (hq : Q (.inl (some (.int o))) t) : R g mJ0_indexOf_7cf53 3 0 0 0 [(0, .ref (gK g i)), (1, .int p1), (2, .int p2)] [] t Q := by
  unfold f_J0_indexOf_7cf53 at h
  refine r_aload_n 0 dJ0_indexOf_7cf53_0 rfl ?_
  refine c_K (rest := []) 0 0 dJ0_indexOf_7cf53_1 kv_J0_492 rfl hi0 (ct_J0_isLatin1_aae02 (i := i) (o := 1) rfl hi0) rfl rfl (Nat.le_of_ble_eq_true rfl) (by decide) (by decide) ?_
  refine r_if_eq (tgt := 23) dJ0_indexOf_7cf53_4 (by decide) (fun hc => absurd hc (by decide)) (fun _ => ?_)
  refine r_aload_n 0 dJ0_indexOf_7cf53_7 rfl ?_
  refine r_getKv hi0 dJ0_indexOf_7cf53_8 kk_1530 ?_
  refine r_iload_n 1 dJ0_indexOf_7cf53_11 rfl ?_
  refine r_iload_n 2 dJ0_indexOf_7cf53_12 rfl ?_
  refine r_aload_n 0 dJ0_indexOf_7cf53_13 rfl ?_
  refine c_K (rest := [.int p2, .int p1, .ref (gV g i)]) 0 0 dJ0_indexOf_7cf53_14 kv_J0_505 rfl hi0 (ct_J0_length_8abf5 rfl hi0) rfl rfl (Nat.le_of_ble_eq_true rfl) (by decide) (by decide) ?_
  obtain ⟨r313, hc314, h⟩ := ob (fun z9 => z9) rfl h
  refine c_S (rest := []) 0 0 dJ0_indexOf_7cf53_17 ks_J0_637 (ct_J1_indexOf_4cfef hc314 hi0) rfl rfl (Nat.le_of_ble_eq_true rfl) (by decide) (by decide) ?_
  refine r_goto (tgt := 36) dJ0_indexOf_7cf53_20 (by decide) ?_
  refine r_iret dJ0_indexOf_7cf53_36 rfl ?_
  have h := Option.some.inj (show some _ = some o from h)
  subst h
  exact hq
theorem ct_J0_indexOf_7cf53 {g : GG}  {t : va_W}  {N : Nat} {i : Nat} {p1 : Int32} {p2 : Int32} {o : Int32} (h : f_J0_indexOf_7cf53 N i p1 p2 = some o) (hi0 : i < 61) : Ct g mJ0_indexOf_7cf53 3 0 0 [.ref (gK g i), .int p1, .int p2] t (Dv (some (.int o)) t) := Ct.ofR (by decide +kernel) rfl (Nat.le_of_ble_eq_true rfl) (rt_J0_indexOf_7cf53 h hi0 ⟨rfl, rfl⟩)
