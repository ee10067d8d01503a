set_option maxRecDepth 20000 in
set_option maxHeartbeats 4000000 in
theorem rt_M_meanClaims {g : GG} {am : Nat → Nat} {ap : Nat → Nat} {t : va_W} {m1 m2 m3 m4 m5 m6 m7 m8 m9 m10 m11 m12 u0 u3 u4 : Int32} {m13 m14 m15 m16 m18 m19 m20 m21 u7 u8 u9 u10 u11 u12 u13 u14 u15 u16 u17 u18 : Nat → Int32} {m17 u5 u6 : Nat → Int64} {M_thrown : Int32} {P_tellers : Int32} {P_claims : Int32} {o : UInt64 × Int32} {Q : Rs → va_W → Prop} (h : f_M_meanClaims M_thrown P_tellers P_claims = some o) (hq : Q (.inl (some (.double o.1))) (wlM g am (ap 0) o.2 m1 m2 m3 m4 m5 m6 m7 m8 m9 m10 m11 m12 m13 m14 m15 m16 m17 m18 m19 m20 m21 ++ (wlP g ap u0 P_tellers P_claims u3 u4 u5 u6 u7 u8 u9 u10 u11 u12 u13 u14 u15 u16 u17 u18 ++ t))) : R g mX11_meanClaims 1 0 0 0 [(0, .ref (am 0))] [] (wlM g am (ap 0) M_thrown m1 m2 m3 m4 m5 m6 m7 m8 m9 m10 m11 m12 m13 m14 m15 m16 m17 m18 m19 m20 m21 ++ (wlP g ap u0 P_tellers P_claims u3 u4 u5 u6 u7 u8 u9 u10 u11 u12 u13 u14 u15 u16 u17 u18 ++ t)) Q := by
  unfold f_M_meanClaims at h
  refine r_aload_n 0 dX11_meanClaims_0 rfl ?_
  refine r_iconst (v := (0 : Int32)) dX11_meanClaims_1 (by decide) ?_
  refine r_putf _ dX11_meanClaims_2 fl_X11_52 lM_0 (Nat.le_of_ble_eq_true rfl) rfl rfl (sM_0 _) ?_
  refine r_aload_n 0 dX11_meanClaims_5 rfl ?_
  refine r_getf (v := .ref (ap 0)) _ dX11_meanClaims_6 fl_X11_20 lM_0 rfl ?_
  refine r_getf (v := .int P_tellers) _ dX11_meanClaims_9 fl_X11_62 lP_0 rfl ?_
  refine r_if_ne (tgt := 19) dX11_meanClaims_12 (by decide) (fun hc2427 => ?_) (fun hc2427 => ?_)
  · have h := iq (fun z9 => z9) hc2427 h
    refine r_aload_n 0 dX11_meanClaims_19 rfl ?_
    refine r_getf (v := .ref (ap 0)) _ dX11_meanClaims_20 fl_X11_20 lM_0 rfl ?_
    refine r_getf (v := .int P_claims) _ dX11_meanClaims_23 fl_X11_65 lP_0 rfl ?_
    refine r_i2d dX11_meanClaims_26 ?_
    refine r_aload_n 0 dX11_meanClaims_27 rfl ?_
    refine r_getf (v := .ref (ap 0)) _ dX11_meanClaims_28 fl_X11_20 lM_0 rfl ?_
    refine r_getf (v := .int P_tellers) _ dX11_meanClaims_31 fl_X11_62 lP_0 rfl ?_
    refine r_i2d dX11_meanClaims_34 ?_
    obtain ⟨hb2428, h⟩ := gd (fun z9 => z9) rfl h
    refine r_ddiv dX11_meanClaims_35 (nfB_n hb2428) ?_
    refine r_dret dX11_meanClaims_36 rfl ?_
    have h := Option.some.inj (show some _ = some o from h)
    subst h
    exact hq
  · have h := ip (fun z9 => z9) hc2427 h
    refine r_dconst0 dX11_meanClaims_15 ?_
    refine r_goto (tgt := 36) dX11_meanClaims_16 (by decide) ?_
    refine r_dret dX11_meanClaims_36 rfl ?_
    have h := Option.some.inj (show some _ = some o from h)
    subst h
    exact hq
theorem ct_M_meanClaims {g : GG} {am : Nat → Nat} {ap : Nat → Nat} {t : va_W} {m1 m2 m3 m4 m5 m6 m7 m8 m9 m10 m11 m12 u0 u3 u4 : Int32} {m13 m14 m15 m16 m18 m19 m20 m21 u7 u8 u9 u10 u11 u12 u13 u14 u15 u16 u17 u18 : Nat → Int32} {m17 u5 u6 : Nat → Int64} {M_thrown : Int32} {P_tellers : Int32} {P_claims : Int32} {o : UInt64 × Int32} (h : f_M_meanClaims M_thrown P_tellers P_claims = some o) : Ct g mX11_meanClaims 1 0 0 [.ref (am 0)] (wlM g am (ap 0) M_thrown m1 m2 m3 m4 m5 m6 m7 m8 m9 m10 m11 m12 m13 m14 m15 m16 m17 m18 m19 m20 m21 ++ (wlP g ap u0 P_tellers P_claims u3 u4 u5 u6 u7 u8 u9 u10 u11 u12 u13 u14 u15 u16 u17 u18 ++ t)) (Dv (some (.double o.1)) (wlM g am (ap 0) o.2 m1 m2 m3 m4 m5 m6 m7 m8 m9 m10 m11 m12 m13 m14 m15 m16 m17 m18 m19 m20 m21 ++ (wlP g ap u0 P_tellers P_claims u3 u4 u5 u6 u7 u8 u9 u10 u11 u12 u13 u14 u15 u16 u17 u18 ++ t))) := Ct.ofR (by decide +kernel) rfl (Nat.le_of_ble_eq_true rfl) (rt_M_meanClaims h ⟨rfl, rfl⟩)
set_option maxRecDepth 20000 in
set_option maxHeartbeats 4000000 in
theorem rt_M_digestEvents {g : GG} {am : Nat → Nat} {ap : Nat → Nat} {t : va_W} {m0 m1 m2 m3 m4 m5 m7 m8 u3 u4 : Int32} {m13 m14 m15 m16 m18 m21 u12 u13 u14 u15 u16 u17 u18 : Nat → Int32} {m17 u5 u6 : Nat → Int64} {N : Nat} {M_doubted : Int32} {M_looked : Int32} {M_lying : Int32} {M_fewest : Int32} {M_sets : Int32} {M_against : Nat → Int32} {M_row : Nat → Int32} {P_events : Int32} {P_tellers : Int32} {P_claims : Int32} {P_kind : Nat → Int32} {P_by : Nat → Int32} {P_of : Nat → Int32} {P_other : Nat → Int32} {P_last : Nat → Int32} {p1 : Int64} {o : Int64 × Int32 × Int32 × Int32 × Int32 × (Nat → Int32)} {Q : Rs → va_W → Prop} (h : f_M_digestEvents N M_doubted M_looked M_lying M_fewest M_sets M_against M_row P_events P_tellers P_claims P_kind P_by P_of P_other P_last p1 = some o) (hq : Q (.inl (some (.long o.1))) (wlM g am (ap 0) m0 m1 m2 m3 m4 m5 M_doubted m7 m8 o.2.1 o.2.2.1 o.2.2.2.1 o.2.2.2.2.1 m13 m14 m15 m16 m17 m18 M_against o.2.2.2.2.2 m21 ++ (wlP g ap P_events P_tellers P_claims u3 u4 u5 u6 P_kind P_by P_of P_other P_last u12 u13 u14 u15 u16 u17 u18 ++ t))) : R g mX11_digestEvents 7 0 0 0 [(0, .ref (am 0)), (1, .long p1)] [] (wlM g am (ap 0) m0 m1 m2 m3 m4 m5 M_doubted m7 m8 M_looked M_lying M_fewest M_sets m13 m14 m15 m16 m17 m18 M_against M_row m21 ++ (wlP g ap P_events P_tellers P_claims u3 u4 u5 u6 P_kind P_by P_of P_other P_last u12 u13 u14 u15 u16 u17 u18 ++ t)) Q := by
  unfold f_M_digestEvents at h
  refine r_aload_n 0 dX11_digestEvents_0 rfl ?_
  obtain ⟨r2429, hc2430, h⟩ := ob (fun z9 => z9) rfl h
  refine c_V (rest := []) 0 0 _ dX11_digestEvents_1 kv_X11_394 (ct_M_isOrdered hc2430) rfl rfl lM_0 rfl (Nat.le_of_ble_eq_true rfl) (by decide) (by decide) ?_
  refine r_istore_n [(3, .int r2429.1), (0, .ref (am 0)), (1, .long p1)] dX11_digestEvents_4 (by decide) rfl ?_
  refine r_lload_n 2 dX11_digestEvents_5 rfl ?_
  refine r_lstore [(4, .long p1), (3, .int r2429.1), (0, .ref (am 0)), (1, .long p1)] dX11_digestEvents_6 (by decide) rfl ?_
  refine r_iconst (v := (0 : Int32)) dX11_digestEvents_8 (by decide) ?_
  refine r_istore [(6, .int (0 : Int32)), (4, .long p1), (3, .int r2429.1), (0, .ref (am 0)), (1, .long p1)] dX11_digestEvents_9 (by decide) rfl ?_
  refine r_ls [3, 2, 1, 0] (ls2 := [(0, .ref (am 0)), (3, .int r2429.1), (4, .long p1), (6, .int (0 : Int32))]) rfl ?_
  have L1 : ∀ (n1 : Nat) (c3_1 : Int32) (M_looked_c1 : Int32) (M_lying_c1 : Int32) (M_fewest_c1 : Int32) (M_sets_c1 : Int32) (M_row_c1 : Nat → Int32) (l4_1 : Int64) (l6_1 : Int32), (fun z9 => z9) (lpS (f_M_digestEvents_L11 N M_doubted P_events P_claims P_kind P_by P_of P_other P_last c3_1 M_looked_c1 M_lying_c1 M_fewest_c1 M_sets_c1 M_row_c1) none n1 (l4_1, l6_1)) = some o → R g mX11_digestEvents 7 0 0 11 [(0, .ref (am 0)), (3, .int c3_1), (4, .long l4_1), (6, .int l6_1)] [] (wlM g am (ap 0) m0 m1 m2 m3 m4 m5 M_doubted m7 m8 M_looked_c1 M_lying_c1 M_fewest_c1 M_sets_c1 m13 m14 m15 m16 m17 m18 M_against M_row_c1 m21 ++ (wlP g ap P_events P_tellers P_claims u3 u4 u5 u6 P_kind P_by P_of P_other P_last u12 u13 u14 u15 u16 u17 u18 ++ t)) Q := by
    intro n1
    induction n1 with
    | zero => intro c3_1 M_looked_c1 M_lying_c1 M_fewest_c1 M_sets_c1 M_row_c1 l4_1 l6_1 h; exact nomatch (show (none : Option _) = some _ from h)
    | succ n1 ih1 =>
      intro c3_1 M_looked_c1 M_lying_c1 M_fewest_c1 M_sets_c1 M_row_c1 l4_1 l6_1 h
      have h : (fun z9 => (lC (f_M_digestEvents_L11 N M_doubted P_events P_claims P_kind P_by P_of P_other P_last c3_1 M_looked_c1 M_lying_c1 M_fewest_c1 M_sets_c1 M_row_c1) none n1 z9)) (f_M_digestEvents_L11 N M_doubted P_events P_claims P_kind P_by P_of P_other P_last c3_1 M_looked_c1 M_lying_c1 M_fewest_c1 M_sets_c1 M_row_c1 (l4_1, l6_1)) = some o := h
      unfold f_M_digestEvents_L11 at h
      try dsimp only at h
      refine r_iload 3 dX11_digestEvents_11 rfl ?_
      refine r_aload_n 0 dX11_digestEvents_13 rfl ?_
      refine r_getf (v := .ref (ap 0)) _ dX11_digestEvents_14 fl_X11_20 lM_0 rfl ?_
      refine r_getf (v := .int P_events) _ dX11_digestEvents_17 fl_X11_55 lP_0 rfl ?_
      refine r_icmp_ge (tgt := 127) dX11_digestEvents_20 (by decide) (fun hc2431 => ?_) (fun hc2431 => ?_)
      · have h := ip (fun z9 => (lC (f_M_digestEvents_L11 N M_doubted P_events P_claims P_kind P_by P_of P_other P_last c3_1 M_looked_c1 M_lying_c1 M_fewest_c1 M_sets_c1 M_row_c1) none n1 z9)) hc2431 h
        refine r_lload 2 dX11_digestEvents_127 rfl ?_
        refine r_lret dX11_digestEvents_129 rfl ?_
        have h := Option.some.inj (show some _ = some o from h)
        subst h
        exact hq
      · have h := iq (fun z9 => (lC (f_M_digestEvents_L11 N M_doubted P_events P_claims P_kind P_by P_of P_other P_last c3_1 M_looked_c1 M_lying_c1 M_fewest_c1 M_sets_c1 M_row_c1) none n1 z9)) hc2431 h
        refine r_aload_n 0 dX11_digestEvents_23 rfl ?_
        refine r_iload 3 dX11_digestEvents_24 rfl ?_
        obtain ⟨r2432, hc2433, h⟩ := ob (fun z9 => (lC (f_M_digestEvents_L11 N M_doubted P_events P_claims P_kind P_by P_of P_other P_last c3_1 M_looked_c1 M_lying_c1 M_fewest_c1 M_sets_c1 M_row_c1) none n1 z9)) rfl h
        refine c_V (rest := []) 0 0 _ dX11_digestEvents_26 kv_X11_172 (ct_M_hours hc2433) rfl rfl lM_0 rfl (Nat.le_of_ble_eq_true rfl) (by decide) (by decide) ?_
        refine r_if_le (tgt := 36) dX11_digestEvents_29 (by decide) (fun hc2434 => ?_) (fun hc2434 => ?_)
        · have h := ip (fun z9 => (lC (f_M_digestEvents_L11 N M_doubted P_events P_claims P_kind P_by P_of P_other P_last c3_1 M_looked_c1 M_lying_c1 M_fewest_c1 M_sets_c1 M_row_c1) none n1 z9)) hc2434 h
          refine r_iconst (v := (0 : Int32)) dX11_digestEvents_36 (by decide) ?_
          refine r_istore [(7, .int (0 : Int32)), (0, .ref (am 0)), (3, .int c3_1), (4, .long l4_1), (6, .int l6_1)] dX11_digestEvents_37 (by decide) rfl ?_
          refine r_lload 3 dX11_digestEvents_39 rfl ?_
          refine r_ldc2 dX11_digestEvents_41 kk_1961 ?_
          refine r_lmul dX11_digestEvents_44 ?_
          refine r_iload 0 dX11_digestEvents_45 rfl ?_
          refine c_S (rest := [.long (l4_1 * (31 : Int64))]) 0 0 dX11_digestEvents_47 ks_X11_165 (ct_M_one rfl) rfl rfl (Nat.le_of_ble_eq_true rfl) (by decide) (by decide) ?_
          refine r_i2l dX11_digestEvents_50 ?_
          refine r_ladd dX11_digestEvents_51 ?_
          refine r_ldc2 dX11_digestEvents_52 kk_1961 ?_
          refine r_lmul dX11_digestEvents_55 ?_
          refine r_iload 0 dX11_digestEvents_56 rfl ?_
          refine r_if_eq (tgt := 70) dX11_digestEvents_58 (by decide) (fun _ => ?_) (fun hc => absurd hc (by decide))
          refine r_iconst (v := (-1 : Int32)) dX11_digestEvents_70 (by decide) ?_
          refine r_i2l dX11_digestEvents_71 ?_
          refine r_ladd dX11_digestEvents_72 ?_
          refine r_lstore [(4, .long ((((l4_1 * (31 : Int64)) + (f_M_one (0 : Int32)).toInt64) * (31 : Int64)) + (-1 : Int32).toInt64)), (7, .int (0 : Int32)), (0, .ref (am 0)), (3, .int c3_1), (6, .int l6_1)] dX11_digestEvents_73 (by decide) rfl ?_
          refine r_lload 0 dX11_digestEvents_75 rfl ?_
          refine r_ldc2 dX11_digestEvents_77 kk_1961 ?_
          refine r_lmul dX11_digestEvents_80 ?_
          refine r_iload 1 dX11_digestEvents_81 rfl ?_
          refine r_if_eq (tgt := 95) dX11_digestEvents_83 (by decide) (fun _ => ?_) (fun hc => absurd hc (by decide))
          refine r_iconst (v := (-1 : Int32)) dX11_digestEvents_95 (by decide) ?_
          refine r_i2l dX11_digestEvents_96 ?_
          refine r_ladd dX11_digestEvents_97 ?_
          refine r_ldc2 dX11_digestEvents_98 kk_1961 ?_
          refine r_lmul dX11_digestEvents_101 ?_
          refine r_iload_n 3 dX11_digestEvents_102 rfl ?_
          refine r_if_eq (tgt := 116) dX11_digestEvents_103 (by decide) (fun hc2435 => ?_) (fun hc2435 => ?_)
          · have h := ip (fun z9 => (lC (f_M_digestEvents_L11 N M_doubted P_events P_claims P_kind P_by P_of P_other P_last c3_1 M_looked_c1 M_lying_c1 M_fewest_c1 M_sets_c1 M_row_c1) none n1 z9)) hc2435 h
            refine r_iconst (v := (-1 : Int32)) dX11_digestEvents_116 (by decide) ?_
            refine r_i2l dX11_digestEvents_117 ?_
            refine r_ladd dX11_digestEvents_118 ?_
            refine r_lstore [(4, .long ((((((((l4_1 * (31 : Int64)) + (f_M_one (0 : Int32)).toInt64) * (31 : Int64)) + (-1 : Int32).toInt64) * (31 : Int64)) + (-1 : Int32).toInt64) * (31 : Int64)) + (-1 : Int32).toInt64)), (7, .int (0 : Int32)), (0, .ref (am 0)), (3, .int c3_1), (6, .int l6_1)] dX11_digestEvents_119 (by decide) rfl ?_
            refine r_iinc (v2 := (l6_1 + (1 : Int32))) 4 [(6, .int (l6_1 + (1 : Int32))), (4, .long ((((((((l4_1 * (31 : Int64)) + (f_M_one (0 : Int32)).toInt64) * (31 : Int64)) + (-1 : Int32).toInt64) * (31 : Int64)) + (-1 : Int32).toInt64) * (31 : Int64)) + (-1 : Int32).toInt64)), (7, .int (0 : Int32)), (0, .ref (am 0)), (3, .int c3_1)] dX11_digestEvents_121 rfl rfl (by decide) rfl ?_
            refine r_goto (tgt := 11) dX11_digestEvents_124 (by decide) ?_
            refine r_ls [3, 4, 1, 0] (ls2 := [(0, .ref (am 0)), (3, .int c3_1), (4, .long ((((((((l4_1 * (31 : Int64)) + (f_M_one (0 : Int32)).toInt64) * (31 : Int64)) + (-1 : Int32).toInt64) * (31 : Int64)) + (-1 : Int32).toInt64) * (31 : Int64)) + (-1 : Int32).toInt64)), (6, .int (l6_1 + (1 : Int32)))]) rfl ?_
            exact ih1 c3_1 M_looked_c1 M_lying_c1 M_fewest_c1 M_sets_c1 M_row_c1 ((((((((l4_1 * (31 : Int64)) + (f_M_one (0 : Int32)).toInt64) * (31 : Int64)) + (-1 : Int32).toInt64) * (31 : Int64)) + (-1 : Int32).toInt64) * (31 : Int64)) + (-1 : Int32).toInt64) (l6_1 + (1 : Int32)) h
          · have h := iq (fun z9 => (lC (f_M_digestEvents_L11 N M_doubted P_events P_claims P_kind P_by P_of P_other P_last c3_1 M_looked_c1 M_lying_c1 M_fewest_c1 M_sets_c1 M_row_c1) none n1 z9)) hc2435 h
            refine r_aload_n 2 dX11_digestEvents_106 rfl ?_
            refine r_getf (v := .ref (am 8)) _ dX11_digestEvents_107 fl_X11_46 lM_0 rfl ?_
            refine r_iload 4 dX11_digestEvents_110 rfl ?_
            obtain ⟨hb2436, h⟩ := gd (fun z9 => (lC (f_M_digestEvents_L11 N M_doubted P_events P_claims P_kind P_by P_of P_other P_last c3_1 M_looked_c1 M_lying_c1 M_fewest_c1 M_sets_c1 M_row_c1) none n1 z9)) rfl h
            refine r_iald _ dX11_digestEvents_112 lM_8 hb2436 ?_
            refine r_goto (tgt := 117) dX11_digestEvents_113 (by decide) ?_
            refine r_i2l dX11_digestEvents_117 ?_
            refine r_ladd dX11_digestEvents_118 ?_
            refine r_lstore [(4, .long ((((((((l4_1 * (31 : Int64)) + (f_M_one (0 : Int32)).toInt64) * (31 : Int64)) + (-1 : Int32).toInt64) * (31 : Int64)) + (-1 : Int32).toInt64) * (31 : Int64)) + (M_row_c1 l6_1.toNatClampNeg).toInt64)), (7, .int (0 : Int32)), (0, .ref (am 0)), (3, .int c3_1), (6, .int l6_1)] dX11_digestEvents_119 (by decide) rfl ?_
            refine r_iinc (v2 := (l6_1 + (1 : Int32))) 4 [(6, .int (l6_1 + (1 : Int32))), (4, .long ((((((((l4_1 * (31 : Int64)) + (f_M_one (0 : Int32)).toInt64) * (31 : Int64)) + (-1 : Int32).toInt64) * (31 : Int64)) + (-1 : Int32).toInt64) * (31 : Int64)) + (M_row_c1 l6_1.toNatClampNeg).toInt64)), (7, .int (0 : Int32)), (0, .ref (am 0)), (3, .int c3_1)] dX11_digestEvents_121 rfl rfl (by decide) rfl ?_
            refine r_goto (tgt := 11) dX11_digestEvents_124 (by decide) ?_
            refine r_ls [3, 4, 1, 0] (ls2 := [(0, .ref (am 0)), (3, .int c3_1), (4, .long ((((((((l4_1 * (31 : Int64)) + (f_M_one (0 : Int32)).toInt64) * (31 : Int64)) + (-1 : Int32).toInt64) * (31 : Int64)) + (-1 : Int32).toInt64) * (31 : Int64)) + (M_row_c1 l6_1.toNatClampNeg).toInt64)), (6, .int (l6_1 + (1 : Int32)))]) rfl ?_
            exact ih1 c3_1 M_looked_c1 M_lying_c1 M_fewest_c1 M_sets_c1 M_row_c1 ((((((((l4_1 * (31 : Int64)) + (f_M_one (0 : Int32)).toInt64) * (31 : Int64)) + (-1 : Int32).toInt64) * (31 : Int64)) + (-1 : Int32).toInt64) * (31 : Int64)) + (M_row_c1 l6_1.toNatClampNeg).toInt64) (l6_1 + (1 : Int32)) h
        · have h := iq (fun z9 => (lC (f_M_digestEvents_L11 N M_doubted P_events P_claims P_kind P_by P_of P_other P_last c3_1 M_looked_c1 M_lying_c1 M_fewest_c1 M_sets_c1 M_row_c1) none n1 z9)) hc2434 h
          refine r_iconst (v := (1 : Int32)) dX11_digestEvents_32 (by decide) ?_
          refine r_goto (tgt := 37) dX11_digestEvents_33 (by decide) ?_
          refine r_istore [(7, .int (1 : Int32)), (0, .ref (am 0)), (3, .int c3_1), (4, .long l4_1), (6, .int l6_1)] dX11_digestEvents_37 (by decide) rfl ?_
          refine r_lload 3 dX11_digestEvents_39 rfl ?_
          refine r_ldc2 dX11_digestEvents_41 kk_1961 ?_
          refine r_lmul dX11_digestEvents_44 ?_
          refine r_iload 0 dX11_digestEvents_45 rfl ?_
          refine c_S (rest := [.long (l4_1 * (31 : Int64))]) 0 0 dX11_digestEvents_47 ks_X11_165 (ct_M_one rfl) rfl rfl (Nat.le_of_ble_eq_true rfl) (by decide) (by decide) ?_
          refine r_i2l dX11_digestEvents_50 ?_
          refine r_ladd dX11_digestEvents_51 ?_
          refine r_ldc2 dX11_digestEvents_52 kk_1961 ?_
          refine r_lmul dX11_digestEvents_55 ?_
          refine r_iload 0 dX11_digestEvents_56 rfl ?_
          refine r_if_eq (tgt := 70) dX11_digestEvents_58 (by decide) (fun hc => absurd hc (by decide)) (fun _ => ?_)
          refine r_aload_n 1 dX11_digestEvents_61 rfl ?_
          refine r_iload 4 dX11_digestEvents_62 rfl ?_
          obtain ⟨r2437, hc2438, h⟩ := ob (fun z9 => (lC (f_M_digestEvents_L11 N M_doubted P_events P_claims P_kind P_by P_of P_other P_last c3_1 M_looked_c1 M_lying_c1 M_fewest_c1 M_sets_c1 M_row_c1) none n1 z9)) rfl h
          refine c_V (rest := [.long (((l4_1 * (31 : Int64)) + (f_M_one (1 : Int32)).toInt64) * (31 : Int64))]) 0 0 _ dX11_digestEvents_64 kv_X11_131 (ct_M_windowBegins hc2438) rfl rfl lM_0 rfl (Nat.le_of_ble_eq_true rfl) (by decide) (by decide) ?_
          refine r_goto (tgt := 71) dX11_digestEvents_67 (by decide) ?_
          refine r_i2l dX11_digestEvents_71 ?_
          refine r_ladd dX11_digestEvents_72 ?_
          refine r_lstore [(4, .long ((((l4_1 * (31 : Int64)) + (f_M_one (1 : Int32)).toInt64) * (31 : Int64)) + r2437.toInt64)), (7, .int (1 : Int32)), (0, .ref (am 0)), (3, .int c3_1), (6, .int l6_1)] dX11_digestEvents_73 (by decide) rfl ?_
          refine r_lload 0 dX11_digestEvents_75 rfl ?_
          refine r_ldc2 dX11_digestEvents_77 kk_1961 ?_
          refine r_lmul dX11_digestEvents_80 ?_
          refine r_iload 1 dX11_digestEvents_81 rfl ?_
          refine r_if_eq (tgt := 95) dX11_digestEvents_83 (by decide) (fun hc => absurd hc (by decide)) (fun _ => ?_)
          refine r_aload_n 2 dX11_digestEvents_86 rfl ?_
          refine r_iload 4 dX11_digestEvents_87 rfl ?_
          obtain ⟨r2439, hc2440, h⟩ := ob (fun z9 => (lC (f_M_digestEvents_L11 N M_doubted P_events P_claims P_kind P_by P_of P_other P_last c3_1 M_looked_c1 M_lying_c1 M_fewest_c1 M_sets_c1 M_row_c1) none n1 z9)) rfl h
          refine c_V (rest := [.long (((((l4_1 * (31 : Int64)) + (f_M_one (1 : Int32)).toInt64) * (31 : Int64)) + r2437.toInt64) * (31 : Int64))]) 0 0 _ dX11_digestEvents_89 kv_X11_128 (ct_M_windowEnds hc2440) rfl rfl lM_0 rfl (Nat.le_of_ble_eq_true rfl) (by decide) (by decide) ?_
          refine r_goto (tgt := 96) dX11_digestEvents_92 (by decide) ?_
          refine r_i2l dX11_digestEvents_96 ?_
          refine r_ladd dX11_digestEvents_97 ?_
          refine r_ldc2 dX11_digestEvents_98 kk_1961 ?_
          refine r_lmul dX11_digestEvents_101 ?_
          refine r_iload_n 3 dX11_digestEvents_102 rfl ?_
          refine r_if_eq (tgt := 116) dX11_digestEvents_103 (by decide) (fun hc2441 => ?_) (fun hc2441 => ?_)
          · have h := ip (fun z9 => (lC (f_M_digestEvents_L11 N M_doubted P_events P_claims P_kind P_by P_of P_other P_last c3_1 M_looked_c1 M_lying_c1 M_fewest_c1 M_sets_c1 M_row_c1) none n1 z9)) hc2441 h
            refine r_iconst (v := (-1 : Int32)) dX11_digestEvents_116 (by decide) ?_
            refine r_i2l dX11_digestEvents_117 ?_
            refine r_ladd dX11_digestEvents_118 ?_
            refine r_lstore [(4, .long ((((((((l4_1 * (31 : Int64)) + (f_M_one (1 : Int32)).toInt64) * (31 : Int64)) + r2437.toInt64) * (31 : Int64)) + r2439.toInt64) * (31 : Int64)) + (-1 : Int32).toInt64)), (7, .int (1 : Int32)), (0, .ref (am 0)), (3, .int c3_1), (6, .int l6_1)] dX11_digestEvents_119 (by decide) rfl ?_
            refine r_iinc (v2 := (l6_1 + (1 : Int32))) 4 [(6, .int (l6_1 + (1 : Int32))), (4, .long ((((((((l4_1 * (31 : Int64)) + (f_M_one (1 : Int32)).toInt64) * (31 : Int64)) + r2437.toInt64) * (31 : Int64)) + r2439.toInt64) * (31 : Int64)) + (-1 : Int32).toInt64)), (7, .int (1 : Int32)), (0, .ref (am 0)), (3, .int c3_1)] dX11_digestEvents_121 rfl rfl (by decide) rfl ?_
            refine r_goto (tgt := 11) dX11_digestEvents_124 (by decide) ?_
            refine r_ls [3, 4, 1, 0] (ls2 := [(0, .ref (am 0)), (3, .int c3_1), (4, .long ((((((((l4_1 * (31 : Int64)) + (f_M_one (1 : Int32)).toInt64) * (31 : Int64)) + r2437.toInt64) * (31 : Int64)) + r2439.toInt64) * (31 : Int64)) + (-1 : Int32).toInt64)), (6, .int (l6_1 + (1 : Int32)))]) rfl ?_
            exact ih1 c3_1 M_looked_c1 M_lying_c1 M_fewest_c1 M_sets_c1 M_row_c1 ((((((((l4_1 * (31 : Int64)) + (f_M_one (1 : Int32)).toInt64) * (31 : Int64)) + r2437.toInt64) * (31 : Int64)) + r2439.toInt64) * (31 : Int64)) + (-1 : Int32).toInt64) (l6_1 + (1 : Int32)) h
          · have h := iq (fun z9 => (lC (f_M_digestEvents_L11 N M_doubted P_events P_claims P_kind P_by P_of P_other P_last c3_1 M_looked_c1 M_lying_c1 M_fewest_c1 M_sets_c1 M_row_c1) none n1 z9)) hc2441 h
            refine r_aload_n 2 dX11_digestEvents_106 rfl ?_
            refine r_getf (v := .ref (am 8)) _ dX11_digestEvents_107 fl_X11_46 lM_0 rfl ?_
            refine r_iload 4 dX11_digestEvents_110 rfl ?_
            obtain ⟨hb2442, h⟩ := gd (fun z9 => (lC (f_M_digestEvents_L11 N M_doubted P_events P_claims P_kind P_by P_of P_other P_last c3_1 M_looked_c1 M_lying_c1 M_fewest_c1 M_sets_c1 M_row_c1) none n1 z9)) rfl h
            refine r_iald _ dX11_digestEvents_112 lM_8 hb2442 ?_
            refine r_goto (tgt := 117) dX11_digestEvents_113 (by decide) ?_
            refine r_i2l dX11_digestEvents_117 ?_
            refine r_ladd dX11_digestEvents_118 ?_
            refine r_lstore [(4, .long ((((((((l4_1 * (31 : Int64)) + (f_M_one (1 : Int32)).toInt64) * (31 : Int64)) + r2437.toInt64) * (31 : Int64)) + r2439.toInt64) * (31 : Int64)) + (M_row_c1 l6_1.toNatClampNeg).toInt64)), (7, .int (1 : Int32)), (0, .ref (am 0)), (3, .int c3_1), (6, .int l6_1)] dX11_digestEvents_119 (by decide) rfl ?_
            refine r_iinc (v2 := (l6_1 + (1 : Int32))) 4 [(6, .int (l6_1 + (1 : Int32))), (4, .long ((((((((l4_1 * (31 : Int64)) + (f_M_one (1 : Int32)).toInt64) * (31 : Int64)) + r2437.toInt64) * (31 : Int64)) + r2439.toInt64) * (31 : Int64)) + (M_row_c1 l6_1.toNatClampNeg).toInt64)), (7, .int (1 : Int32)), (0, .ref (am 0)), (3, .int c3_1)] dX11_digestEvents_121 rfl rfl (by decide) rfl ?_
            refine r_goto (tgt := 11) dX11_digestEvents_124 (by decide) ?_
            refine r_ls [3, 4, 1, 0] (ls2 := [(0, .ref (am 0)), (3, .int c3_1), (4, .long ((((((((l4_1 * (31 : Int64)) + (f_M_one (1 : Int32)).toInt64) * (31 : Int64)) + r2437.toInt64) * (31 : Int64)) + r2439.toInt64) * (31 : Int64)) + (M_row_c1 l6_1.toNatClampNeg).toInt64)), (6, .int (l6_1 + (1 : Int32)))]) rfl ?_
            exact ih1 c3_1 M_looked_c1 M_lying_c1 M_fewest_c1 M_sets_c1 M_row_c1 ((((((((l4_1 * (31 : Int64)) + (f_M_one (1 : Int32)).toInt64) * (31 : Int64)) + r2437.toInt64) * (31 : Int64)) + r2439.toInt64) * (31 : Int64)) + (M_row_c1 l6_1.toNatClampNeg).toInt64) (l6_1 + (1 : Int32)) h
  exact L1 _ r2429.1 r2429.2.1 r2429.2.2.1 r2429.2.2.2.1 r2429.2.2.2.2.1 r2429.2.2.2.2.2 p1 (0 : Int32) h
theorem ct_M_digestEvents {g : GG} {am : Nat → Nat} {ap : Nat → Nat} {t : va_W} {m0 m1 m2 m3 m4 m5 m7 m8 u3 u4 : Int32} {m13 m14 m15 m16 m18 m21 u12 u13 u14 u15 u16 u17 u18 : Nat → Int32} {m17 u5 u6 : Nat → Int64} {N : Nat} {M_doubted : Int32} {M_looked : Int32} {M_lying : Int32} {M_fewest : Int32} {M_sets : Int32} {M_against : Nat → Int32} {M_row : Nat → Int32} {P_events : Int32} {P_tellers : Int32} {P_claims : Int32} {P_kind : Nat → Int32} {P_by : Nat → Int32} {P_of : Nat → Int32} {P_other : Nat → Int32} {P_last : Nat → Int32} {p1 : Int64} {o : Int64 × Int32 × Int32 × Int32 × Int32 × (Nat → Int32)} (h : f_M_digestEvents N M_doubted M_looked M_lying M_fewest M_sets M_against M_row P_events P_tellers P_claims P_kind P_by P_of P_other P_last p1 = some o) : Ct g mX11_digestEvents 7 0 0 [.ref (am 0), .long p1] (wlM g am (ap 0) m0 m1 m2 m3 m4 m5 M_doubted m7 m8 M_looked M_lying M_fewest M_sets m13 m14 m15 m16 m17 m18 M_against M_row m21 ++ (wlP g ap P_events P_tellers P_claims u3 u4 u5 u6 P_kind P_by P_of P_other P_last u12 u13 u14 u15 u16 u17 u18 ++ t)) (Dv (some (.long o.1)) (wlM g am (ap 0) m0 m1 m2 m3 m4 m5 M_doubted m7 m8 o.2.1 o.2.2.1 o.2.2.2.1 o.2.2.2.2.1 m13 m14 m15 m16 m17 m18 M_against o.2.2.2.2.2 m21 ++ (wlP g ap P_events P_tellers P_claims u3 u4 u5 u6 P_kind P_by P_of P_other P_last u12 u13 u14 u15 u16 u17 u18 ++ t))) := Ct.ofR (by decide +kernel) rfl (Nat.le_of_ble_eq_true rfl) (rt_M_digestEvents h ⟨rfl, rfl⟩)
set_option maxRecDepth 20000 in
set_option maxHeartbeats 4000000 in
theorem rt_M_digest {g : GG} {am : Nat → Nat} {ap : Nat → Nat} {t : va_W} {m1 m2 m3 m4 m5 u3 u4 : Int32} {m13 m14 m15 m16 m18 m21 u12 u13 u14 u15 u16 u17 u18 : Nat → Int32} {m17 u5 u6 : Nat → Int64} {N : Nat} {M_thrown : Int32} {M_doubted : Int32} {M_evenings : Int32} {M_carried : Int32} {M_looked : Int32} {M_lying : Int32} {M_fewest : Int32} {M_sets : Int32} {M_against : Nat → Int32} {M_row : Nat → Int32} {P_events : Int32} {P_tellers : Int32} {P_claims : Int32} {P_kind : Nat → Int32} {P_by : Nat → Int32} {P_of : Nat → Int32} {P_other : Nat → Int32} {P_last : Nat → Int32} {o : Int64 × Int32 × Int32 × Int32 × Int32 × Int32 × (Nat → Int32)} {Q : Rs → va_W → Prop} (h : f_M_digest N M_thrown M_doubted M_evenings M_carried M_looked M_lying M_fewest M_sets M_against M_row P_events P_tellers P_claims P_kind P_by P_of P_other P_last = some o) (hq : ∀ t2 : va_W, Q (.inl (some (.long o.1))) (wlM g am (ap 0) o.2.1 m1 m2 m3 m4 m5 M_doubted M_evenings M_carried o.2.2.1 o.2.2.2.1 o.2.2.2.2.1 o.2.2.2.2.2.1 m13 m14 m15 m16 m17 m18 M_against o.2.2.2.2.2.2 m21 ++ (wlP g ap P_events P_tellers P_claims u3 u4 u5 u6 P_kind P_by P_of P_other P_last u12 u13 u14 u15 u16 u17 u18 ++ (t2 ++ t)))) : R g mX11_digest 8 1 9 0 [(0, .ref (am 0))] [] (wlM g am (ap 0) M_thrown m1 m2 m3 m4 m5 M_doubted M_evenings M_carried M_looked M_lying M_fewest M_sets m13 m14 m15 m16 m17 m18 M_against M_row m21 ++ (wlP g ap P_events P_tellers P_claims u3 u4 u5 u6 P_kind P_by P_of P_other P_last u12 u13 u14 u15 u16 u17 u18 ++ t)) Q := by
  unfold f_M_digest at h
  refine r_aload_n 0 dX11_digest_0 rfl ?_
  refine r_iconst (v := (0 : Int32)) dX11_digest_1 (by decide) ?_
  refine r_putf _ dX11_digest_2 fl_X11_52 lM_0 (Nat.le_of_ble_eq_true rfl) rfl rfl (sM_0 _) ?_
  refine r_bipush (v := (9 : Int32)) dX11_digest_5 (by decide) ?_
  refine r_newI (x := 0) (y := 0) (N := 9) dX11_digest_7 kk_162 (by decide) (by decide) (by decide) (fun q3t => ?_)
  refine r_perm pmT2 ?_
  refine r_dup dX11_digest_9 rfl ?_
  refine r_iconst (v := (0 : Int32)) dX11_digest_10 (by decide) ?_
  refine r_aload_n 0 dX11_digest_11 rfl ?_
  refine r_getf (v := .ref (ap 0)) _ dX11_digest_12 fl_X11_20 lM_0 rfl ?_
  refine r_getf (v := .int P_events) _ dX11_digest_15 fl_X11_55 lP_0 rfl ?_
  refine r_iast _ dX11_digest_18 lT2 (by decide) (sT2 _) ?_
  refine r_dup dX11_digest_19 rfl ?_
  refine r_iconst (v := (1 : Int32)) dX11_digest_20 (by decide) ?_
  refine r_aload_n 0 dX11_digest_21 rfl ?_
  refine r_getf (v := .ref (ap 0)) _ dX11_digest_22 fl_X11_20 lM_0 rfl ?_
  refine r_getf (v := .int P_tellers) _ dX11_digest_25 fl_X11_62 lP_0 rfl ?_
  refine r_iast _ dX11_digest_28 lT2 (by decide) (sT2 _) ?_
  refine r_dup dX11_digest_29 rfl ?_
  refine r_iconst (v := (2 : Int32)) dX11_digest_30 (by decide) ?_
  refine r_aload_n 0 dX11_digest_31 rfl ?_
  refine r_getf (v := .ref (ap 0)) _ dX11_digest_32 fl_X11_20 lM_0 rfl ?_
  refine r_getf (v := .int P_claims) _ dX11_digest_35 fl_X11_65 lP_0 rfl ?_
  refine r_iast _ dX11_digest_38 lT2 (by decide) (sT2 _) ?_
  refine r_dup dX11_digest_39 rfl ?_
  refine r_iconst (v := (3 : Int32)) dX11_digest_40 (by decide) ?_
  refine r_aload_n 0 dX11_digest_41 rfl ?_
  refine r_getf (v := .int M_evenings) _ dX11_digest_42 fl_X11_156 lM_0 rfl ?_
  refine r_iast _ dX11_digest_45 lT2 (by decide) (sT2 _) ?_
  refine r_dup dX11_digest_46 rfl ?_
  refine r_iconst (v := (4 : Int32)) dX11_digest_47 (by decide) ?_
  refine r_aload_n 0 dX11_digest_48 rfl ?_
  refine r_getf (v := .int M_carried) _ dX11_digest_49 fl_X11_141 lM_0 rfl ?_
  refine r_iast _ dX11_digest_52 lT2 (by decide) (sT2 _) ?_
  refine r_dup dX11_digest_53 rfl ?_
  refine r_iconst (v := (5 : Int32)) dX11_digest_54 (by decide) ?_
  refine r_aload_n 0 dX11_digest_55 rfl ?_
  refine r_aload_n 0 dX11_digest_56 rfl ?_
  refine c_V (rest := [.ref (am 0), .int (5 : Int32), .ref q3t, .ref q3t]) 0 0 _ dX11_digest_57 kv_X11_91 (ct_M_believed rfl) rfl rfl lM_0 rfl (Nat.le_of_ble_eq_true rfl) (by decide) (by decide) ?_
  obtain ⟨r2448, hc2449, h⟩ := ob (fun z9 => z9) rfl h
  refine c_V (rest := [.int (5 : Int32), .ref q3t, .ref q3t]) 0 0 _ dX11_digest_60 kv_X11_162 (ct_M_pairsNow hc2449) rfl rfl lM_0 rfl (Nat.le_of_ble_eq_true rfl) (by decide) (by decide) ?_
  refine r_iast _ dX11_digest_63 lT2 (by decide) (sT2 _) ?_
  refine r_dup dX11_digest_64 rfl ?_
  refine r_bipush (v := (6 : Int32)) dX11_digest_65 (by decide) ?_
  refine r_aload_n 0 dX11_digest_67 rfl ?_
  obtain ⟨r2451, hc2452, h⟩ := ob (fun z9 => z9) rfl h
  refine c_V (rest := [.int (6 : Int32), .ref q3t, .ref q3t]) 0 0 _ dX11_digest_68 kv_X11_159 (ct_M_liarsNow hc2452) rfl rfl lM_0 rfl (Nat.le_of_ble_eq_true rfl) (by decide) (by decide) ?_
  refine r_iast _ dX11_digest_71 lT2 (by decide) (sT2 _) ?_
  refine r_dup dX11_digest_72 rfl ?_
  refine r_bipush (v := (7 : Int32)) dX11_digest_73 (by decide) ?_
  refine r_aload_n 0 dX11_digest_75 rfl ?_
  refine r_getf (v := .int r2451.2.2.2.2) _ dX11_digest_76 fl_X11_107 lM_0 rfl ?_
  refine r_iast _ dX11_digest_79 lT2 (by decide) (sT2 _) ?_
  refine r_dup dX11_digest_80 rfl ?_
  refine r_bipush (v := (8 : Int32)) dX11_digest_81 (by decide) ?_
  refine r_aload_n 0 dX11_digest_83 rfl ?_
  obtain ⟨r2455, hc2456, h⟩ := ob (fun z9 => z9) rfl h
  refine c_V (rest := [.int (8 : Int32), .ref q3t, .ref q3t]) 0 0 _ dX11_digest_84 kv_X11_394 (ct_M_isOrdered hc2456) rfl rfl lM_0 rfl (Nat.le_of_ble_eq_true rfl) (by decide) (by decide) ?_
  refine c_S (rest := [.int (8 : Int32), .ref q3t, .ref q3t]) 0 0 dX11_digest_87 ks_X11_165 (ct_M_one rfl) rfl rfl (Nat.le_of_ble_eq_true rfl) (by decide) (by decide) ?_
  refine r_iast _ dX11_digest_90 lT2 (by decide) (sT2 _) ?_
  refine r_astore_n [(1, .ref q3t), (0, .ref (am 0))] dX11_digest_91 (by decide) rfl ?_
  refine r_ldc2 dX11_digest_92 kk_1960 ?_
  refine r_lstore_n [(2, .long (991 : Int64)), (1, .ref q3t), (0, .ref (am 0))] dX11_digest_95 (by decide) rfl ?_
  refine r_aload_n 1 dX11_digest_96 rfl ?_
  refine r_astore [(4, .ref q3t), (2, .long (991 : Int64)), (1, .ref q3t), (0, .ref (am 0))] dX11_digest_97 (by decide) rfl ?_
  refine r_aload 0 dX11_digest_99 rfl ?_
  refine r_alenI (v := (9 : Int32)) _ dX11_digest_101 lT2 (by decide) ?_
  refine r_istore [(5, .int (9 : Int32)), (4, .ref q3t), (2, .long (991 : Int64)), (1, .ref q3t), (0, .ref (am 0))] dX11_digest_102 (by decide) rfl ?_
  refine r_iconst (v := (0 : Int32)) dX11_digest_104 (by decide) ?_
  refine r_istore [(6, .int (0 : Int32)), (5, .int (9 : Int32)), (4, .ref q3t), (2, .long (991 : Int64)), (1, .ref q3t), (0, .ref (am 0))] dX11_digest_105 (by decide) rfl ?_
  refine r_ls [5, 3, 2, 1, 0] (ls2 := [(0, .ref (am 0)), (2, .long (991 : Int64)), (4, .ref q3t), (5, .int (9 : Int32)), (6, .int (0 : Int32))]) rfl ?_
  have L1 : ∀ (n1 : Nat) (M_looked_c1 : Int32) (M_lying_c1 : Int32) (M_fewest_c1 : Int32) (M_sets_c1 : Int32) (M_row_c1 : Nat → Int32) (tmp3_c1 : Nat → Int32) (l2_1 : Int64) (l6_1 : Int32), (fun z9 => z9) (lpS (f_M_digest_L107 N M_doubted M_against P_events P_tellers P_claims P_kind P_by P_of P_other P_last M_looked_c1 M_lying_c1 M_fewest_c1 M_sets_c1 M_row_c1 tmp3_c1) none n1 (l2_1, l6_1)) = some o → R g mX11_digest 8 0 0 107 [(0, .ref (am 0)), (2, .long l2_1), (4, .ref q3t), (5, .int (9 : Int32)), (6, .int l6_1)] [] (wlM g am (ap 0) (0 : Int32) m1 m2 m3 m4 m5 M_doubted M_evenings M_carried M_looked_c1 M_lying_c1 M_fewest_c1 M_sets_c1 m13 m14 m15 m16 m17 m18 M_against M_row_c1 m21 ++ (wlP g ap P_events P_tellers P_claims u3 u4 u5 u6 P_kind P_by P_of P_other P_last u12 u13 u14 u15 u16 u17 u18 ++ ((q3t, iA g 9 tmp3_c1) :: t))) Q := by
    intro n1
    induction n1 with
    | zero => intro M_looked_c1 M_lying_c1 M_fewest_c1 M_sets_c1 M_row_c1 tmp3_c1 l2_1 l6_1 h; exact nomatch (show (none : Option _) = some _ from h)
    | succ n1 ih1 =>
      intro M_looked_c1 M_lying_c1 M_fewest_c1 M_sets_c1 M_row_c1 tmp3_c1 l2_1 l6_1 h
      have h : (fun z9 => (lC (f_M_digest_L107 N M_doubted M_against P_events P_tellers P_claims P_kind P_by P_of P_other P_last M_looked_c1 M_lying_c1 M_fewest_c1 M_sets_c1 M_row_c1 tmp3_c1) none n1 z9)) (f_M_digest_L107 N M_doubted M_against P_events P_tellers P_claims P_kind P_by P_of P_other P_last M_looked_c1 M_lying_c1 M_fewest_c1 M_sets_c1 M_row_c1 tmp3_c1 (l2_1, l6_1)) = some o := h
      unfold f_M_digest_L107 at h
      try dsimp only at h
      refine r_iload 4 dX11_digest_107 rfl ?_
      refine r_iload 3 dX11_digest_109 rfl ?_
      refine r_icmp_ge (tgt := 137) dX11_digest_111 (by decide) (fun hc2458 => ?_) (fun hc2458 => ?_)
      · have h := ip (fun z9 => (lC (f_M_digest_L107 N M_doubted M_against P_events P_tellers P_claims P_kind P_by P_of P_other P_last M_looked_c1 M_lying_c1 M_fewest_c1 M_sets_c1 M_row_c1 tmp3_c1) none n1 z9)) hc2458 h
        refine r_iconst (v := (0 : Int32)) dX11_digest_137 (by decide) ?_
        refine r_istore [(4, .int (0 : Int32)), (0, .ref (am 0)), (2, .long l2_1), (5, .int (9 : Int32)), (6, .int l6_1)] dX11_digest_138 (by decide) rfl ?_
        refine r_ls [1, 2, 0] (ls2 := [(0, .ref (am 0)), (2, .long l2_1), (4, .int (0 : Int32))]) rfl ?_
        have L2 : ∀ (n2 : Nat) (l2_2 : Int64) (l4_2 : Int32), (fun z9 => (lC (f_M_digest_L107 N M_doubted M_against P_events P_tellers P_claims P_kind P_by P_of P_other P_last M_looked_c1 M_lying_c1 M_fewest_c1 M_sets_c1 M_row_c1 tmp3_c1) none n1 z9)) (lpS (f_M_digest_L140 N M_doubted M_against P_events P_tellers P_claims P_kind P_by P_of P_other P_last M_looked_c1 M_lying_c1 M_fewest_c1 M_sets_c1 M_row_c1) (.inr none) n2 (l2_2, l4_2)) = some o → R g mX11_digest 8 0 0 140 [(0, .ref (am 0)), (2, .long l2_2), (4, .int l4_2)] [] (wlM g am (ap 0) (0 : Int32) m1 m2 m3 m4 m5 M_doubted M_evenings M_carried M_looked_c1 M_lying_c1 M_fewest_c1 M_sets_c1 m13 m14 m15 m16 m17 m18 M_against M_row_c1 m21 ++ (wlP g ap P_events P_tellers P_claims u3 u4 u5 u6 P_kind P_by P_of P_other P_last u12 u13 u14 u15 u16 u17 u18 ++ ((q3t, iA g 9 tmp3_c1) :: t))) Q := by
          intro n2
          induction n2 with
          | zero => intro l2_2 l4_2 h; exact nomatch (show (none : Option _) = some _ from h)
          | succ n2 ih2 =>
            intro l2_2 l4_2 h
            have h : (fun z9 => (lC (f_M_digest_L107 N M_doubted M_against P_events P_tellers P_claims P_kind P_by P_of P_other P_last M_looked_c1 M_lying_c1 M_fewest_c1 M_sets_c1 M_row_c1 tmp3_c1) none n1 (lC (f_M_digest_L140 N M_doubted M_against P_events P_tellers P_claims P_kind P_by P_of P_other P_last M_looked_c1 M_lying_c1 M_fewest_c1 M_sets_c1 M_row_c1) (.inr none) n2 z9))) (f_M_digest_L140 N M_doubted M_against P_events P_tellers P_claims P_kind P_by P_of P_other P_last M_looked_c1 M_lying_c1 M_fewest_c1 M_sets_c1 M_row_c1 (l2_2, l4_2)) = some o := h
            unfold f_M_digest_L140 at h
            try dsimp only at h
            refine r_iload 2 dX11_digest_140 rfl ?_
            refine r_aload_n 0 dX11_digest_142 rfl ?_
            refine r_getf (v := .ref (ap 0)) _ dX11_digest_143 fl_X11_20 lM_0 rfl ?_
            refine r_getf (v := .int P_claims) _ dX11_digest_146 fl_X11_65 lP_0 rfl ?_
            refine r_icmp_ge (tgt := 208) dX11_digest_149 (by decide) (fun hc2459 => ?_) (fun hc2459 => ?_)
            · have h := ip (fun z9 => (lC (f_M_digest_L107 N M_doubted M_against P_events P_tellers P_claims P_kind P_by P_of P_other P_last M_looked_c1 M_lying_c1 M_fewest_c1 M_sets_c1 M_row_c1 tmp3_c1) none n1 (lC (f_M_digest_L140 N M_doubted M_against P_events P_tellers P_claims P_kind P_by P_of P_other P_last M_looked_c1 M_lying_c1 M_fewest_c1 M_sets_c1 M_row_c1) (.inr none) n2 z9))) hc2459 h
              refine r_iconst (v := (0 : Int32)) dX11_digest_208 (by decide) ?_
              refine r_istore [(4, .int (0 : Int32)), (0, .ref (am 0)), (2, .long l2_2)] dX11_digest_209 (by decide) rfl ?_
              refine r_ls [1, 2, 0] (ls2 := [(0, .ref (am 0)), (2, .long l2_2), (4, .int (0 : Int32))]) rfl ?_
              have L3 : ∀ (n3 : Nat) (l2_3 : Int64) (l4_3 : Int32) (M_looked_3 : Int32) (M_lying_3 : Int32) (M_fewest_3 : Int32) (M_sets_3 : Int32), (fun z9 => (lC (f_M_digest_L107 N M_doubted M_against P_events P_tellers P_claims P_kind P_by P_of P_other P_last M_looked_c1 M_lying_c1 M_fewest_c1 M_sets_c1 M_row_c1 tmp3_c1) none n1 (lC (f_M_digest_L140 N M_doubted M_against P_events P_tellers P_claims P_kind P_by P_of P_other P_last M_looked_c1 M_lying_c1 M_fewest_c1 M_sets_c1 M_row_c1) (.inr none) n2 z9))) (lpS (f_M_digest_L211 N M_doubted M_against P_events P_tellers P_claims P_kind P_by P_of P_other P_last M_row_c1) (.inr (.inr none)) n3 (l2_3, l4_3, M_looked_3, M_lying_3, M_fewest_3, M_sets_3)) = some o → R g mX11_digest 8 0 0 211 [(0, .ref (am 0)), (2, .long l2_3), (4, .int l4_3)] [] (wlM g am (ap 0) (0 : Int32) m1 m2 m3 m4 m5 M_doubted M_evenings M_carried M_looked_3 M_lying_3 M_fewest_3 M_sets_3 m13 m14 m15 m16 m17 m18 M_against M_row_c1 m21 ++ (wlP g ap P_events P_tellers P_claims u3 u4 u5 u6 P_kind P_by P_of P_other P_last u12 u13 u14 u15 u16 u17 u18 ++ ((q3t, iA g 9 tmp3_c1) :: t))) Q := by
                intro n3
                induction n3 with
                | zero => intro l2_3 l4_3 M_looked_3 M_lying_3 M_fewest_3 M_sets_3 h; exact nomatch (show (none : Option _) = some _ from h)
                | succ n3 ih3 =>
                  intro l2_3 l4_3 M_looked_3 M_lying_3 M_fewest_3 M_sets_3 h
                  have h : (fun z9 => (lC (f_M_digest_L107 N M_doubted M_against P_events P_tellers P_claims P_kind P_by P_of P_other P_last M_looked_c1 M_lying_c1 M_fewest_c1 M_sets_c1 M_row_c1 tmp3_c1) none n1 (lC (f_M_digest_L140 N M_doubted M_against P_events P_tellers P_claims P_kind P_by P_of P_other P_last M_looked_c1 M_lying_c1 M_fewest_c1 M_sets_c1 M_row_c1) (.inr none) n2 (lC (f_M_digest_L211 N M_doubted M_against P_events P_tellers P_claims P_kind P_by P_of P_other P_last M_row_c1) (.inr (.inr none)) n3 z9)))) (f_M_digest_L211 N M_doubted M_against P_events P_tellers P_claims P_kind P_by P_of P_other P_last M_row_c1 (l2_3, l4_3, M_looked_3, M_lying_3, M_fewest_3, M_sets_3)) = some o := h
                  unfold f_M_digest_L211 at h
                  try dsimp only at h
                  refine r_iload 2 dX11_digest_211 rfl ?_
                  refine r_aload_n 0 dX11_digest_213 rfl ?_
                  refine r_getf (v := .ref (ap 0)) _ dX11_digest_214 fl_X11_20 lM_0 rfl ?_
                  refine r_getf (v := .int P_tellers) _ dX11_digest_217 fl_X11_62 lP_0 rfl ?_
                  refine r_icmp_ge (tgt := 316) dX11_digest_220 (by decide) (fun hc2460 => ?_) (fun hc2460 => ?_)
                  · have h := ip (fun z9 => (lC (f_M_digest_L107 N M_doubted M_against P_events P_tellers P_claims P_kind P_by P_of P_other P_last M_looked_c1 M_lying_c1 M_fewest_c1 M_sets_c1 M_row_c1 tmp3_c1) none n1 (lC (f_M_digest_L140 N M_doubted M_against P_events P_tellers P_claims P_kind P_by P_of P_other P_last M_looked_c1 M_lying_c1 M_fewest_c1 M_sets_c1 M_row_c1) (.inr none) n2 (lC (f_M_digest_L211 N M_doubted M_against P_events P_tellers P_claims P_kind P_by P_of P_other P_last M_row_c1) (.inr (.inr none)) n3 z9)))) hc2460 h
                    refine r_aload_n 0 dX11_digest_316 rfl ?_
                    refine r_lload_n 1 dX11_digest_317 rfl ?_
                    obtain ⟨r2461, hc2462, h⟩ := ob (fun z9 => (lC (f_M_digest_L107 N M_doubted M_against P_events P_tellers P_claims P_kind P_by P_of P_other P_last M_looked_c1 M_lying_c1 M_fewest_c1 M_sets_c1 M_row_c1 tmp3_c1) none n1 (lC (f_M_digest_L140 N M_doubted M_against P_events P_tellers P_claims P_kind P_by P_of P_other P_last M_looked_c1 M_lying_c1 M_fewest_c1 M_sets_c1 M_row_c1) (.inr none) n2 (lC (f_M_digest_L211 N M_doubted M_against P_events P_tellers P_claims P_kind P_by P_of P_other P_last M_row_c1) (.inr (.inr none)) n3 z9)))) rfl h
                    refine c_V (rest := []) 0 0 _ dX11_digest_318 kv_X11_416 (ct_M_digestEvents hc2462) rfl rfl lM_0 rfl (Nat.le_of_ble_eq_true rfl) (by decide) (by decide) ?_
                    refine r_lret dX11_digest_321 rfl ?_
                    have h := Option.some.inj (show some _ = some o from h)
                    subst h
                    first | exact hq [] | exact hq [_]
                  · have h := iq (fun z9 => (lC (f_M_digest_L107 N M_doubted M_against P_events P_tellers P_claims P_kind P_by P_of P_other P_last M_looked_c1 M_lying_c1 M_fewest_c1 M_sets_c1 M_row_c1 tmp3_c1) none n1 (lC (f_M_digest_L140 N M_doubted M_against P_events P_tellers P_claims P_kind P_by P_of P_other P_last M_looked_c1 M_lying_c1 M_fewest_c1 M_sets_c1 M_row_c1) (.inr none) n2 (lC (f_M_digest_L211 N M_doubted M_against P_events P_tellers P_claims P_kind P_by P_of P_other P_last M_row_c1) (.inr (.inr none)) n3 z9)))) hc2460 h
                    refine r_lload_n 1 dX11_digest_223 rfl ?_
                    refine r_ldc2 dX11_digest_224 kk_1961 ?_
                    refine r_lmul dX11_digest_227 ?_
                    refine r_aload_n 0 dX11_digest_228 rfl ?_
                    refine r_iload 2 dX11_digest_229 rfl ?_
                    obtain ⟨r2463, hc2464, h⟩ := ob (fun z9 => (lC (f_M_digest_L107 N M_doubted M_against P_events P_tellers P_claims P_kind P_by P_of P_other P_last M_looked_c1 M_lying_c1 M_fewest_c1 M_sets_c1 M_row_c1 tmp3_c1) none n1 (lC (f_M_digest_L140 N M_doubted M_against P_events P_tellers P_claims P_kind P_by P_of P_other P_last M_looked_c1 M_lying_c1 M_fewest_c1 M_sets_c1 M_row_c1) (.inr none) n2 (lC (f_M_digest_L211 N M_doubted M_against P_events P_tellers P_claims P_kind P_by P_of P_other P_last M_row_c1) (.inr (.inr none)) n3 z9)))) rfl h
                    refine c_V (rest := [.long (l2_3 * (31 : Int64))]) 0 0 _ dX11_digest_231 kv_X11_169 (ct_M_claimsBy hc2464) rfl rfl lM_0 rfl (Nat.le_of_ble_eq_true rfl) (by decide) (by decide) ?_
                    refine r_i2l dX11_digest_234 ?_
                    refine r_ladd dX11_digest_235 ?_
                    refine r_ldc2 dX11_digest_236 kk_1961 ?_
                    refine r_lmul dX11_digest_239 ?_
                    refine r_aload_n 0 dX11_digest_240 rfl ?_
                    refine r_getf (v := .int M_doubted) _ dX11_digest_241 fl_X11_85 lM_0 rfl ?_
                    refine r_iload 2 dX11_digest_244 rfl ?_
                    refine c_S (rest := [.long (((l2_3 * (31 : Int64)) + r2463.toInt64) * (31 : Int64))]) 0 0 dX11_digest_246 ks_X11_88 (ct_M_has rfl) rfl rfl (Nat.le_of_ble_eq_true rfl) (by decide) (by decide) ?_
                    refine c_S (rest := [.long (((l2_3 * (31 : Int64)) + r2463.toInt64) * (31 : Int64))]) 0 0 dX11_digest_249 ks_X11_165 (ct_M_one rfl) rfl rfl (Nat.le_of_ble_eq_true rfl) (by decide) (by decide) ?_
                    refine r_i2l dX11_digest_252 ?_
                    refine r_ladd dX11_digest_253 ?_
                    refine r_ldc2 dX11_digest_254 kk_1961 ?_
                    refine r_lmul dX11_digest_257 ?_
                    refine r_aload_n 0 dX11_digest_258 rfl ?_
                    refine r_iload 2 dX11_digest_259 rfl ?_
                    obtain ⟨r2465, hc2466, h⟩ := ob (fun z9 => (lC (f_M_digest_L107 N M_doubted M_against P_events P_tellers P_claims P_kind P_by P_of P_other P_last M_looked_c1 M_lying_c1 M_fewest_c1 M_sets_c1 M_row_c1 tmp3_c1) none n1 (lC (f_M_digest_L140 N M_doubted M_against P_events P_tellers P_claims P_kind P_by P_of P_other P_last M_looked_c1 M_lying_c1 M_fewest_c1 M_sets_c1 M_row_c1) (.inr none) n2 (lC (f_M_digest_L211 N M_doubted M_against P_events P_tellers P_claims P_kind P_by P_of P_other P_last M_row_c1) (.inr (.inr none)) n3 z9)))) rfl h
                    refine c_V (rest := [.long (((((l2_3 * (31 : Int64)) + r2463.toInt64) * (31 : Int64)) + (f_M_one (f_M_has M_doubted l4_3)).toInt64) * (31 : Int64))]) 0 0 _ dX11_digest_261 kv_X11_178 (ct_M_lies hc2466) rfl rfl lM_0 rfl (Nat.le_of_ble_eq_true rfl) (by decide) (by decide) ?_
                    refine c_S (rest := [.long (((((l2_3 * (31 : Int64)) + r2463.toInt64) * (31 : Int64)) + (f_M_one (f_M_has M_doubted l4_3)).toInt64) * (31 : Int64))]) 0 0 dX11_digest_264 ks_X11_165 (ct_M_one rfl) rfl rfl (Nat.le_of_ble_eq_true rfl) (by decide) (by decide) ?_
                    refine r_i2l dX11_digest_267 ?_
                    refine r_ladd dX11_digest_268 ?_
                    refine r_lstore_n [(2, .long ((((((l2_3 * (31 : Int64)) + r2463.toInt64) * (31 : Int64)) + (f_M_one (f_M_has M_doubted l4_3)).toInt64) * (31 : Int64)) + (f_M_one r2465.1).toInt64)), (0, .ref (am 0)), (4, .int l4_3)] dX11_digest_269 (by decide) rfl ?_
                    refine r_iconst (v := (0 : Int32)) dX11_digest_270 (by decide) ?_
                    refine r_istore [(5, .int (0 : Int32)), (2, .long ((((((l2_3 * (31 : Int64)) + r2463.toInt64) * (31 : Int64)) + (f_M_one (f_M_has M_doubted l4_3)).toInt64) * (31 : Int64)) + (f_M_one r2465.1).toInt64)), (0, .ref (am 0)), (4, .int l4_3)] dX11_digest_271 (by decide) rfl ?_
                    refine r_ls [2, 1, 3, 0] (ls2 := [(0, .ref (am 0)), (2, .long ((((((l2_3 * (31 : Int64)) + r2463.toInt64) * (31 : Int64)) + (f_M_one (f_M_has M_doubted l4_3)).toInt64) * (31 : Int64)) + (f_M_one r2465.1).toInt64)), (4, .int l4_3), (5, .int (0 : Int32))]) rfl ?_
                    have L4 : ∀ (n4 : Nat) (M_looked_c4 : Int32) (M_lying_c4 : Int32) (M_fewest_c4 : Int32) (M_sets_c4 : Int32) (l2_4 : Int64) (l5_4 : Int32), (fun z9 => (lC (f_M_digest_L107 N M_doubted M_against P_events P_tellers P_claims P_kind P_by P_of P_other P_last M_looked_c1 M_lying_c1 M_fewest_c1 M_sets_c1 M_row_c1 tmp3_c1) none n1 (lC (f_M_digest_L140 N M_doubted M_against P_events P_tellers P_claims P_kind P_by P_of P_other P_last M_looked_c1 M_lying_c1 M_fewest_c1 M_sets_c1 M_row_c1) (.inr none) n2 (lC (f_M_digest_L211 N M_doubted M_against P_events P_tellers P_claims P_kind P_by P_of P_other P_last M_row_c1) (.inr (.inr none)) n3 z9)))) (lpS (f_M_digest_L273 M_doubted M_against P_tellers l4_3 M_looked_c4 M_lying_c4 M_fewest_c4 M_sets_c4) (.inr (.inr (.inr none))) n4 (l2_4, l5_4)) = some o → R g mX11_digest 8 0 0 273 [(0, .ref (am 0)), (2, .long l2_4), (4, .int l4_3), (5, .int l5_4)] [] (wlM g am (ap 0) (0 : Int32) m1 m2 m3 m4 m5 M_doubted M_evenings M_carried M_looked_c4 M_lying_c4 M_fewest_c4 M_sets_c4 m13 m14 m15 m16 m17 m18 M_against M_row_c1 m21 ++ (wlP g ap P_events P_tellers P_claims u3 u4 u5 u6 P_kind P_by P_of P_other P_last u12 u13 u14 u15 u16 u17 u18 ++ ((q3t, iA g 9 tmp3_c1) :: t))) Q := by
                      intro n4
                      induction n4 with
                      | zero => intro M_looked_c4 M_lying_c4 M_fewest_c4 M_sets_c4 l2_4 l5_4 h; exact nomatch (show (none : Option _) = some _ from h)
                      | succ n4 ih4 =>
                        intro M_looked_c4 M_lying_c4 M_fewest_c4 M_sets_c4 l2_4 l5_4 h
                        have h : (fun z9 => (lC (f_M_digest_L107 N M_doubted M_against P_events P_tellers P_claims P_kind P_by P_of P_other P_last M_looked_c1 M_lying_c1 M_fewest_c1 M_sets_c1 M_row_c1 tmp3_c1) none n1 (lC (f_M_digest_L140 N M_doubted M_against P_events P_tellers P_claims P_kind P_by P_of P_other P_last M_looked_c1 M_lying_c1 M_fewest_c1 M_sets_c1 M_row_c1) (.inr none) n2 (lC (f_M_digest_L211 N M_doubted M_against P_events P_tellers P_claims P_kind P_by P_of P_other P_last M_row_c1) (.inr (.inr none)) n3 (lC (f_M_digest_L273 M_doubted M_against P_tellers l4_3 M_looked_c4 M_lying_c4 M_fewest_c4 M_sets_c4) (.inr (.inr (.inr none))) n4 z9))))) (f_M_digest_L273 M_doubted M_against P_tellers l4_3 M_looked_c4 M_lying_c4 M_fewest_c4 M_sets_c4 (l2_4, l5_4)) = some o := h
                        unfold f_M_digest_L273 at h
                        try dsimp only at h
                        refine r_iload 3 dX11_digest_273 rfl ?_
                        refine r_aload_n 0 dX11_digest_275 rfl ?_
                        refine r_getf (v := .ref (ap 0)) _ dX11_digest_276 fl_X11_20 lM_0 rfl ?_
                        refine r_getf (v := .int P_tellers) _ dX11_digest_279 fl_X11_62 lP_0 rfl ?_
                        refine r_icmp_ge (tgt := 310) dX11_digest_282 (by decide) (fun hc2467 => ?_) (fun hc2467 => ?_)
                        · have h := ip (fun z9 => (lC (f_M_digest_L107 N M_doubted M_against P_events P_tellers P_claims P_kind P_by P_of P_other P_last M_looked_c1 M_lying_c1 M_fewest_c1 M_sets_c1 M_row_c1 tmp3_c1) none n1 (lC (f_M_digest_L140 N M_doubted M_against P_events P_tellers P_claims P_kind P_by P_of P_other P_last M_looked_c1 M_lying_c1 M_fewest_c1 M_sets_c1 M_row_c1) (.inr none) n2 (lC (f_M_digest_L211 N M_doubted M_against P_events P_tellers P_claims P_kind P_by P_of P_other P_last M_row_c1) (.inr (.inr none)) n3 (lC (f_M_digest_L273 M_doubted M_against P_tellers l4_3 M_looked_c4 M_lying_c4 M_fewest_c4 M_sets_c4) (.inr (.inr (.inr none))) n4 z9))))) hc2467 h
                          refine r_iinc (v2 := (l4_3 + (1 : Int32))) 2 [(4, .int (l4_3 + (1 : Int32))), (0, .ref (am 0)), (2, .long l2_4), (5, .int l5_4)] dX11_digest_310 rfl rfl (by decide) rfl ?_
                          refine r_goto (tgt := 211) dX11_digest_313 (by decide) ?_
                          refine r_ls [1, 2, 0] (ls2 := [(0, .ref (am 0)), (2, .long l2_4), (4, .int (l4_3 + (1 : Int32)))]) rfl ?_
                          exact ih3 l2_4 (l4_3 + (1 : Int32)) M_looked_c4 M_lying_c4 M_fewest_c4 M_sets_c4 h
                        · have h := iq (fun z9 => (lC (f_M_digest_L107 N M_doubted M_against P_events P_tellers P_claims P_kind P_by P_of P_other P_last M_looked_c1 M_lying_c1 M_fewest_c1 M_sets_c1 M_row_c1 tmp3_c1) none n1 (lC (f_M_digest_L140 N M_doubted M_against P_events P_tellers P_claims P_kind P_by P_of P_other P_last M_looked_c1 M_lying_c1 M_fewest_c1 M_sets_c1 M_row_c1) (.inr none) n2 (lC (f_M_digest_L211 N M_doubted M_against P_events P_tellers P_claims P_kind P_by P_of P_other P_last M_row_c1) (.inr (.inr none)) n3 (lC (f_M_digest_L273 M_doubted M_against P_tellers l4_3 M_looked_c4 M_lying_c4 M_fewest_c4 M_sets_c4) (.inr (.inr (.inr none))) n4 z9))))) hc2467 h
                          refine r_lload_n 1 dX11_digest_285 rfl ?_
                          refine r_ldc2 dX11_digest_286 kk_1961 ?_
                          refine r_lmul dX11_digest_289 ?_
                          refine r_aload_n 0 dX11_digest_290 rfl ?_
                          refine r_iload 2 dX11_digest_291 rfl ?_
                          refine r_iload 3 dX11_digest_293 rfl ?_
                          obtain ⟨r2468, hc2469, h⟩ := ob (fun z9 => (lC (f_M_digest_L107 N M_doubted M_against P_events P_tellers P_claims P_kind P_by P_of P_other P_last M_looked_c1 M_lying_c1 M_fewest_c1 M_sets_c1 M_row_c1 tmp3_c1) none n1 (lC (f_M_digest_L140 N M_doubted M_against P_events P_tellers P_claims P_kind P_by P_of P_other P_last M_looked_c1 M_lying_c1 M_fewest_c1 M_sets_c1 M_row_c1) (.inr none) n2 (lC (f_M_digest_L211 N M_doubted M_against P_events P_tellers P_claims P_kind P_by P_of P_other P_last M_row_c1) (.inr (.inr none)) n3 (lC (f_M_digest_L273 M_doubted M_against P_tellers l4_3 M_looked_c4 M_lying_c4 M_fewest_c4 M_sets_c4) (.inr (.inr (.inr none))) n4 z9))))) rfl h
                          refine c_V (rest := [.long (l2_4 * (31 : Int64))]) 0 0 _ dX11_digest_295 kv_X11_175 (ct_M_doContradictNow hc2469) rfl rfl lM_0 rfl (Nat.le_of_ble_eq_true rfl) (by decide) (by decide) ?_
                          refine c_S (rest := [.long (l2_4 * (31 : Int64))]) 0 0 dX11_digest_298 ks_X11_165 (ct_M_one rfl) rfl rfl (Nat.le_of_ble_eq_true rfl) (by decide) (by decide) ?_
                          refine r_i2l dX11_digest_301 ?_
                          refine r_ladd dX11_digest_302 ?_
                          refine r_lstore_n [(2, .long ((l2_4 * (31 : Int64)) + (f_M_one r2468).toInt64)), (0, .ref (am 0)), (4, .int l4_3), (5, .int l5_4)] dX11_digest_303 (by decide) rfl ?_
                          refine r_iinc (v2 := (l5_4 + (1 : Int32))) 3 [(5, .int (l5_4 + (1 : Int32))), (2, .long ((l2_4 * (31 : Int64)) + (f_M_one r2468).toInt64)), (0, .ref (am 0)), (4, .int l4_3)] dX11_digest_304 rfl rfl (by decide) rfl ?_
                          refine r_goto (tgt := 273) dX11_digest_307 (by decide) ?_
                          refine r_ls [2, 1, 3, 0] (ls2 := [(0, .ref (am 0)), (2, .long ((l2_4 * (31 : Int64)) + (f_M_one r2468).toInt64)), (4, .int l4_3), (5, .int (l5_4 + (1 : Int32)))]) rfl ?_
                          exact ih4 M_looked_c4 M_lying_c4 M_fewest_c4 M_sets_c4 ((l2_4 * (31 : Int64)) + (f_M_one r2468).toInt64) (l5_4 + (1 : Int32)) h
                    exact L4 _ r2465.2.1 r2465.2.2.1 r2465.2.2.2.1 r2465.2.2.2.2 ((((((l2_3 * (31 : Int64)) + r2463.toInt64) * (31 : Int64)) + (f_M_one (f_M_has M_doubted l4_3)).toInt64) * (31 : Int64)) + (f_M_one r2465.1).toInt64) (0 : Int32) h
              exact L3 _ l2_2 (0 : Int32) M_looked_c1 M_lying_c1 M_fewest_c1 M_sets_c1 h
            · have h := iq (fun z9 => (lC (f_M_digest_L107 N M_doubted M_against P_events P_tellers P_claims P_kind P_by P_of P_other P_last M_looked_c1 M_lying_c1 M_fewest_c1 M_sets_c1 M_row_c1 tmp3_c1) none n1 (lC (f_M_digest_L140 N M_doubted M_against P_events P_tellers P_claims P_kind P_by P_of P_other P_last M_looked_c1 M_lying_c1 M_fewest_c1 M_sets_c1 M_row_c1) (.inr none) n2 z9))) hc2459 h
              refine r_lload_n 1 dX11_digest_152 rfl ?_
              refine r_ldc2 dX11_digest_153 kk_1961 ?_
              refine r_lmul dX11_digest_156 ?_
              refine r_aload_n 0 dX11_digest_157 rfl ?_
              refine r_getf (v := .ref (ap 0)) _ dX11_digest_158 fl_X11_20 lM_0 rfl ?_
              refine r_getf (v := .ref (ap 4)) _ dX11_digest_161 fl_X11_82 lP_0 rfl ?_
              refine r_iload 2 dX11_digest_164 rfl ?_
              obtain ⟨hb2470, h⟩ := gd (fun z9 => (lC (f_M_digest_L107 N M_doubted M_against P_events P_tellers P_claims P_kind P_by P_of P_other P_last M_looked_c1 M_lying_c1 M_fewest_c1 M_sets_c1 M_row_c1 tmp3_c1) none n1 (lC (f_M_digest_L140 N M_doubted M_against P_events P_tellers P_claims P_kind P_by P_of P_other P_last M_looked_c1 M_lying_c1 M_fewest_c1 M_sets_c1 M_row_c1) (.inr none) n2 z9))) rfl h
              refine r_iald _ dX11_digest_166 lP_4 hb2470 ?_
              refine r_i2l dX11_digest_167 ?_
              refine r_ladd dX11_digest_168 ?_
              refine r_ldc2 dX11_digest_169 kk_1961 ?_
              refine r_lmul dX11_digest_172 ?_
              refine r_aload_n 0 dX11_digest_173 rfl ?_
              refine r_getf (v := .ref (ap 0)) _ dX11_digest_174 fl_X11_20 lM_0 rfl ?_
              refine r_getf (v := .ref (ap 3)) _ dX11_digest_177 fl_X11_68 lP_0 rfl ?_
              refine r_iload 2 dX11_digest_180 rfl ?_
              obtain ⟨hb2471, h⟩ := gd (fun z9 => (lC (f_M_digest_L107 N M_doubted M_against P_events P_tellers P_claims P_kind P_by P_of P_other P_last M_looked_c1 M_lying_c1 M_fewest_c1 M_sets_c1 M_row_c1 tmp3_c1) none n1 (lC (f_M_digest_L140 N M_doubted M_against P_events P_tellers P_claims P_kind P_by P_of P_other P_last M_looked_c1 M_lying_c1 M_fewest_c1 M_sets_c1 M_row_c1) (.inr none) n2 z9))) rfl h
              refine r_iald _ dX11_digest_182 lP_3 hb2471 ?_
              refine r_i2l dX11_digest_183 ?_
              refine r_ladd dX11_digest_184 ?_
              refine r_ldc2 dX11_digest_185 kk_1961 ?_
              refine r_lmul dX11_digest_188 ?_
              refine r_aload_n 0 dX11_digest_189 rfl ?_
              refine r_getf (v := .ref (ap 0)) _ dX11_digest_190 fl_X11_20 lM_0 rfl ?_
              refine r_getf (v := .ref (ap 5)) _ dX11_digest_193 fl_X11_73 lP_0 rfl ?_
              refine r_iload 2 dX11_digest_196 rfl ?_
              obtain ⟨hb2472, h⟩ := gd (fun z9 => (lC (f_M_digest_L107 N M_doubted M_against P_events P_tellers P_claims P_kind P_by P_of P_other P_last M_looked_c1 M_lying_c1 M_fewest_c1 M_sets_c1 M_row_c1 tmp3_c1) none n1 (lC (f_M_digest_L140 N M_doubted M_against P_events P_tellers P_claims P_kind P_by P_of P_other P_last M_looked_c1 M_lying_c1 M_fewest_c1 M_sets_c1 M_row_c1) (.inr none) n2 z9))) rfl h
              refine r_iald _ dX11_digest_198 lP_5 hb2472 ?_
              refine r_i2l dX11_digest_199 ?_
              refine r_ladd dX11_digest_200 ?_
              refine r_lstore_n [(2, .long ((((((l2_2 * (31 : Int64)) + (P_by l4_2.toNatClampNeg).toInt64) * (31 : Int64)) + (P_kind l4_2.toNatClampNeg).toInt64) * (31 : Int64)) + (P_of l4_2.toNatClampNeg).toInt64)), (0, .ref (am 0)), (4, .int l4_2)] dX11_digest_201 (by decide) rfl ?_
              refine r_iinc (v2 := (l4_2 + (1 : Int32))) 2 [(4, .int (l4_2 + (1 : Int32))), (2, .long ((((((l2_2 * (31 : Int64)) + (P_by l4_2.toNatClampNeg).toInt64) * (31 : Int64)) + (P_kind l4_2.toNatClampNeg).toInt64) * (31 : Int64)) + (P_of l4_2.toNatClampNeg).toInt64)), (0, .ref (am 0))] dX11_digest_202 rfl rfl (by decide) rfl ?_
              refine r_goto (tgt := 140) dX11_digest_205 (by decide) ?_
              refine r_ls [2, 1, 0] (ls2 := [(0, .ref (am 0)), (2, .long ((((((l2_2 * (31 : Int64)) + (P_by l4_2.toNatClampNeg).toInt64) * (31 : Int64)) + (P_kind l4_2.toNatClampNeg).toInt64) * (31 : Int64)) + (P_of l4_2.toNatClampNeg).toInt64)), (4, .int (l4_2 + (1 : Int32)))]) rfl ?_
              exact ih2 ((((((l2_2 * (31 : Int64)) + (P_by l4_2.toNatClampNeg).toInt64) * (31 : Int64)) + (P_kind l4_2.toNatClampNeg).toInt64) * (31 : Int64)) + (P_of l4_2.toNatClampNeg).toInt64) (l4_2 + (1 : Int32)) h
        exact L2 _ l2_1 (0 : Int32) h
      · have h := iq (fun z9 => (lC (f_M_digest_L107 N M_doubted M_against P_events P_tellers P_claims P_kind P_by P_of P_other P_last M_looked_c1 M_lying_c1 M_fewest_c1 M_sets_c1 M_row_c1 tmp3_c1) none n1 z9)) hc2458 h
        refine r_aload 2 dX11_digest_114 rfl ?_
        refine r_iload 4 dX11_digest_116 rfl ?_
        obtain ⟨hb2473, h⟩ := gd (fun z9 => (lC (f_M_digest_L107 N M_doubted M_against P_events P_tellers P_claims P_kind P_by P_of P_other P_last M_looked_c1 M_lying_c1 M_fewest_c1 M_sets_c1 M_row_c1 tmp3_c1) none n1 z9)) rfl h
        refine r_iald _ dX11_digest_118 lT2 hb2473 ?_
        refine r_istore [(7, .int (tmp3_c1 l6_1.toNatClampNeg)), (0, .ref (am 0)), (2, .long l2_1), (4, .ref q3t), (5, .int (9 : Int32)), (6, .int l6_1)] dX11_digest_119 (by decide) rfl ?_
        refine r_lload_n 2 dX11_digest_121 rfl ?_
        refine r_ldc2 dX11_digest_122 kk_1961 ?_
        refine r_lmul dX11_digest_125 ?_
        refine r_iload 0 dX11_digest_126 rfl ?_
        refine r_i2l dX11_digest_128 ?_
        refine r_ladd dX11_digest_129 ?_
        refine r_lstore_n [(2, .long ((l2_1 * (31 : Int64)) + (tmp3_c1 l6_1.toNatClampNeg).toInt64)), (7, .int (tmp3_c1 l6_1.toNatClampNeg)), (0, .ref (am 0)), (4, .ref q3t), (5, .int (9 : Int32)), (6, .int l6_1)] dX11_digest_130 (by decide) rfl ?_
        refine r_iinc (v2 := (l6_1 + (1 : Int32))) 5 [(6, .int (l6_1 + (1 : Int32))), (2, .long ((l2_1 * (31 : Int64)) + (tmp3_c1 l6_1.toNatClampNeg).toInt64)), (7, .int (tmp3_c1 l6_1.toNatClampNeg)), (0, .ref (am 0)), (4, .ref q3t), (5, .int (9 : Int32))] dX11_digest_131 rfl rfl (by decide) rfl ?_
        refine r_goto (tgt := 107) dX11_digest_134 (by decide) ?_
        refine r_ls [3, 1, 4, 5, 0] (ls2 := [(0, .ref (am 0)), (2, .long ((l2_1 * (31 : Int64)) + (tmp3_c1 l6_1.toNatClampNeg).toInt64)), (4, .ref q3t), (5, .int (9 : Int32)), (6, .int (l6_1 + (1 : Int32)))]) rfl ?_
        exact ih1 M_looked_c1 M_lying_c1 M_fewest_c1 M_sets_c1 M_row_c1 tmp3_c1 ((l2_1 * (31 : Int64)) + (tmp3_c1 l6_1.toNatClampNeg).toInt64) (l6_1 + (1 : Int32)) h
  exact L1 _ r2455.2.1 r2455.2.2.1 r2455.2.2.2.1 r2455.2.2.2.2.1 r2455.2.2.2.2.2 (upd (upd (upd (upd (upd (upd (upd (upd (upd (fun _ => (0 : Int32)) (0 : Int32).toNatClampNeg P_events) (1 : Int32).toNatClampNeg P_tellers) (2 : Int32).toNatClampNeg P_claims) (3 : Int32).toNatClampNeg M_evenings) (4 : Int32).toNatClampNeg M_carried) (5 : Int32).toNatClampNeg r2448) (6 : Int32).toNatClampNeg r2451.1) (7 : Int32).toNatClampNeg r2451.2.2.2.2) (8 : Int32).toNatClampNeg (f_M_one r2455.1)) (991 : Int64) (0 : Int32) h
theorem ct_M_digest {g : GG} {am : Nat → Nat} {ap : Nat → Nat} {t : va_W} {m1 m2 m3 m4 m5 u3 u4 : Int32} {m13 m14 m15 m16 m18 m21 u12 u13 u14 u15 u16 u17 u18 : Nat → Int32} {m17 u5 u6 : Nat → Int64} {N : Nat} {M_thrown : Int32} {M_doubted : Int32} {M_evenings : Int32} {M_carried : Int32} {M_looked : Int32} {M_lying : Int32} {M_fewest : Int32} {M_sets : Int32} {M_against : Nat → Int32} {M_row : Nat → Int32} {P_events : Int32} {P_tellers : Int32} {P_claims : Int32} {P_kind : Nat → Int32} {P_by : Nat → Int32} {P_of : Nat → Int32} {P_other : Nat → Int32} {P_last : Nat → Int32} {o : Int64 × Int32 × Int32 × Int32 × Int32 × Int32 × (Nat → Int32)} (h : f_M_digest N M_thrown M_doubted M_evenings M_carried M_looked M_lying M_fewest M_sets M_against M_row P_events P_tellers P_claims P_kind P_by P_of P_other P_last = some o) : Ct g mX11_digest 8 1 9 [.ref (am 0)] (wlM g am (ap 0) M_thrown m1 m2 m3 m4 m5 M_doubted M_evenings M_carried M_looked M_lying M_fewest M_sets m13 m14 m15 m16 m17 m18 M_against M_row m21 ++ (wlP g ap P_events P_tellers P_claims u3 u4 u5 u6 P_kind P_by P_of P_other P_last u12 u13 u14 u15 u16 u17 u18 ++ t)) (Da (some (.long o.1)) (fun t2 => (wlM g am (ap 0) o.2.1 m1 m2 m3 m4 m5 M_doubted M_evenings M_carried o.2.2.1 o.2.2.2.1 o.2.2.2.2.1 o.2.2.2.2.2.1 m13 m14 m15 m16 m17 m18 M_against o.2.2.2.2.2.2 m21 ++ (wlP g ap P_events P_tellers P_claims u3 u4 u5 u6 P_kind P_by P_of P_other P_last u12 u13 u14 u15 u16 u17 u18 ++ t2))) t) := Ct.ofR (by decide +kernel) rfl (Nat.le_of_ble_eq_true rfl) (rt_M_digest h (fun t2 => ⟨rfl, t2, rfl⟩))
