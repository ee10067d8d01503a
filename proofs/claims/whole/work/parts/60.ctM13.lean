set_option maxRecDepth 20000 in
set_option maxHeartbeats 4000000 in
theorem rt_M_firstHourOf {g : GG} {am : Nat → Nat} {ap : Nat → Nat} {t : va_W} {m1 m2 m3 m4 m5 m6 m7 m8 m9 m10 m11 m12 u0 u1 u3 u4 : Int32} {m13 m14 m15 m16 m18 m19 m20 m21 u8 u9 u11 u12 u13 u14 u15 u16 u17 u18 : Nat → Int32} {m17 u5 u6 : Nat → Int64} {M_thrown : Int32} {P_claims : Int32} {P_kind : Nat → Int32} {P_other : Nat → Int32} {p1 : Int32} {o : Int32 × Int32} {Q : Rs → va_W → Prop} (h : f_M_firstHourOf M_thrown P_claims P_kind P_other p1 = some o) (hq : Q (.inl (some (.int o.1))) (wlM g am (ap 0) o.2 m1 m2 m3 m4 m5 m6 m7 m8 m9 m10 m11 m12 m13 m14 m15 m16 m17 m18 m19 m20 m21 ++ (wlP g ap u0 u1 P_claims u3 u4 u5 u6 P_kind u8 u9 P_other u11 u12 u13 u14 u15 u16 u17 u18 ++ t))) : R g mX11_firstHourOf 3 0 0 0 [(0, .ref (am 0)), (1, .int p1)] [] (wlM g am (ap 0) M_thrown m1 m2 m3 m4 m5 m6 m7 m8 m9 m10 m11 m12 m13 m14 m15 m16 m17 m18 m19 m20 m21 ++ (wlP g ap u0 u1 P_claims u3 u4 u5 u6 P_kind u8 u9 P_other u11 u12 u13 u14 u15 u16 u17 u18 ++ t)) Q := by
  unfold f_M_firstHourOf at h
  refine r_aload_n 0 dX11_firstHourOf_0 rfl ?_
  refine r_iconst (v := (0 : Int32)) dX11_firstHourOf_1 (by decide) ?_
  refine r_putf _ dX11_firstHourOf_2 fl_X11_52 lM_0 (Nat.le_of_ble_eq_true rfl) rfl rfl (sM_0 _) ?_
  refine r_aload_n 0 dX11_firstHourOf_5 rfl ?_
  refine r_iload_n 1 dX11_firstHourOf_6 rfl ?_
  refine c_V (rest := []) 0 0 _ dX11_firstHourOf_7 kv_X11_379 (ct_M_isClaim rfl) rfl rfl lM_0 rfl (Nat.le_of_ble_eq_true rfl) (by decide) (by decide) ?_
  refine r_if_ne (tgt := 19) dX11_firstHourOf_10 (by decide) (fun hc2212 => ?_) (fun hc2212 => ?_)
  · have h := iq (fun z9 => z9) hc2212 h
    refine r_aload_n 0 dX11_firstHourOf_19 rfl ?_
    refine r_getf (v := .ref (ap 0)) _ dX11_firstHourOf_20 fl_X11_20 lM_0 rfl ?_
    refine r_getf (v := .ref (ap 3)) _ dX11_firstHourOf_23 fl_X11_68 lP_0 rfl ?_
    refine r_iload_n 1 dX11_firstHourOf_26 rfl ?_
    obtain ⟨hb2213, h⟩ := gd (fun z9 => z9) rfl h
    refine r_iald _ dX11_firstHourOf_27 lP_3 hb2213 ?_
    refine r_if_ne (tgt := 43) dX11_firstHourOf_28 (by decide) (fun hc2214 => ?_) (fun hc2214 => ?_)
    · have h := iq (fun z9 => z9) hc2214 h
      refine r_aload_n 0 dX11_firstHourOf_43 rfl ?_
      refine r_iconst (v := (2 : Int32)) dX11_firstHourOf_44 (by decide) ?_
      obtain ⟨r2215, hc2216, h⟩ := ob (fun z9 => z9) rfl h
      refine c_V (rest := []) 0 0 _ dX11_firstHourOf_45 kv_X11_367 (ct_M_no hc2216) rfl rfl lM_0 rfl (Nat.le_of_ble_eq_true rfl) (by decide) (by decide) ?_
      refine r_iret dX11_firstHourOf_48 rfl ?_
      have h := Option.some.inj (show some _ = some o from h)
      subst h
      exact hq
    · have h := ip (fun z9 => z9) hc2214 h
      refine r_aload_n 0 dX11_firstHourOf_31 rfl ?_
      refine r_getf (v := .ref (ap 0)) _ dX11_firstHourOf_32 fl_X11_20 lM_0 rfl ?_
      refine r_getf (v := .ref (ap 6)) _ dX11_firstHourOf_35 fl_X11_79 lP_0 rfl ?_
      refine r_iload_n 1 dX11_firstHourOf_38 rfl ?_
      obtain ⟨hb2217, h⟩ := gd (fun z9 => z9) rfl h
      refine r_iald _ dX11_firstHourOf_39 lP_6 hb2217 ?_
      refine r_goto (tgt := 48) dX11_firstHourOf_40 (by decide) ?_
      refine r_iret dX11_firstHourOf_48 rfl ?_
      have h := Option.some.inj (show some _ = some o from h)
      subst h
      exact hq
  · have h := ip (fun z9 => z9) hc2212 h
    refine r_aload_n 0 dX11_firstHourOf_13 rfl ?_
    refine r_iconst (v := (1 : Int32)) dX11_firstHourOf_14 (by decide) ?_
    obtain ⟨r2218, hc2219, h⟩ := ob (fun z9 => z9) rfl h
    refine c_V (rest := []) 0 0 _ dX11_firstHourOf_15 kv_X11_367 (ct_M_no hc2219) rfl rfl lM_0 rfl (Nat.le_of_ble_eq_true rfl) (by decide) (by decide) ?_
    refine r_iret dX11_firstHourOf_18 rfl ?_
    have h := Option.some.inj (show some _ = some o from h)
    subst h
    exact hq
theorem ct_M_firstHourOf {g : GG} {am : Nat → Nat} {ap : Nat → Nat} {t : va_W} {m1 m2 m3 m4 m5 m6 m7 m8 m9 m10 m11 m12 u0 u1 u3 u4 : Int32} {m13 m14 m15 m16 m18 m19 m20 m21 u8 u9 u11 u12 u13 u14 u15 u16 u17 u18 : Nat → Int32} {m17 u5 u6 : Nat → Int64} {M_thrown : Int32} {P_claims : Int32} {P_kind : Nat → Int32} {P_other : Nat → Int32} {p1 : Int32} {o : Int32 × Int32} (h : f_M_firstHourOf M_thrown P_claims P_kind P_other p1 = some o) : Ct g mX11_firstHourOf 3 0 0 [.ref (am 0), .int p1] (wlM g am (ap 0) M_thrown m1 m2 m3 m4 m5 m6 m7 m8 m9 m10 m11 m12 m13 m14 m15 m16 m17 m18 m19 m20 m21 ++ (wlP g ap u0 u1 P_claims u3 u4 u5 u6 P_kind u8 u9 P_other u11 u12 u13 u14 u15 u16 u17 u18 ++ t)) (Dv (some (.int o.1)) (wlM g am (ap 0) o.2 m1 m2 m3 m4 m5 m6 m7 m8 m9 m10 m11 m12 m13 m14 m15 m16 m17 m18 m19 m20 m21 ++ (wlP g ap u0 u1 P_claims u3 u4 u5 u6 P_kind u8 u9 P_other u11 u12 u13 u14 u15 u16 u17 u18 ++ t))) := Ct.ofR (by decide +kernel) rfl (Nat.le_of_ble_eq_true rfl) (rt_M_firstHourOf h ⟨rfl, rfl⟩)
set_option maxRecDepth 20000 in
set_option maxHeartbeats 4000000 in
theorem rt_M_lastHourOf {g : GG} {am : Nat → Nat} {ap : Nat → Nat} {t : va_W} {m1 m2 m3 m4 m5 m6 m7 m8 m9 m10 m11 m12 u0 u1 u3 u4 : Int32} {m13 m14 m15 m16 m18 m19 m20 m21 u8 u9 u10 u12 u13 u14 u15 u16 u17 u18 : Nat → Int32} {m17 u5 u6 : Nat → Int64} {M_thrown : Int32} {P_claims : Int32} {P_kind : Nat → Int32} {P_last : Nat → Int32} {p1 : Int32} {o : Int32 × Int32} {Q : Rs → va_W → Prop} (h : f_M_lastHourOf M_thrown P_claims P_kind P_last p1 = some o) (hq : Q (.inl (some (.int o.1))) (wlM g am (ap 0) o.2 m1 m2 m3 m4 m5 m6 m7 m8 m9 m10 m11 m12 m13 m14 m15 m16 m17 m18 m19 m20 m21 ++ (wlP g ap u0 u1 P_claims u3 u4 u5 u6 P_kind u8 u9 u10 P_last u12 u13 u14 u15 u16 u17 u18 ++ t))) : R g mX11_lastHourOf 3 0 0 0 [(0, .ref (am 0)), (1, .int p1)] [] (wlM g am (ap 0) M_thrown m1 m2 m3 m4 m5 m6 m7 m8 m9 m10 m11 m12 m13 m14 m15 m16 m17 m18 m19 m20 m21 ++ (wlP g ap u0 u1 P_claims u3 u4 u5 u6 P_kind u8 u9 u10 P_last u12 u13 u14 u15 u16 u17 u18 ++ t)) Q := by
  unfold f_M_lastHourOf at h
  refine r_aload_n 0 dX11_lastHourOf_0 rfl ?_
  refine r_iconst (v := (0 : Int32)) dX11_lastHourOf_1 (by decide) ?_
  refine r_putf _ dX11_lastHourOf_2 fl_X11_52 lM_0 (Nat.le_of_ble_eq_true rfl) rfl rfl (sM_0 _) ?_
  refine r_aload_n 0 dX11_lastHourOf_5 rfl ?_
  refine r_iload_n 1 dX11_lastHourOf_6 rfl ?_
  refine c_V (rest := []) 0 0 _ dX11_lastHourOf_7 kv_X11_379 (ct_M_isClaim rfl) rfl rfl lM_0 rfl (Nat.le_of_ble_eq_true rfl) (by decide) (by decide) ?_
  refine r_if_ne (tgt := 19) dX11_lastHourOf_10 (by decide) (fun hc2220 => ?_) (fun hc2220 => ?_)
  · have h := iq (fun z9 => z9) hc2220 h
    refine r_aload_n 0 dX11_lastHourOf_19 rfl ?_
    refine r_getf (v := .ref (ap 0)) _ dX11_lastHourOf_20 fl_X11_20 lM_0 rfl ?_
    refine r_getf (v := .ref (ap 3)) _ dX11_lastHourOf_23 fl_X11_68 lP_0 rfl ?_
    refine r_iload_n 1 dX11_lastHourOf_26 rfl ?_
    obtain ⟨hb2221, h⟩ := gd (fun z9 => z9) rfl h
    refine r_iald _ dX11_lastHourOf_27 lP_3 hb2221 ?_
    refine r_if_ne (tgt := 43) dX11_lastHourOf_28 (by decide) (fun hc2222 => ?_) (fun hc2222 => ?_)
    · have h := iq (fun z9 => z9) hc2222 h
      refine r_aload_n 0 dX11_lastHourOf_43 rfl ?_
      refine r_iconst (v := (2 : Int32)) dX11_lastHourOf_44 (by decide) ?_
      obtain ⟨r2223, hc2224, h⟩ := ob (fun z9 => z9) rfl h
      refine c_V (rest := []) 0 0 _ dX11_lastHourOf_45 kv_X11_367 (ct_M_no hc2224) rfl rfl lM_0 rfl (Nat.le_of_ble_eq_true rfl) (by decide) (by decide) ?_
      refine r_iret dX11_lastHourOf_48 rfl ?_
      have h := Option.some.inj (show some _ = some o from h)
      subst h
      exact hq
    · have h := ip (fun z9 => z9) hc2222 h
      refine r_aload_n 0 dX11_lastHourOf_31 rfl ?_
      refine r_getf (v := .ref (ap 0)) _ dX11_lastHourOf_32 fl_X11_20 lM_0 rfl ?_
      refine r_getf (v := .ref (ap 7)) _ dX11_lastHourOf_35 fl_X11_76 lP_0 rfl ?_
      refine r_iload_n 1 dX11_lastHourOf_38 rfl ?_
      obtain ⟨hb2225, h⟩ := gd (fun z9 => z9) rfl h
      refine r_iald _ dX11_lastHourOf_39 lP_7 hb2225 ?_
      refine r_goto (tgt := 48) dX11_lastHourOf_40 (by decide) ?_
      refine r_iret dX11_lastHourOf_48 rfl ?_
      have h := Option.some.inj (show some _ = some o from h)
      subst h
      exact hq
  · have h := ip (fun z9 => z9) hc2220 h
    refine r_aload_n 0 dX11_lastHourOf_13 rfl ?_
    refine r_iconst (v := (1 : Int32)) dX11_lastHourOf_14 (by decide) ?_
    obtain ⟨r2226, hc2227, h⟩ := ob (fun z9 => z9) rfl h
    refine c_V (rest := []) 0 0 _ dX11_lastHourOf_15 kv_X11_367 (ct_M_no hc2227) rfl rfl lM_0 rfl (Nat.le_of_ble_eq_true rfl) (by decide) (by decide) ?_
    refine r_iret dX11_lastHourOf_18 rfl ?_
    have h := Option.some.inj (show some _ = some o from h)
    subst h
    exact hq
theorem ct_M_lastHourOf {g : GG} {am : Nat → Nat} {ap : Nat → Nat} {t : va_W} {m1 m2 m3 m4 m5 m6 m7 m8 m9 m10 m11 m12 u0 u1 u3 u4 : Int32} {m13 m14 m15 m16 m18 m19 m20 m21 u8 u9 u10 u12 u13 u14 u15 u16 u17 u18 : Nat → Int32} {m17 u5 u6 : Nat → Int64} {M_thrown : Int32} {P_claims : Int32} {P_kind : Nat → Int32} {P_last : Nat → Int32} {p1 : Int32} {o : Int32 × Int32} (h : f_M_lastHourOf M_thrown P_claims P_kind P_last p1 = some o) : Ct g mX11_lastHourOf 3 0 0 [.ref (am 0), .int p1] (wlM g am (ap 0) M_thrown m1 m2 m3 m4 m5 m6 m7 m8 m9 m10 m11 m12 m13 m14 m15 m16 m17 m18 m19 m20 m21 ++ (wlP g ap u0 u1 P_claims u3 u4 u5 u6 P_kind u8 u9 u10 P_last u12 u13 u14 u15 u16 u17 u18 ++ t)) (Dv (some (.int o.1)) (wlM g am (ap 0) o.2 m1 m2 m3 m4 m5 m6 m7 m8 m9 m10 m11 m12 m13 m14 m15 m16 m17 m18 m19 m20 m21 ++ (wlP g ap u0 u1 P_claims u3 u4 u5 u6 P_kind u8 u9 u10 P_last u12 u13 u14 u15 u16 u17 u18 ++ t))) := Ct.ofR (by decide +kernel) rfl (Nat.le_of_ble_eq_true rfl) (rt_M_lastHourOf h ⟨rfl, rfl⟩)
set_option maxRecDepth 20000 in
set_option maxHeartbeats 4000000 in
theorem rt_M_areContrary {g : GG} {am : Nat → Nat} {ap : Nat → Nat} {t : va_W} {m1 m2 m3 m4 m5 m6 m7 m8 m9 m10 m11 m12 u0 u1 u3 u4 : Int32} {m13 m14 m15 m16 m18 m19 m20 m21 u8 u12 u13 u14 u15 u16 u17 u18 : Nat → Int32} {m17 u5 u6 : Nat → Int64} {N : Nat} {M_thrown : Int32} {P_claims : Int32} {P_kind : Nat → Int32} {P_of : Nat → Int32} {P_other : Nat → Int32} {P_last : Nat → Int32} {p1 : Int32} {p2 : Int32} {o : Int32 × Int32} {Q : Rs → va_W → Prop} (h : f_M_areContrary N M_thrown P_claims P_kind P_of P_other P_last p1 p2 = some o) (hq : Q (.inl (some (.int o.1))) (wlM g am (ap 0) o.2 m1 m2 m3 m4 m5 m6 m7 m8 m9 m10 m11 m12 m13 m14 m15 m16 m17 m18 m19 m20 m21 ++ (wlP g ap u0 u1 P_claims u3 u4 u5 u6 P_kind u8 P_of P_other P_last u12 u13 u14 u15 u16 u17 u18 ++ t))) : R g mX11_areContrary 5 0 0 0 [(0, .ref (am 0)), (1, .int p1), (2, .int p2)] [] (wlM g am (ap 0) M_thrown m1 m2 m3 m4 m5 m6 m7 m8 m9 m10 m11 m12 m13 m14 m15 m16 m17 m18 m19 m20 m21 ++ (wlP g ap u0 u1 P_claims u3 u4 u5 u6 P_kind u8 P_of P_other P_last u12 u13 u14 u15 u16 u17 u18 ++ t)) Q := by
  unfold f_M_areContrary at h
  refine r_aload_n 0 dX11_areContrary_0 rfl ?_
  refine r_iconst (v := (0 : Int32)) dX11_areContrary_1 (by decide) ?_
  refine r_putf _ dX11_areContrary_2 fl_X11_52 lM_0 (Nat.le_of_ble_eq_true rfl) rfl rfl (sM_0 _) ?_
  refine r_aload_n 0 dX11_areContrary_5 rfl ?_
  refine r_iload_n 1 dX11_areContrary_6 rfl ?_
  refine c_V (rest := []) 0 0 _ dX11_areContrary_7 kv_X11_379 (ct_M_isClaim rfl) rfl rfl lM_0 rfl (Nat.le_of_ble_eq_true rfl) (by decide) (by decide) ?_
  refine r_if_eq (tgt := 30) dX11_areContrary_10 (by decide) (fun hc2228 => ?_) (fun hc2228 => ?_)
  · have h := ip (fun z9 => z9) hc2228 h
    refine r_aload_n 0 dX11_areContrary_30 rfl ?_
    refine r_iconst (v := (1 : Int32)) dX11_areContrary_31 (by decide) ?_
    obtain ⟨r2229, hc2230, h⟩ := ob (fun z9 => z9) rfl h
    refine c_V (rest := []) 0 0 _ dX11_areContrary_32 kv_X11_382 (ct_M_isNot hc2230) rfl rfl lM_0 rfl (Nat.le_of_ble_eq_true rfl) (by decide) (by decide) ?_
    obtain ⟨hb2231, h⟩ := gd (fun z9 => z9) rfl h
    refine r_zret dX11_areContrary_35 rfl (zB_n hb2231) ?_
    have h := Option.some.inj (show some _ = some o from h)
    subst h
    exact hq
  · have h := iq (fun z9 => z9) hc2228 h
    refine r_aload_n 0 dX11_areContrary_13 rfl ?_
    refine r_iload_n 2 dX11_areContrary_14 rfl ?_
    refine c_V (rest := []) 0 0 _ dX11_areContrary_15 kv_X11_379 (ct_M_isClaim rfl) rfl rfl lM_0 rfl (Nat.le_of_ble_eq_true rfl) (by decide) (by decide) ?_
    refine r_if_eq (tgt := 30) dX11_areContrary_18 (by decide) (fun hc2232 => ?_) (fun hc2232 => ?_)
    · have h := ip (fun z9 => z9) hc2232 h
      refine r_aload_n 0 dX11_areContrary_30 rfl ?_
      refine r_iconst (v := (1 : Int32)) dX11_areContrary_31 (by decide) ?_
      obtain ⟨r2233, hc2234, h⟩ := ob (fun z9 => z9) rfl h
      refine c_V (rest := []) 0 0 _ dX11_areContrary_32 kv_X11_382 (ct_M_isNot hc2234) rfl rfl lM_0 rfl (Nat.le_of_ble_eq_true rfl) (by decide) (by decide) ?_
      obtain ⟨hb2235, h⟩ := gd (fun z9 => z9) rfl h
      refine r_zret dX11_areContrary_35 rfl (zB_n hb2235) ?_
      have h := Option.some.inj (show some _ = some o from h)
      subst h
      exact hq
    · have h := iq (fun z9 => z9) hc2232 h
      refine r_aload_n 0 dX11_areContrary_21 rfl ?_
      refine r_iload_n 1 dX11_areContrary_22 rfl ?_
      refine r_iload_n 2 dX11_areContrary_23 rfl ?_
      obtain ⟨r2236, hc2237, h⟩ := ob (fun z9 => z9) rfl h
      refine c_V (rest := []) 0 0 _ dX11_areContrary_24 kv_X11_69 (ct_M_contraryR_0 hc2237) rfl rfl lM_0 rfl (Nat.le_of_ble_eq_true rfl) (by decide) (by decide) ?_
      refine r_goto (tgt := 35) dX11_areContrary_27 (by decide) ?_
      obtain ⟨hb2238, h⟩ := gd (fun z9 => z9) rfl h
      refine r_zret dX11_areContrary_35 rfl (zB_n hb2238) ?_
      have h := Option.some.inj (show some _ = some o from h)
      subst h
      exact hq
theorem ct_M_areContrary {g : GG} {am : Nat → Nat} {ap : Nat → Nat} {t : va_W} {m1 m2 m3 m4 m5 m6 m7 m8 m9 m10 m11 m12 u0 u1 u3 u4 : Int32} {m13 m14 m15 m16 m18 m19 m20 m21 u8 u12 u13 u14 u15 u16 u17 u18 : Nat → Int32} {m17 u5 u6 : Nat → Int64} {N : Nat} {M_thrown : Int32} {P_claims : Int32} {P_kind : Nat → Int32} {P_of : Nat → Int32} {P_other : Nat → Int32} {P_last : Nat → Int32} {p1 : Int32} {p2 : Int32} {o : Int32 × Int32} (h : f_M_areContrary N M_thrown P_claims P_kind P_of P_other P_last p1 p2 = some o) : Ct g mX11_areContrary 5 0 0 [.ref (am 0), .int p1, .int p2] (wlM g am (ap 0) M_thrown m1 m2 m3 m4 m5 m6 m7 m8 m9 m10 m11 m12 m13 m14 m15 m16 m17 m18 m19 m20 m21 ++ (wlP g ap u0 u1 P_claims u3 u4 u5 u6 P_kind u8 P_of P_other P_last u12 u13 u14 u15 u16 u17 u18 ++ t)) (Dv (some (.int o.1)) (wlM g am (ap 0) o.2 m1 m2 m3 m4 m5 m6 m7 m8 m9 m10 m11 m12 m13 m14 m15 m16 m17 m18 m19 m20 m21 ++ (wlP g ap u0 u1 P_claims u3 u4 u5 u6 P_kind u8 P_of P_other P_last u12 u13 u14 u15 u16 u17 u18 ++ t))) := Ct.ofR (by decide +kernel) rfl (Nat.le_of_ble_eq_true rfl) (rt_M_areContrary h ⟨rfl, rfl⟩)
set_option maxRecDepth 20000 in
set_option maxHeartbeats 4000000 in
theorem rt_M_claimsOf {g : GG} {am : Nat → Nat} {ap : Nat → Nat} {t : va_W} {m1 m2 m3 m4 m5 m6 m7 m8 m9 m10 m11 m12 u0 u3 u4 : Int32} {m13 m14 m15 m16 m18 m19 m20 m21 u7 u9 u10 u11 u12 u13 u14 u15 u16 u17 u18 : Nat → Int32} {m17 u5 u6 : Nat → Int64} {N : Nat} {M_thrown : Int32} {P_tellers : Int32} {P_claims : Int32} {P_by : Nat → Int32} {p1 : Int32} {o : Int32 × Int32} {Q : Rs → va_W → Prop} (h : f_M_claimsOf N M_thrown P_tellers P_claims P_by p1 = some o) (hq : Q (.inl (some (.int o.1))) (wlM g am (ap 0) o.2 m1 m2 m3 m4 m5 m6 m7 m8 m9 m10 m11 m12 m13 m14 m15 m16 m17 m18 m19 m20 m21 ++ (wlP g ap u0 P_tellers P_claims u3 u4 u5 u6 u7 P_by u9 u10 u11 u12 u13 u14 u15 u16 u17 u18 ++ t))) : R g mX11_claimsOf 3 0 0 0 [(0, .ref (am 0)), (1, .int p1)] [] (wlM g am (ap 0) M_thrown m1 m2 m3 m4 m5 m6 m7 m8 m9 m10 m11 m12 m13 m14 m15 m16 m17 m18 m19 m20 m21 ++ (wlP g ap u0 P_tellers P_claims u3 u4 u5 u6 u7 P_by u9 u10 u11 u12 u13 u14 u15 u16 u17 u18 ++ t)) Q := by
  unfold f_M_claimsOf at h
  refine r_aload_n 0 dX11_claimsOf_0 rfl ?_
  refine r_iconst (v := (0 : Int32)) dX11_claimsOf_1 (by decide) ?_
  refine r_putf _ dX11_claimsOf_2 fl_X11_52 lM_0 (Nat.le_of_ble_eq_true rfl) rfl rfl (sM_0 _) ?_
  refine r_aload_n 0 dX11_claimsOf_5 rfl ?_
  refine r_iload_n 1 dX11_claimsOf_6 rfl ?_
  refine c_V (rest := []) 0 0 _ dX11_claimsOf_7 kv_X11_385 (ct_M_isTeller rfl) rfl rfl lM_0 rfl (Nat.le_of_ble_eq_true rfl) (by decide) (by decide) ?_
  refine r_if_eq (tgt := 21) dX11_claimsOf_10 (by decide) (fun hc2239 => ?_) (fun hc2239 => ?_)
  · have h := ip (fun z9 => z9) hc2239 h
    refine r_aload_n 0 dX11_claimsOf_21 rfl ?_
    refine r_iconst (v := (1 : Int32)) dX11_claimsOf_22 (by decide) ?_
    obtain ⟨r2240, hc2241, h⟩ := ob (fun z9 => z9) rfl h
    refine c_V (rest := []) 0 0 _ dX11_claimsOf_23 kv_X11_367 (ct_M_no hc2241) rfl rfl lM_0 rfl (Nat.le_of_ble_eq_true rfl) (by decide) (by decide) ?_
    refine r_iret dX11_claimsOf_26 rfl ?_
    have h := Option.some.inj (show some _ = some o from h)
    subst h
    exact hq
  · have h := iq (fun z9 => z9) hc2239 h
    refine r_aload_n 0 dX11_claimsOf_13 rfl ?_
    refine r_iload_n 1 dX11_claimsOf_14 rfl ?_
    obtain ⟨r2242, hc2243, h⟩ := ob (fun z9 => z9) rfl h
    refine c_V (rest := []) 0 0 _ dX11_claimsOf_15 kv_X11_169 (ct_M_claimsBy hc2243) rfl rfl lM_0 rfl (Nat.le_of_ble_eq_true rfl) (by decide) (by decide) ?_
    refine r_goto (tgt := 26) dX11_claimsOf_18 (by decide) ?_
    refine r_iret dX11_claimsOf_26 rfl ?_
    have h := Option.some.inj (show some _ = some o from h)
    subst h
    exact hq
theorem ct_M_claimsOf {g : GG} {am : Nat → Nat} {ap : Nat → Nat} {t : va_W} {m1 m2 m3 m4 m5 m6 m7 m8 m9 m10 m11 m12 u0 u3 u4 : Int32} {m13 m14 m15 m16 m18 m19 m20 m21 u7 u9 u10 u11 u12 u13 u14 u15 u16 u17 u18 : Nat → Int32} {m17 u5 u6 : Nat → Int64} {N : Nat} {M_thrown : Int32} {P_tellers : Int32} {P_claims : Int32} {P_by : Nat → Int32} {p1 : Int32} {o : Int32 × Int32} (h : f_M_claimsOf N M_thrown P_tellers P_claims P_by p1 = some o) : Ct g mX11_claimsOf 3 0 0 [.ref (am 0), .int p1] (wlM g am (ap 0) M_thrown m1 m2 m3 m4 m5 m6 m7 m8 m9 m10 m11 m12 m13 m14 m15 m16 m17 m18 m19 m20 m21 ++ (wlP g ap u0 P_tellers P_claims u3 u4 u5 u6 u7 P_by u9 u10 u11 u12 u13 u14 u15 u16 u17 u18 ++ t)) (Dv (some (.int o.1)) (wlM g am (ap 0) o.2 m1 m2 m3 m4 m5 m6 m7 m8 m9 m10 m11 m12 m13 m14 m15 m16 m17 m18 m19 m20 m21 ++ (wlP g ap u0 P_tellers P_claims u3 u4 u5 u6 u7 P_by u9 u10 u11 u12 u13 u14 u15 u16 u17 u18 ++ t))) := Ct.ofR (by decide +kernel) rfl (Nat.le_of_ble_eq_true rfl) (rt_M_claimsOf h ⟨rfl, rfl⟩)
set_option maxRecDepth 20000 in
set_option maxHeartbeats 4000000 in
theorem rt_M_isDoubted {g : GG} {am : Nat → Nat} {ap : Nat → Nat} {t : va_W} {m1 m2 m3 m4 m5 m7 m8 m9 m10 m11 m12 u0 u2 u3 u4 : Int32} {m13 m14 m15 m16 m18 m19 m20 m21 u7 u8 u9 u10 u11 u12 u13 u14 u15 u16 u17 u18 : Nat → Int32} {m17 u5 u6 : Nat → Int64} {M_thrown : Int32} {M_doubted : Int32} {P_tellers : Int32} {p1 : Int32} {o : Int32 × Int32} {Q : Rs → va_W → Prop} (h : f_M_isDoubted M_thrown M_doubted P_tellers p1 = some o) (hq : Q (.inl (some (.int o.1))) (wlM g am (ap 0) o.2 m1 m2 m3 m4 m5 M_doubted m7 m8 m9 m10 m11 m12 m13 m14 m15 m16 m17 m18 m19 m20 m21 ++ (wlP g ap u0 P_tellers u2 u3 u4 u5 u6 u7 u8 u9 u10 u11 u12 u13 u14 u15 u16 u17 u18 ++ t))) : R g mX11_isDoubted 3 0 0 0 [(0, .ref (am 0)), (1, .int p1)] [] (wlM g am (ap 0) M_thrown m1 m2 m3 m4 m5 M_doubted m7 m8 m9 m10 m11 m12 m13 m14 m15 m16 m17 m18 m19 m20 m21 ++ (wlP g ap u0 P_tellers u2 u3 u4 u5 u6 u7 u8 u9 u10 u11 u12 u13 u14 u15 u16 u17 u18 ++ t)) Q := by
  unfold f_M_isDoubted at h
  refine r_aload_n 0 dX11_isDoubted_0 rfl ?_
  refine r_iconst (v := (0 : Int32)) dX11_isDoubted_1 (by decide) ?_
  refine r_putf _ dX11_isDoubted_2 fl_X11_52 lM_0 (Nat.le_of_ble_eq_true rfl) rfl rfl (sM_0 _) ?_
  refine r_aload_n 0 dX11_isDoubted_5 rfl ?_
  refine r_iload_n 1 dX11_isDoubted_6 rfl ?_
  refine c_V (rest := []) 0 0 _ dX11_isDoubted_7 kv_X11_385 (ct_M_isTeller rfl) rfl rfl lM_0 rfl (Nat.le_of_ble_eq_true rfl) (by decide) (by decide) ?_
  refine r_if_eq (tgt := 24) dX11_isDoubted_10 (by decide) (fun hc2244 => ?_) (fun hc2244 => ?_)
  · have h := ip (fun z9 => z9) hc2244 h
    refine r_aload_n 0 dX11_isDoubted_24 rfl ?_
    refine r_iconst (v := (1 : Int32)) dX11_isDoubted_25 (by decide) ?_
    obtain ⟨r2245, hc2246, h⟩ := ob (fun z9 => z9) rfl h
    refine c_V (rest := []) 0 0 _ dX11_isDoubted_26 kv_X11_382 (ct_M_isNot hc2246) rfl rfl lM_0 rfl (Nat.le_of_ble_eq_true rfl) (by decide) (by decide) ?_
    obtain ⟨hb2247, h⟩ := gd (fun z9 => z9) rfl h
    refine r_zret dX11_isDoubted_29 rfl (zB_n hb2247) ?_
    have h := Option.some.inj (show some _ = some o from h)
    subst h
    exact hq
  · have h := iq (fun z9 => z9) hc2244 h
    refine r_aload_n 0 dX11_isDoubted_13 rfl ?_
    refine r_getf (v := .int M_doubted) _ dX11_isDoubted_14 fl_X11_85 lM_0 rfl ?_
    refine r_iload_n 1 dX11_isDoubted_17 rfl ?_
    refine c_S (rest := []) 0 0 dX11_isDoubted_18 ks_X11_88 (ct_M_has rfl) rfl rfl (Nat.le_of_ble_eq_true rfl) (by decide) (by decide) ?_
    refine r_goto (tgt := 29) dX11_isDoubted_21 (by decide) ?_
    refine r_zret dX11_isDoubted_29 rfl (zO_n (zb_M_has _ _)) ?_
    have h := Option.some.inj (show some _ = some o from h)
    subst h
    exact hq
theorem ct_M_isDoubted {g : GG} {am : Nat → Nat} {ap : Nat → Nat} {t : va_W} {m1 m2 m3 m4 m5 m7 m8 m9 m10 m11 m12 u0 u2 u3 u4 : Int32} {m13 m14 m15 m16 m18 m19 m20 m21 u7 u8 u9 u10 u11 u12 u13 u14 u15 u16 u17 u18 : Nat → Int32} {m17 u5 u6 : Nat → Int64} {M_thrown : Int32} {M_doubted : Int32} {P_tellers : Int32} {p1 : Int32} {o : Int32 × Int32} (h : f_M_isDoubted M_thrown M_doubted P_tellers p1 = some o) : Ct g mX11_isDoubted 3 0 0 [.ref (am 0), .int p1] (wlM g am (ap 0) M_thrown m1 m2 m3 m4 m5 M_doubted m7 m8 m9 m10 m11 m12 m13 m14 m15 m16 m17 m18 m19 m20 m21 ++ (wlP g ap u0 P_tellers u2 u3 u4 u5 u6 u7 u8 u9 u10 u11 u12 u13 u14 u15 u16 u17 u18 ++ t)) (Dv (some (.int o.1)) (wlM g am (ap 0) o.2 m1 m2 m3 m4 m5 M_doubted m7 m8 m9 m10 m11 m12 m13 m14 m15 m16 m17 m18 m19 m20 m21 ++ (wlP g ap u0 P_tellers u2 u3 u4 u5 u6 u7 u8 u9 u10 u11 u12 u13 u14 u15 u16 u17 u18 ++ t))) := Ct.ofR (by decide +kernel) rfl (Nat.le_of_ble_eq_true rfl) (rt_M_isDoubted h ⟨rfl, rfl⟩)
set_option maxRecDepth 20000 in
set_option maxHeartbeats 4000000 in
theorem rt_M_doContradict {g : GG} {am : Nat → Nat} {ap : Nat → Nat} {t : va_W} {m1 m2 m3 m4 m5 m7 m8 m9 m10 m11 m12 u0 u2 u3 u4 : Int32} {m13 m14 m15 m16 m18 m20 m21 u7 u8 u9 u10 u11 u12 u13 u14 u15 u16 u17 u18 : Nat → Int32} {m17 u5 u6 : Nat → Int64} {M_thrown : Int32} {M_doubted : Int32} {M_against : Nat → Int32} {P_tellers : Int32} {p1 : Int32} {p2 : Int32} {o : Int32 × Int32} {Q : Rs → va_W → Prop} (h : f_M_doContradict M_thrown M_doubted M_against P_tellers p1 p2 = some o) (hq : Q (.inl (some (.int o.1))) (wlM g am (ap 0) o.2 m1 m2 m3 m4 m5 M_doubted m7 m8 m9 m10 m11 m12 m13 m14 m15 m16 m17 m18 M_against m20 m21 ++ (wlP g ap u0 P_tellers u2 u3 u4 u5 u6 u7 u8 u9 u10 u11 u12 u13 u14 u15 u16 u17 u18 ++ t))) : R g mX11_doContradict 3 0 0 0 [(0, .ref (am 0)), (1, .int p1), (2, .int p2)] [] (wlM g am (ap 0) M_thrown m1 m2 m3 m4 m5 M_doubted m7 m8 m9 m10 m11 m12 m13 m14 m15 m16 m17 m18 M_against m20 m21 ++ (wlP g ap u0 P_tellers u2 u3 u4 u5 u6 u7 u8 u9 u10 u11 u12 u13 u14 u15 u16 u17 u18 ++ t)) Q := by
  unfold f_M_doContradict at h
  refine r_aload_n 0 dX11_doContradict_0 rfl ?_
  refine r_iconst (v := (0 : Int32)) dX11_doContradict_1 (by decide) ?_
  refine r_putf _ dX11_doContradict_2 fl_X11_52 lM_0 (Nat.le_of_ble_eq_true rfl) rfl rfl (sM_0 _) ?_
  refine r_aload_n 0 dX11_doContradict_5 rfl ?_
  refine r_iload_n 1 dX11_doContradict_6 rfl ?_
  refine c_V (rest := []) 0 0 _ dX11_doContradict_7 kv_X11_385 (ct_M_isTeller rfl) rfl rfl lM_0 rfl (Nat.le_of_ble_eq_true rfl) (by decide) (by decide) ?_
  refine r_if_eq (tgt := 30) dX11_doContradict_10 (by decide) (fun hc2248 => ?_) (fun hc2248 => ?_)
  · have h := ip (fun z9 => z9) hc2248 h
    refine r_aload_n 0 dX11_doContradict_30 rfl ?_
    refine r_iconst (v := (1 : Int32)) dX11_doContradict_31 (by decide) ?_
    obtain ⟨r2249, hc2250, h⟩ := ob (fun z9 => z9) rfl h
    refine c_V (rest := []) 0 0 _ dX11_doContradict_32 kv_X11_382 (ct_M_isNot hc2250) rfl rfl lM_0 rfl (Nat.le_of_ble_eq_true rfl) (by decide) (by decide) ?_
    obtain ⟨hb2251, h⟩ := gd (fun z9 => z9) rfl h
    refine r_zret dX11_doContradict_35 rfl (zB_n hb2251) ?_
    have h := Option.some.inj (show some _ = some o from h)
    subst h
    exact hq
  · have h := iq (fun z9 => z9) hc2248 h
    refine r_aload_n 0 dX11_doContradict_13 rfl ?_
    refine r_iload_n 2 dX11_doContradict_14 rfl ?_
    refine c_V (rest := []) 0 0 _ dX11_doContradict_15 kv_X11_385 (ct_M_isTeller rfl) rfl rfl lM_0 rfl (Nat.le_of_ble_eq_true rfl) (by decide) (by decide) ?_
    refine r_if_eq (tgt := 30) dX11_doContradict_18 (by decide) (fun hc2252 => ?_) (fun hc2252 => ?_)
    · have h := ip (fun z9 => z9) hc2252 h
      refine r_aload_n 0 dX11_doContradict_30 rfl ?_
      refine r_iconst (v := (1 : Int32)) dX11_doContradict_31 (by decide) ?_
      obtain ⟨r2253, hc2254, h⟩ := ob (fun z9 => z9) rfl h
      refine c_V (rest := []) 0 0 _ dX11_doContradict_32 kv_X11_382 (ct_M_isNot hc2254) rfl rfl lM_0 rfl (Nat.le_of_ble_eq_true rfl) (by decide) (by decide) ?_
      obtain ⟨hb2255, h⟩ := gd (fun z9 => z9) rfl h
      refine r_zret dX11_doContradict_35 rfl (zB_n hb2255) ?_
      have h := Option.some.inj (show some _ = some o from h)
      subst h
      exact hq
    · have h := iq (fun z9 => z9) hc2252 h
      refine r_aload_n 0 dX11_doContradict_21 rfl ?_
      refine r_iload_n 1 dX11_doContradict_22 rfl ?_
      refine r_iload_n 2 dX11_doContradict_23 rfl ?_
      obtain ⟨r2256, hc2257, h⟩ := ob (fun z9 => z9) rfl h
      refine c_V (rest := []) 0 0 _ dX11_doContradict_24 kv_X11_175 (ct_M_doContradictNow hc2257) rfl rfl lM_0 rfl (Nat.le_of_ble_eq_true rfl) (by decide) (by decide) ?_
      refine r_goto (tgt := 35) dX11_doContradict_27 (by decide) ?_
      obtain ⟨hb2258, h⟩ := gd (fun z9 => z9) rfl h
      refine r_zret dX11_doContradict_35 rfl (zB_n hb2258) ?_
      have h := Option.some.inj (show some _ = some o from h)
      subst h
      exact hq
theorem ct_M_doContradict {g : GG} {am : Nat → Nat} {ap : Nat → Nat} {t : va_W} {m1 m2 m3 m4 m5 m7 m8 m9 m10 m11 m12 u0 u2 u3 u4 : Int32} {m13 m14 m15 m16 m18 m20 m21 u7 u8 u9 u10 u11 u12 u13 u14 u15 u16 u17 u18 : Nat → Int32} {m17 u5 u6 : Nat → Int64} {M_thrown : Int32} {M_doubted : Int32} {M_against : Nat → Int32} {P_tellers : Int32} {p1 : Int32} {p2 : Int32} {o : Int32 × Int32} (h : f_M_doContradict M_thrown M_doubted M_against P_tellers p1 p2 = some o) : Ct g mX11_doContradict 3 0 0 [.ref (am 0), .int p1, .int p2] (wlM g am (ap 0) M_thrown m1 m2 m3 m4 m5 M_doubted m7 m8 m9 m10 m11 m12 m13 m14 m15 m16 m17 m18 M_against m20 m21 ++ (wlP g ap u0 P_tellers u2 u3 u4 u5 u6 u7 u8 u9 u10 u11 u12 u13 u14 u15 u16 u17 u18 ++ t)) (Dv (some (.int o.1)) (wlM g am (ap 0) o.2 m1 m2 m3 m4 m5 M_doubted m7 m8 m9 m10 m11 m12 m13 m14 m15 m16 m17 m18 M_against m20 m21 ++ (wlP g ap u0 P_tellers u2 u3 u4 u5 u6 u7 u8 u9 u10 u11 u12 u13 u14 u15 u16 u17 u18 ++ t))) := Ct.ofR (by decide +kernel) rfl (Nat.le_of_ble_eq_true rfl) (rt_M_doContradict h ⟨rfl, rfl⟩)
set_option maxRecDepth 20000 in
set_option maxHeartbeats 4000000 in
theorem rt_M_contraryPairs {g : GG} {am : Nat → Nat} {ap : Nat → Nat} {t : va_W} {m1 m2 m3 m4 m5 m6 m7 m8 m9 m10 m11 m12 u0 u3 u4 : Int32} {m13 m14 m15 m16 m18 m19 m20 m21 u12 u13 u14 u15 u16 u17 u18 : Nat → Int32} {m17 u5 u6 : Nat → Int64} {N : Nat} {M_thrown : Int32} {P_tellers : Int32} {P_claims : Int32} {P_kind : Nat → Int32} {P_by : Nat → Int32} {P_of : Nat → Int32} {P_other : Nat → Int32} {P_last : Nat → Int32} {p1 : Int32} {p2 : Int32} {o : Int32 × Int32} {Q : Rs → va_W → Prop} (h : f_M_contraryPairs N M_thrown P_tellers P_claims P_kind P_by P_of P_other P_last p1 p2 = some o) (hq : Q (.inl (some (.int o.1))) (wlM g am (ap 0) o.2 m1 m2 m3 m4 m5 m6 m7 m8 m9 m10 m11 m12 m13 m14 m15 m16 m17 m18 m19 m20 m21 ++ (wlP g ap u0 P_tellers P_claims u3 u4 u5 u6 P_kind P_by P_of P_other P_last u12 u13 u14 u15 u16 u17 u18 ++ t))) : R g mX11_contraryPairs 6 0 0 0 [(0, .ref (am 0)), (1, .int p1), (2, .int p2)] [] (wlM g am (ap 0) M_thrown m1 m2 m3 m4 m5 m6 m7 m8 m9 m10 m11 m12 m13 m14 m15 m16 m17 m18 m19 m20 m21 ++ (wlP g ap u0 P_tellers P_claims u3 u4 u5 u6 P_kind P_by P_of P_other P_last u12 u13 u14 u15 u16 u17 u18 ++ t)) Q := by
  unfold f_M_contraryPairs at h
  refine r_aload_n 0 dX11_contraryPairs_0 rfl ?_
  refine r_iconst (v := (0 : Int32)) dX11_contraryPairs_1 (by decide) ?_
  refine r_putf _ dX11_contraryPairs_2 fl_X11_52 lM_0 (Nat.le_of_ble_eq_true rfl) rfl rfl (sM_0 _) ?_
  refine r_aload_n 0 dX11_contraryPairs_5 rfl ?_
  refine r_iload_n 1 dX11_contraryPairs_6 rfl ?_
  refine c_V (rest := []) 0 0 _ dX11_contraryPairs_7 kv_X11_385 (ct_M_isTeller rfl) rfl rfl lM_0 rfl (Nat.le_of_ble_eq_true rfl) (by decide) (by decide) ?_
  refine r_if_eq (tgt := 30) dX11_contraryPairs_10 (by decide) (fun hc2259 => ?_) (fun hc2259 => ?_)
  · have h := ip (fun z9 => z9) hc2259 h
    refine r_aload_n 0 dX11_contraryPairs_30 rfl ?_
    refine r_iconst (v := (1 : Int32)) dX11_contraryPairs_31 (by decide) ?_
    obtain ⟨r2260, hc2261, h⟩ := ob (fun z9 => z9) rfl h
    refine c_V (rest := []) 0 0 _ dX11_contraryPairs_32 kv_X11_367 (ct_M_no hc2261) rfl rfl lM_0 rfl (Nat.le_of_ble_eq_true rfl) (by decide) (by decide) ?_
    refine r_iret dX11_contraryPairs_35 rfl ?_
    have h := Option.some.inj (show some _ = some o from h)
    subst h
    exact hq
  · have h := iq (fun z9 => z9) hc2259 h
    refine r_aload_n 0 dX11_contraryPairs_13 rfl ?_
    refine r_iload_n 2 dX11_contraryPairs_14 rfl ?_
    refine c_V (rest := []) 0 0 _ dX11_contraryPairs_15 kv_X11_385 (ct_M_isTeller rfl) rfl rfl lM_0 rfl (Nat.le_of_ble_eq_true rfl) (by decide) (by decide) ?_
    refine r_if_eq (tgt := 30) dX11_contraryPairs_18 (by decide) (fun hc2262 => ?_) (fun hc2262 => ?_)
    · have h := ip (fun z9 => z9) hc2262 h
      refine r_aload_n 0 dX11_contraryPairs_30 rfl ?_
      refine r_iconst (v := (1 : Int32)) dX11_contraryPairs_31 (by decide) ?_
      obtain ⟨r2263, hc2264, h⟩ := ob (fun z9 => z9) rfl h
      refine c_V (rest := []) 0 0 _ dX11_contraryPairs_32 kv_X11_367 (ct_M_no hc2264) rfl rfl lM_0 rfl (Nat.le_of_ble_eq_true rfl) (by decide) (by decide) ?_
      refine r_iret dX11_contraryPairs_35 rfl ?_
      have h := Option.some.inj (show some _ = some o from h)
      subst h
      exact hq
    · have h := iq (fun z9 => z9) hc2262 h
      refine r_aload_n 0 dX11_contraryPairs_21 rfl ?_
      refine r_iload_n 1 dX11_contraryPairs_22 rfl ?_
      refine r_iload_n 2 dX11_contraryPairs_23 rfl ?_
      obtain ⟨r2265, hc2266, h⟩ := ob (fun z9 => z9) rfl h
      refine c_V (rest := []) 0 0 _ dX11_contraryPairs_24 kv_X11_388 (ct_M_pairs hc2266) rfl rfl lM_0 rfl (Nat.le_of_ble_eq_true rfl) (by decide) (by decide) ?_
      refine r_goto (tgt := 35) dX11_contraryPairs_27 (by decide) ?_
      refine r_iret dX11_contraryPairs_35 rfl ?_
      have h := Option.some.inj (show some _ = some o from h)
      subst h
      exact hq
theorem ct_M_contraryPairs {g : GG} {am : Nat → Nat} {ap : Nat → Nat} {t : va_W} {m1 m2 m3 m4 m5 m6 m7 m8 m9 m10 m11 m12 u0 u3 u4 : Int32} {m13 m14 m15 m16 m18 m19 m20 m21 u12 u13 u14 u15 u16 u17 u18 : Nat → Int32} {m17 u5 u6 : Nat → Int64} {N : Nat} {M_thrown : Int32} {P_tellers : Int32} {P_claims : Int32} {P_kind : Nat → Int32} {P_by : Nat → Int32} {P_of : Nat → Int32} {P_other : Nat → Int32} {P_last : Nat → Int32} {p1 : Int32} {p2 : Int32} {o : Int32 × Int32} (h : f_M_contraryPairs N M_thrown P_tellers P_claims P_kind P_by P_of P_other P_last p1 p2 = some o) : Ct g mX11_contraryPairs 6 0 0 [.ref (am 0), .int p1, .int p2] (wlM g am (ap 0) M_thrown m1 m2 m3 m4 m5 m6 m7 m8 m9 m10 m11 m12 m13 m14 m15 m16 m17 m18 m19 m20 m21 ++ (wlP g ap u0 P_tellers P_claims u3 u4 u5 u6 P_kind P_by P_of P_other P_last u12 u13 u14 u15 u16 u17 u18 ++ t)) (Dv (some (.int o.1)) (wlM g am (ap 0) o.2 m1 m2 m3 m4 m5 m6 m7 m8 m9 m10 m11 m12 m13 m14 m15 m16 m17 m18 m19 m20 m21 ++ (wlP g ap u0 P_tellers P_claims u3 u4 u5 u6 P_kind P_by P_of P_other P_last u12 u13 u14 u15 u16 u17 u18 ++ t))) := Ct.ofR (by decide +kernel) rfl (Nat.le_of_ble_eq_true rfl) (rt_M_contraryPairs h ⟨rfl, rfl⟩)
set_option maxRecDepth 20000 in
set_option maxHeartbeats 4000000 in
theorem rt_M_contradictions {g : GG} {am : Nat → Nat} {ap : Nat → Nat} {t : va_W} {m1 m2 m3 m4 m5 m7 m8 m9 m10 m11 m12 u0 u2 u3 u4 : Int32} {m13 m14 m15 m16 m18 m20 m21 u7 u8 u9 u10 u11 u12 u13 u14 u15 u16 u17 u18 : Nat → Int32} {m17 u5 u6 : Nat → Int64} {N : Nat} {M_thrown : Int32} {M_doubted : Int32} {M_against : Nat → Int32} {P_tellers : Int32} {o : Int32 × Int32} {Q : Rs → va_W → Prop} (h : f_M_contradictions N M_thrown M_doubted M_against P_tellers = some o) (hq : Q (.inl (some (.int o.1))) (wlM g am (ap 0) o.2 m1 m2 m3 m4 m5 M_doubted m7 m8 m9 m10 m11 m12 m13 m14 m15 m16 m17 m18 M_against m20 m21 ++ (wlP g ap u0 P_tellers u2 u3 u4 u5 u6 u7 u8 u9 u10 u11 u12 u13 u14 u15 u16 u17 u18 ++ t))) : R g mX11_contradictions 3 0 0 0 [(0, .ref (am 0))] [] (wlM g am (ap 0) M_thrown m1 m2 m3 m4 m5 M_doubted m7 m8 m9 m10 m11 m12 m13 m14 m15 m16 m17 m18 M_against m20 m21 ++ (wlP g ap u0 P_tellers u2 u3 u4 u5 u6 u7 u8 u9 u10 u11 u12 u13 u14 u15 u16 u17 u18 ++ t)) Q := by
  unfold f_M_contradictions at h
  refine r_aload_n 0 dX11_contradictions_0 rfl ?_
  refine r_aload_n 0 dX11_contradictions_1 rfl ?_
  refine r_aload_n 0 dX11_contradictions_2 rfl ?_
  refine c_V (rest := [.ref (am 0), .ref (am 0)]) 0 0 _ dX11_contradictions_3 kv_X11_91 (ct_M_believed rfl) rfl rfl lM_0 rfl (Nat.le_of_ble_eq_true rfl) (by decide) (by decide) ?_
  obtain ⟨r2267, hc2268, h⟩ := ob (fun z9 => z9) rfl h
  refine c_V (rest := [.ref (am 0)]) 0 0 _ dX11_contradictions_6 kv_X11_162 (ct_M_pairsNow hc2268) rfl rfl lM_0 rfl (Nat.le_of_ble_eq_true rfl) (by decide) (by decide) ?_
  obtain ⟨r2269, hc2270, h⟩ := ob (fun z9 => z9) rfl h
  refine c_V (rest := []) 0 0 _ dX11_contradictions_9 kv_X11_376 (ct_M_ok hc2270) rfl rfl lM_0 rfl (Nat.le_of_ble_eq_true rfl) (by decide) (by decide) ?_
  refine r_iret dX11_contradictions_12 rfl ?_
  have h := Option.some.inj (show some _ = some o from h)
  subst h
  exact hq
theorem ct_M_contradictions {g : GG} {am : Nat → Nat} {ap : Nat → Nat} {t : va_W} {m1 m2 m3 m4 m5 m7 m8 m9 m10 m11 m12 u0 u2 u3 u4 : Int32} {m13 m14 m15 m16 m18 m20 m21 u7 u8 u9 u10 u11 u12 u13 u14 u15 u16 u17 u18 : Nat → Int32} {m17 u5 u6 : Nat → Int64} {N : Nat} {M_thrown : Int32} {M_doubted : Int32} {M_against : Nat → Int32} {P_tellers : Int32} {o : Int32 × Int32} (h : f_M_contradictions N M_thrown M_doubted M_against P_tellers = some o) : Ct g mX11_contradictions 3 0 0 [.ref (am 0)] (wlM g am (ap 0) M_thrown m1 m2 m3 m4 m5 M_doubted m7 m8 m9 m10 m11 m12 m13 m14 m15 m16 m17 m18 M_against m20 m21 ++ (wlP g ap u0 P_tellers u2 u3 u4 u5 u6 u7 u8 u9 u10 u11 u12 u13 u14 u15 u16 u17 u18 ++ t)) (Dv (some (.int o.1)) (wlM g am (ap 0) o.2 m1 m2 m3 m4 m5 M_doubted m7 m8 m9 m10 m11 m12 m13 m14 m15 m16 m17 m18 M_against m20 m21 ++ (wlP g ap u0 P_tellers u2 u3 u4 u5 u6 u7 u8 u9 u10 u11 u12 u13 u14 u15 u16 u17 u18 ++ t))) := Ct.ofR (by decide +kernel) rfl (Nat.le_of_ble_eq_true rfl) (rt_M_contradictions h ⟨rfl, rfl⟩)
set_option maxRecDepth 20000 in
set_option maxHeartbeats 4000000 in
theorem rt_M_liars {g : GG} {am : Nat → Nat} {ap : Nat → Nat} {t : va_W} {m1 m2 m3 m4 m5 m7 m8 u0 u2 u3 u4 : Int32} {m13 m14 m15 m16 m18 m20 m21 u7 u8 u9 u10 u11 u12 u13 u14 u15 u16 u17 u18 : Nat → Int32} {m17 u5 u6 : Nat → Int64} {N : Nat} {M_thrown : Int32} {M_doubted : Int32} {M_looked : Int32} {M_lying : Int32} {M_fewest : Int32} {M_sets : Int32} {M_against : Nat → Int32} {P_tellers : Int32} {o : Int32 × Int32 × Int32 × Int32 × Int32 × Int32} {Q : Rs → va_W → Prop} (h : f_M_liars N M_thrown M_doubted M_looked M_lying M_fewest M_sets M_against P_tellers = some o) (hq : Q (.inl (some (.int o.1))) (wlM g am (ap 0) o.2.1 m1 m2 m3 m4 m5 M_doubted m7 m8 o.2.2.1 o.2.2.2.1 o.2.2.2.2.1 o.2.2.2.2.2 m13 m14 m15 m16 m17 m18 M_against m20 m21 ++ (wlP g ap u0 P_tellers u2 u3 u4 u5 u6 u7 u8 u9 u10 u11 u12 u13 u14 u15 u16 u17 u18 ++ t))) : R g mX11_liars 5 0 0 0 [(0, .ref (am 0))] [] (wlM g am (ap 0) M_thrown m1 m2 m3 m4 m5 M_doubted m7 m8 M_looked M_lying M_fewest M_sets m13 m14 m15 m16 m17 m18 M_against m20 m21 ++ (wlP g ap u0 P_tellers u2 u3 u4 u5 u6 u7 u8 u9 u10 u11 u12 u13 u14 u15 u16 u17 u18 ++ t)) Q := by
  unfold f_M_liars at h
  refine r_aload_n 0 dX11_liars_0 rfl ?_
  refine r_aload_n 0 dX11_liars_1 rfl ?_
  obtain ⟨r2271, hc2272, h⟩ := ob (fun z9 => z9) rfl h
  refine c_V (rest := [.ref (am 0)]) 0 0 _ dX11_liars_2 kv_X11_159 (ct_M_liarsNow hc2272) rfl rfl lM_0 rfl (Nat.le_of_ble_eq_true rfl) (by decide) (by decide) ?_
  obtain ⟨r2273, hc2274, h⟩ := ob (fun z9 => z9) rfl h
  refine c_V (rest := []) 0 0 _ dX11_liars_5 kv_X11_376 (ct_M_ok hc2274) rfl rfl lM_0 rfl (Nat.le_of_ble_eq_true rfl) (by decide) (by decide) ?_
  refine r_iret dX11_liars_8 rfl ?_
  have h := Option.some.inj (show some _ = some o from h)
  subst h
  exact hq
theorem ct_M_liars {g : GG} {am : Nat → Nat} {ap : Nat → Nat} {t : va_W} {m1 m2 m3 m4 m5 m7 m8 u0 u2 u3 u4 : Int32} {m13 m14 m15 m16 m18 m20 m21 u7 u8 u9 u10 u11 u12 u13 u14 u15 u16 u17 u18 : Nat → Int32} {m17 u5 u6 : Nat → Int64} {N : Nat} {M_thrown : Int32} {M_doubted : Int32} {M_looked : Int32} {M_lying : Int32} {M_fewest : Int32} {M_sets : Int32} {M_against : Nat → Int32} {P_tellers : Int32} {o : Int32 × Int32 × Int32 × Int32 × Int32 × Int32} (h : f_M_liars N M_thrown M_doubted M_looked M_lying M_fewest M_sets M_against P_tellers = some o) : Ct g mX11_liars 5 0 0 [.ref (am 0)] (wlM g am (ap 0) M_thrown m1 m2 m3 m4 m5 M_doubted m7 m8 M_looked M_lying M_fewest M_sets m13 m14 m15 m16 m17 m18 M_against m20 m21 ++ (wlP g ap u0 P_tellers u2 u3 u4 u5 u6 u7 u8 u9 u10 u11 u12 u13 u14 u15 u16 u17 u18 ++ t)) (Dv (some (.int o.1)) (wlM g am (ap 0) o.2.1 m1 m2 m3 m4 m5 M_doubted m7 m8 o.2.2.1 o.2.2.2.1 o.2.2.2.2.1 o.2.2.2.2.2 m13 m14 m15 m16 m17 m18 M_against m20 m21 ++ (wlP g ap u0 P_tellers u2 u3 u4 u5 u6 u7 u8 u9 u10 u11 u12 u13 u14 u15 u16 u17 u18 ++ t))) := Ct.ofR (by decide +kernel) rfl (Nat.le_of_ble_eq_true rfl) (rt_M_liars h ⟨rfl, rfl⟩)
set_option maxRecDepth 20000 in
set_option maxHeartbeats 4000000 in
theorem rt_M_smallestSets {g : GG} {am : Nat → Nat} {ap : Nat → Nat} {t : va_W} {m1 m2 m3 m4 m5 m7 m8 u0 u2 u3 u4 : Int32} {m13 m14 m15 m16 m18 m20 m21 u7 u8 u9 u10 u11 u12 u13 u14 u15 u16 u17 u18 : Nat → Int32} {m17 u5 u6 : Nat → Int64} {N : Nat} {M_thrown : Int32} {M_doubted : Int32} {M_looked : Int32} {M_lying : Int32} {M_fewest : Int32} {M_sets : Int32} {M_against : Nat → Int32} {P_tellers : Int32} {o : Int32 × Int32 × Int32 × Int32 × Int32 × Int32} {Q : Rs → va_W → Prop} (h : f_M_smallestSets N M_thrown M_doubted M_looked M_lying M_fewest M_sets M_against P_tellers = some o) (hq : Q (.inl (some (.int o.1))) (wlM g am (ap 0) o.2.1 m1 m2 m3 m4 m5 M_doubted m7 m8 o.2.2.1 o.2.2.2.1 o.2.2.2.2.1 o.2.2.2.2.2 m13 m14 m15 m16 m17 m18 M_against m20 m21 ++ (wlP g ap u0 P_tellers u2 u3 u4 u5 u6 u7 u8 u9 u10 u11 u12 u13 u14 u15 u16 u17 u18 ++ t))) : R g mX11_smallestSets 4 0 0 0 [(0, .ref (am 0))] [] (wlM g am (ap 0) M_thrown m1 m2 m3 m4 m5 M_doubted m7 m8 M_looked M_lying M_fewest M_sets m13 m14 m15 m16 m17 m18 M_against m20 m21 ++ (wlP g ap u0 P_tellers u2 u3 u4 u5 u6 u7 u8 u9 u10 u11 u12 u13 u14 u15 u16 u17 u18 ++ t)) Q := by
  unfold f_M_smallestSets at h
  refine r_aload_n 0 dX11_smallestSets_0 rfl ?_
  refine r_iconst (v := (0 : Int32)) dX11_smallestSets_1 (by decide) ?_
  refine r_putf _ dX11_smallestSets_2 fl_X11_52 lM_0 (Nat.le_of_ble_eq_true rfl) rfl rfl (sM_0 _) ?_
  refine r_aload_n 0 dX11_smallestSets_5 rfl ?_
  obtain ⟨r2275, hc2276, h⟩ := ob (fun z9 => z9) rfl h
  refine c_Vv (rest := []) 0 0 _ dX11_smallestSets_6 kv_X11_116 (ct_M_look hc2276) rfl rfl lM_0 rfl (Nat.le_of_ble_eq_true rfl) (by decide) (by decide) ?_
  refine r_aload_n 0 dX11_smallestSets_9 rfl ?_
  refine r_getf (v := .int r2275.2.2.2) _ dX11_smallestSets_10 fl_X11_107 lM_0 rfl ?_
  refine r_iret dX11_smallestSets_13 rfl ?_
  have h := Option.some.inj (show some _ = some o from h)
  subst h
  exact hq
theorem ct_M_smallestSets {g : GG} {am : Nat → Nat} {ap : Nat → Nat} {t : va_W} {m1 m2 m3 m4 m5 m7 m8 u0 u2 u3 u4 : Int32} {m13 m14 m15 m16 m18 m20 m21 u7 u8 u9 u10 u11 u12 u13 u14 u15 u16 u17 u18 : Nat → Int32} {m17 u5 u6 : Nat → Int64} {N : Nat} {M_thrown : Int32} {M_doubted : Int32} {M_looked : Int32} {M_lying : Int32} {M_fewest : Int32} {M_sets : Int32} {M_against : Nat → Int32} {P_tellers : Int32} {o : Int32 × Int32 × Int32 × Int32 × Int32 × Int32} (h : f_M_smallestSets N M_thrown M_doubted M_looked M_lying M_fewest M_sets M_against P_tellers = some o) : Ct g mX11_smallestSets 4 0 0 [.ref (am 0)] (wlM g am (ap 0) M_thrown m1 m2 m3 m4 m5 M_doubted m7 m8 M_looked M_lying M_fewest M_sets m13 m14 m15 m16 m17 m18 M_against m20 m21 ++ (wlP g ap u0 P_tellers u2 u3 u4 u5 u6 u7 u8 u9 u10 u11 u12 u13 u14 u15 u16 u17 u18 ++ t)) (Dv (some (.int o.1)) (wlM g am (ap 0) o.2.1 m1 m2 m3 m4 m5 M_doubted m7 m8 o.2.2.1 o.2.2.2.1 o.2.2.2.2.1 o.2.2.2.2.2 m13 m14 m15 m16 m17 m18 M_against m20 m21 ++ (wlP g ap u0 P_tellers u2 u3 u4 u5 u6 u7 u8 u9 u10 u11 u12 u13 u14 u15 u16 u17 u18 ++ t))) := Ct.ofR (by decide +kernel) rfl (Nat.le_of_ble_eq_true rfl) (rt_M_smallestSets h ⟨rfl, rfl⟩)
set_option maxRecDepth 20000 in
set_option maxHeartbeats 4000000 in
theorem rt_M_isLiar {g : GG} {am : Nat → Nat} {ap : Nat → Nat} {t : va_W} {m1 m2 m3 m4 m5 m7 m8 u0 u2 u3 u4 : Int32} {m13 m14 m15 m16 m18 m20 m21 u7 u8 u9 u10 u11 u12 u13 u14 u15 u16 u17 u18 : Nat → Int32} {m17 u5 u6 : Nat → Int64} {N : Nat} {M_thrown : Int32} {M_doubted : Int32} {M_looked : Int32} {M_lying : Int32} {M_fewest : Int32} {M_sets : Int32} {M_against : Nat → Int32} {P_tellers : Int32} {p1 : Int32} {o : Int32 × Int32 × Int32 × Int32 × Int32 × Int32} {Q : Rs → va_W → Prop} (h : f_M_isLiar N M_thrown M_doubted M_looked M_lying M_fewest M_sets M_against P_tellers p1 = some o) (hq : Q (.inl (some (.int o.1))) (wlM g am (ap 0) o.2.1 m1 m2 m3 m4 m5 M_doubted m7 m8 o.2.2.1 o.2.2.2.1 o.2.2.2.2.1 o.2.2.2.2.2 m13 m14 m15 m16 m17 m18 M_against m20 m21 ++ (wlP g ap u0 P_tellers u2 u3 u4 u5 u6 u7 u8 u9 u10 u11 u12 u13 u14 u15 u16 u17 u18 ++ t))) : R g mX11_isLiar 5 0 0 0 [(0, .ref (am 0)), (1, .int p1)] [] (wlM g am (ap 0) M_thrown m1 m2 m3 m4 m5 M_doubted m7 m8 M_looked M_lying M_fewest M_sets m13 m14 m15 m16 m17 m18 M_against m20 m21 ++ (wlP g ap u0 P_tellers u2 u3 u4 u5 u6 u7 u8 u9 u10 u11 u12 u13 u14 u15 u16 u17 u18 ++ t)) Q := by
  unfold f_M_isLiar at h
  refine r_aload_n 0 dX11_isLiar_0 rfl ?_
  refine r_iconst (v := (0 : Int32)) dX11_isLiar_1 (by decide) ?_
  refine r_putf _ dX11_isLiar_2 fl_X11_52 lM_0 (Nat.le_of_ble_eq_true rfl) rfl rfl (sM_0 _) ?_
  refine r_aload_n 0 dX11_isLiar_5 rfl ?_
  refine r_iload_n 1 dX11_isLiar_6 rfl ?_
  refine c_V (rest := []) 0 0 _ dX11_isLiar_7 kv_X11_385 (ct_M_isTeller rfl) rfl rfl lM_0 rfl (Nat.le_of_ble_eq_true rfl) (by decide) (by decide) ?_
  refine r_if_eq (tgt := 21) dX11_isLiar_10 (by decide) (fun hc2277 => ?_) (fun hc2277 => ?_)
  · have h := ip (fun z9 => z9) hc2277 h
    refine r_aload_n 0 dX11_isLiar_21 rfl ?_
    refine r_iconst (v := (1 : Int32)) dX11_isLiar_22 (by decide) ?_
    obtain ⟨r2278, hc2279, h⟩ := ob (fun z9 => z9) rfl h
    refine c_V (rest := []) 0 0 _ dX11_isLiar_23 kv_X11_382 (ct_M_isNot hc2279) rfl rfl lM_0 rfl (Nat.le_of_ble_eq_true rfl) (by decide) (by decide) ?_
    obtain ⟨hb2280, h⟩ := gd (fun z9 => z9) rfl h
    refine r_zret dX11_isLiar_26 rfl (zB_n hb2280) ?_
    have h := Option.some.inj (show some _ = some o from h)
    subst h
    exact hq
  · have h := iq (fun z9 => z9) hc2277 h
    refine r_aload_n 0 dX11_isLiar_13 rfl ?_
    refine r_iload_n 1 dX11_isLiar_14 rfl ?_
    obtain ⟨r2281, hc2282, h⟩ := ob (fun z9 => z9) rfl h
    refine c_V (rest := []) 0 0 _ dX11_isLiar_15 kv_X11_178 (ct_M_lies hc2282) rfl rfl lM_0 rfl (Nat.le_of_ble_eq_true rfl) (by decide) (by decide) ?_
    refine r_goto (tgt := 26) dX11_isLiar_18 (by decide) ?_
    obtain ⟨hb2283, h⟩ := gd (fun z9 => z9) rfl h
    refine r_zret dX11_isLiar_26 rfl (zB_n hb2283) ?_
    have h := Option.some.inj (show some _ = some o from h)
    subst h
    exact hq
theorem ct_M_isLiar {g : GG} {am : Nat → Nat} {ap : Nat → Nat} {t : va_W} {m1 m2 m3 m4 m5 m7 m8 u0 u2 u3 u4 : Int32} {m13 m14 m15 m16 m18 m20 m21 u7 u8 u9 u10 u11 u12 u13 u14 u15 u16 u17 u18 : Nat → Int32} {m17 u5 u6 : Nat → Int64} {N : Nat} {M_thrown : Int32} {M_doubted : Int32} {M_looked : Int32} {M_lying : Int32} {M_fewest : Int32} {M_sets : Int32} {M_against : Nat → Int32} {P_tellers : Int32} {p1 : Int32} {o : Int32 × Int32 × Int32 × Int32 × Int32 × Int32} (h : f_M_isLiar N M_thrown M_doubted M_looked M_lying M_fewest M_sets M_against P_tellers p1 = some o) : Ct g mX11_isLiar 5 0 0 [.ref (am 0), .int p1] (wlM g am (ap 0) M_thrown m1 m2 m3 m4 m5 M_doubted m7 m8 M_looked M_lying M_fewest M_sets m13 m14 m15 m16 m17 m18 M_against m20 m21 ++ (wlP g ap u0 P_tellers u2 u3 u4 u5 u6 u7 u8 u9 u10 u11 u12 u13 u14 u15 u16 u17 u18 ++ t)) (Dv (some (.int o.1)) (wlM g am (ap 0) o.2.1 m1 m2 m3 m4 m5 M_doubted m7 m8 o.2.2.1 o.2.2.2.1 o.2.2.2.2.1 o.2.2.2.2.2 m13 m14 m15 m16 m17 m18 M_against m20 m21 ++ (wlP g ap u0 P_tellers u2 u3 u4 u5 u6 u7 u8 u9 u10 u11 u12 u13 u14 u15 u16 u17 u18 ++ t))) := Ct.ofR (by decide +kernel) rfl (Nat.le_of_ble_eq_true rfl) (rt_M_isLiar h ⟨rfl, rfl⟩)
set_option maxRecDepth 20000 in
set_option maxHeartbeats 4000000 in
theorem rt_M_isAgreed {g : GG} {am : Nat → Nat} {ap : Nat → Nat} {t : va_W} {m1 m2 m3 m4 m5 m7 m8 m9 m10 m11 m12 u1 u3 u4 : Int32} {m13 m14 m15 m16 m18 m19 m20 m21 u12 u13 u14 u15 u16 u17 u18 : Nat → Int32} {m17 u5 u6 : Nat → Int64} {N : Nat} {M_thrown : Int32} {M_doubted : Int32} {P_events : Int32} {P_claims : Int32} {P_kind : Nat → Int32} {P_by : Nat → Int32} {P_of : Nat → Int32} {P_other : Nat → Int32} {P_last : Nat → Int32} {p1 : Int32} {o : Int32 × Int32} {Q : Rs → va_W → Prop} (h : f_M_isAgreed N M_thrown M_doubted P_events P_claims P_kind P_by P_of P_other P_last p1 = some o) (hq : Q (.inl (some (.int o.1))) (wlM g am (ap 0) o.2 m1 m2 m3 m4 m5 M_doubted m7 m8 m9 m10 m11 m12 m13 m14 m15 m16 m17 m18 m19 m20 m21 ++ (wlP g ap P_events u1 P_claims u3 u4 u5 u6 P_kind P_by P_of P_other P_last u12 u13 u14 u15 u16 u17 u18 ++ t))) : R g mX11_isAgreed 4 0 0 0 [(0, .ref (am 0)), (1, .int p1)] [] (wlM g am (ap 0) M_thrown m1 m2 m3 m4 m5 M_doubted m7 m8 m9 m10 m11 m12 m13 m14 m15 m16 m17 m18 m19 m20 m21 ++ (wlP g ap P_events u1 P_claims u3 u4 u5 u6 P_kind P_by P_of P_other P_last u12 u13 u14 u15 u16 u17 u18 ++ t)) Q := by
  unfold f_M_isAgreed at h
  refine r_aload_n 0 dX11_isAgreed_0 rfl ?_
  refine r_iconst (v := (0 : Int32)) dX11_isAgreed_1 (by decide) ?_
  refine r_putf _ dX11_isAgreed_2 fl_X11_52 lM_0 (Nat.le_of_ble_eq_true rfl) rfl rfl (sM_0 _) ?_
  refine r_aload_n 0 dX11_isAgreed_5 rfl ?_
  refine r_iload_n 1 dX11_isAgreed_6 rfl ?_
  refine c_V (rest := []) 0 0 _ dX11_isAgreed_7 kv_X11_391 (ct_M_isEvent rfl) rfl rfl lM_0 rfl (Nat.le_of_ble_eq_true rfl) (by decide) (by decide) ?_
  refine r_if_eq (tgt := 29) dX11_isAgreed_10 (by decide) (fun hc2284 => ?_) (fun hc2284 => ?_)
  · have h := ip (fun z9 => z9) hc2284 h
    refine r_aload_n 0 dX11_isAgreed_29 rfl ?_
    refine r_iconst (v := (1 : Int32)) dX11_isAgreed_30 (by decide) ?_
    obtain ⟨r2285, hc2286, h⟩ := ob (fun z9 => z9) rfl h
    refine c_V (rest := []) 0 0 _ dX11_isAgreed_31 kv_X11_382 (ct_M_isNot hc2286) rfl rfl lM_0 rfl (Nat.le_of_ble_eq_true rfl) (by decide) (by decide) ?_
    obtain ⟨hb2287, h⟩ := gd (fun z9 => z9) rfl h
    refine r_zret dX11_isAgreed_34 rfl (zB_n hb2287) ?_
    have h := Option.some.inj (show some _ = some o from h)
    subst h
    exact hq
  · have h := iq (fun z9 => z9) hc2284 h
    refine r_aload_n 0 dX11_isAgreed_13 rfl ?_
    refine r_iload_n 1 dX11_isAgreed_14 rfl ?_
    obtain ⟨r2288, hc2289, h⟩ := ob (fun z9 => z9) rfl h
    refine c_V (rest := []) 0 0 _ dX11_isAgreed_15 kv_X11_172 (ct_M_hours hc2289) rfl rfl lM_0 rfl (Nat.le_of_ble_eq_true rfl) (by decide) (by decide) ?_
    refine r_if_le (tgt := 25) dX11_isAgreed_18 (by decide) (fun hc2290 => ?_) (fun hc2290 => ?_)
    · have h := ip (fun z9 => z9) hc2290 h
      refine r_iconst (v := (0 : Int32)) dX11_isAgreed_25 (by decide) ?_
      refine r_goto (tgt := 34) dX11_isAgreed_26 (by decide) ?_
      refine r_zret dX11_isAgreed_34 rfl (by decide) ?_
      have h := Option.some.inj (show some _ = some o from h)
      subst h
      exact hq
    · have h := iq (fun z9 => z9) hc2290 h
      refine r_iconst (v := (1 : Int32)) dX11_isAgreed_21 (by decide) ?_
      refine r_goto (tgt := 34) dX11_isAgreed_22 (by decide) ?_
      refine r_zret dX11_isAgreed_34 rfl (by decide) ?_
      have h := Option.some.inj (show some _ = some o from h)
      subst h
      exact hq
theorem ct_M_isAgreed {g : GG} {am : Nat → Nat} {ap : Nat → Nat} {t : va_W} {m1 m2 m3 m4 m5 m7 m8 m9 m10 m11 m12 u1 u3 u4 : Int32} {m13 m14 m15 m16 m18 m19 m20 m21 u12 u13 u14 u15 u16 u17 u18 : Nat → Int32} {m17 u5 u6 : Nat → Int64} {N : Nat} {M_thrown : Int32} {M_doubted : Int32} {P_events : Int32} {P_claims : Int32} {P_kind : Nat → Int32} {P_by : Nat → Int32} {P_of : Nat → Int32} {P_other : Nat → Int32} {P_last : Nat → Int32} {p1 : Int32} {o : Int32 × Int32} (h : f_M_isAgreed N M_thrown M_doubted P_events P_claims P_kind P_by P_of P_other P_last p1 = some o) : Ct g mX11_isAgreed 4 0 0 [.ref (am 0), .int p1] (wlM g am (ap 0) M_thrown m1 m2 m3 m4 m5 M_doubted m7 m8 m9 m10 m11 m12 m13 m14 m15 m16 m17 m18 m19 m20 m21 ++ (wlP g ap P_events u1 P_claims u3 u4 u5 u6 P_kind P_by P_of P_other P_last u12 u13 u14 u15 u16 u17 u18 ++ t)) (Dv (some (.int o.1)) (wlM g am (ap 0) o.2 m1 m2 m3 m4 m5 M_doubted m7 m8 m9 m10 m11 m12 m13 m14 m15 m16 m17 m18 m19 m20 m21 ++ (wlP g ap P_events u1 P_claims u3 u4 u5 u6 P_kind P_by P_of P_other P_last u12 u13 u14 u15 u16 u17 u18 ++ t))) := Ct.ofR (by decide +kernel) rfl (Nat.le_of_ble_eq_true rfl) (rt_M_isAgreed h ⟨rfl, rfl⟩)
