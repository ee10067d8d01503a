set_option maxRecDepth 20000 in
set_option maxHeartbeats 4000000 in
theorem rt_M_windowFrom {g : GG} {am : Nat → Nat} {ap : Nat → Nat} {t : va_W} {m1 m2 m3 m4 m5 m7 m8 m9 m10 m11 m12 u1 u3 u4 : Int32} {m13 m14 m15 m16 m18 m19 m20 m21 u12 u13 u14 u15 u16 u17 u18 : Nat → Int32} {m17 u5 u6 : Nat → Int64} {N : Nat} {M_thrown : Int32} {M_doubted : Int32} {P_events : Int32} {P_claims : Int32} {P_kind : Nat → Int32} {P_by : Nat → Int32} {P_of : Nat → Int32} {P_other : Nat → Int32} {P_last : Nat → Int32} {p1 : Int32} {o : Int32 × Int32} {Q : Rs → va_W → Prop} (h : f_M_windowFrom N M_thrown M_doubted P_events P_claims P_kind P_by P_of P_other P_last p1 = some o) (hq : Q (.inl (some (.int o.1))) (wlM g am (ap 0) o.2 m1 m2 m3 m4 m5 M_doubted m7 m8 m9 m10 m11 m12 m13 m14 m15 m16 m17 m18 m19 m20 m21 ++ (wlP g ap P_events u1 P_claims u3 u4 u5 u6 P_kind P_by P_of P_other P_last u12 u13 u14 u15 u16 u17 u18 ++ t))) : R g mX11_windowFrom 4 0 0 0 [(0, .ref (am 0)), (1, .int p1)] [] (wlM g am (ap 0) M_thrown m1 m2 m3 m4 m5 M_doubted m7 m8 m9 m10 m11 m12 m13 m14 m15 m16 m17 m18 m19 m20 m21 ++ (wlP g ap P_events u1 P_claims u3 u4 u5 u6 P_kind P_by P_of P_other P_last u12 u13 u14 u15 u16 u17 u18 ++ t)) Q := by
  unfold f_M_windowFrom at h
  refine r_aload_n 0 dX11_windowFrom_0 rfl ?_
  refine r_iconst (v := (0 : Int32)) dX11_windowFrom_1 (by decide) ?_
  refine r_putf _ dX11_windowFrom_2 fl_X11_52 lM_0 (Nat.le_of_ble_eq_true rfl) rfl rfl (sM_0 _) ?_
  refine r_aload_n 0 dX11_windowFrom_5 rfl ?_
  refine r_iload_n 1 dX11_windowFrom_6 rfl ?_
  refine c_V (rest := []) 0 0 _ dX11_windowFrom_7 kv_X11_391 (ct_M_isEvent rfl) rfl rfl lM_0 rfl (Nat.le_of_ble_eq_true rfl) (by decide) (by decide) ?_
  refine r_if_ne (tgt := 19) dX11_windowFrom_10 (by decide) (fun hc2291 => ?_) (fun hc2291 => ?_)
  · have h := iq (fun z9 => z9) hc2291 h
    refine r_aload_n 0 dX11_windowFrom_19 rfl ?_
    refine r_iload_n 1 dX11_windowFrom_20 rfl ?_
    obtain ⟨r2292, hc2293, h⟩ := ob (fun z9 => z9) rfl h
    refine c_V (rest := []) 0 0 _ dX11_windowFrom_21 kv_X11_172 (ct_M_hours hc2293) rfl rfl lM_0 rfl (Nat.le_of_ble_eq_true rfl) (by decide) (by decide) ?_
    refine r_if_le (tgt := 35) dX11_windowFrom_24 (by decide) (fun hc2294 => ?_) (fun hc2294 => ?_)
    · have h := ip (fun z9 => z9) hc2294 h
      refine r_aload_n 0 dX11_windowFrom_35 rfl ?_
      refine r_iconst (v := (2 : Int32)) dX11_windowFrom_36 (by decide) ?_
      obtain ⟨r2295, hc2296, h⟩ := ob (fun z9 => z9) rfl h
      refine c_V (rest := []) 0 0 _ dX11_windowFrom_37 kv_X11_367 (ct_M_no hc2296) rfl rfl lM_0 rfl (Nat.le_of_ble_eq_true rfl) (by decide) (by decide) ?_
      refine r_iret dX11_windowFrom_40 rfl ?_
      have h := Option.some.inj (show some _ = some o from h)
      subst h
      exact hq
    · have h := iq (fun z9 => z9) hc2294 h
      refine r_aload_n 0 dX11_windowFrom_27 rfl ?_
      refine r_iload_n 1 dX11_windowFrom_28 rfl ?_
      obtain ⟨r2297, hc2298, h⟩ := ob (fun z9 => z9) rfl h
      refine c_V (rest := []) 0 0 _ dX11_windowFrom_29 kv_X11_131 (ct_M_windowBegins hc2298) rfl rfl lM_0 rfl (Nat.le_of_ble_eq_true rfl) (by decide) (by decide) ?_
      refine r_goto (tgt := 40) dX11_windowFrom_32 (by decide) ?_
      refine r_iret dX11_windowFrom_40 rfl ?_
      have h := Option.some.inj (show some _ = some o from h)
      subst h
      exact hq
  · have h := ip (fun z9 => z9) hc2291 h
    refine r_aload_n 0 dX11_windowFrom_13 rfl ?_
    refine r_iconst (v := (1 : Int32)) dX11_windowFrom_14 (by decide) ?_
    obtain ⟨r2299, hc2300, h⟩ := ob (fun z9 => z9) rfl h
    refine c_V (rest := []) 0 0 _ dX11_windowFrom_15 kv_X11_367 (ct_M_no hc2300) rfl rfl lM_0 rfl (Nat.le_of_ble_eq_true rfl) (by decide) (by decide) ?_
    refine r_iret dX11_windowFrom_18 rfl ?_
    have h := Option.some.inj (show some _ = some o from h)
    subst h
    exact hq
theorem ct_M_windowFrom {g : GG} {am : Nat → Nat} {ap : Nat → Nat} {t : va_W} {m1 m2 m3 m4 m5 m7 m8 m9 m10 m11 m12 u1 u3 u4 : Int32} {m13 m14 m15 m16 m18 m19 m20 m21 u12 u13 u14 u15 u16 u17 u18 : Nat → Int32} {m17 u5 u6 : Nat → Int64} {N : Nat} {M_thrown : Int32} {M_doubted : Int32} {P_events : Int32} {P_claims : Int32} {P_kind : Nat → Int32} {P_by : Nat → Int32} {P_of : Nat → Int32} {P_other : Nat → Int32} {P_last : Nat → Int32} {p1 : Int32} {o : Int32 × Int32} (h : f_M_windowFrom N M_thrown M_doubted P_events P_claims P_kind P_by P_of P_other P_last p1 = some o) : Ct g mX11_windowFrom 4 0 0 [.ref (am 0), .int p1] (wlM g am (ap 0) M_thrown m1 m2 m3 m4 m5 M_doubted m7 m8 m9 m10 m11 m12 m13 m14 m15 m16 m17 m18 m19 m20 m21 ++ (wlP g ap P_events u1 P_claims u3 u4 u5 u6 P_kind P_by P_of P_other P_last u12 u13 u14 u15 u16 u17 u18 ++ t)) (Dv (some (.int o.1)) (wlM g am (ap 0) o.2 m1 m2 m3 m4 m5 M_doubted m7 m8 m9 m10 m11 m12 m13 m14 m15 m16 m17 m18 m19 m20 m21 ++ (wlP g ap P_events u1 P_claims u3 u4 u5 u6 P_kind P_by P_of P_other P_last u12 u13 u14 u15 u16 u17 u18 ++ t))) := Ct.ofR (by decide +kernel) rfl (Nat.le_of_ble_eq_true rfl) (rt_M_windowFrom h ⟨rfl, rfl⟩)
set_option maxRecDepth 20000 in
set_option maxHeartbeats 4000000 in
theorem rt_M_windowTo {g : GG} {am : Nat → Nat} {ap : Nat → Nat} {t : va_W} {m1 m2 m3 m4 m5 m7 m8 m9 m10 m11 m12 u1 u3 u4 : Int32} {m13 m14 m15 m16 m18 m19 m20 m21 u12 u13 u14 u15 u16 u17 u18 : Nat → Int32} {m17 u5 u6 : Nat → Int64} {N : Nat} {M_thrown : Int32} {M_doubted : Int32} {P_events : Int32} {P_claims : Int32} {P_kind : Nat → Int32} {P_by : Nat → Int32} {P_of : Nat → Int32} {P_other : Nat → Int32} {P_last : Nat → Int32} {p1 : Int32} {o : Int32 × Int32} {Q : Rs → va_W → Prop} (h : f_M_windowTo N M_thrown M_doubted P_events P_claims P_kind P_by P_of P_other P_last p1 = some o) (hq : Q (.inl (some (.int o.1))) (wlM g am (ap 0) o.2 m1 m2 m3 m4 m5 M_doubted m7 m8 m9 m10 m11 m12 m13 m14 m15 m16 m17 m18 m19 m20 m21 ++ (wlP g ap P_events u1 P_claims u3 u4 u5 u6 P_kind P_by P_of P_other P_last u12 u13 u14 u15 u16 u17 u18 ++ t))) : R g mX11_windowTo 4 0 0 0 [(0, .ref (am 0)), (1, .int p1)] [] (wlM g am (ap 0) M_thrown m1 m2 m3 m4 m5 M_doubted m7 m8 m9 m10 m11 m12 m13 m14 m15 m16 m17 m18 m19 m20 m21 ++ (wlP g ap P_events u1 P_claims u3 u4 u5 u6 P_kind P_by P_of P_other P_last u12 u13 u14 u15 u16 u17 u18 ++ t)) Q := by
  unfold f_M_windowTo at h
  refine r_aload_n 0 dX11_windowTo_0 rfl ?_
  refine r_iconst (v := (0 : Int32)) dX11_windowTo_1 (by decide) ?_
  refine r_putf _ dX11_windowTo_2 fl_X11_52 lM_0 (Nat.le_of_ble_eq_true rfl) rfl rfl (sM_0 _) ?_
  refine r_aload_n 0 dX11_windowTo_5 rfl ?_
  refine r_iload_n 1 dX11_windowTo_6 rfl ?_
  refine c_V (rest := []) 0 0 _ dX11_windowTo_7 kv_X11_391 (ct_M_isEvent rfl) rfl rfl lM_0 rfl (Nat.le_of_ble_eq_true rfl) (by decide) (by decide) ?_
  refine r_if_ne (tgt := 19) dX11_windowTo_10 (by decide) (fun hc2301 => ?_) (fun hc2301 => ?_)
  · have h := iq (fun z9 => z9) hc2301 h
    refine r_aload_n 0 dX11_windowTo_19 rfl ?_
    refine r_iload_n 1 dX11_windowTo_20 rfl ?_
    obtain ⟨r2302, hc2303, h⟩ := ob (fun z9 => z9) rfl h
    refine c_V (rest := []) 0 0 _ dX11_windowTo_21 kv_X11_172 (ct_M_hours hc2303) rfl rfl lM_0 rfl (Nat.le_of_ble_eq_true rfl) (by decide) (by decide) ?_
    refine r_if_le (tgt := 35) dX11_windowTo_24 (by decide) (fun hc2304 => ?_) (fun hc2304 => ?_)
    · have h := ip (fun z9 => z9) hc2304 h
      refine r_aload_n 0 dX11_windowTo_35 rfl ?_
      refine r_iconst (v := (2 : Int32)) dX11_windowTo_36 (by decide) ?_
      obtain ⟨r2305, hc2306, h⟩ := ob (fun z9 => z9) rfl h
      refine c_V (rest := []) 0 0 _ dX11_windowTo_37 kv_X11_367 (ct_M_no hc2306) rfl rfl lM_0 rfl (Nat.le_of_ble_eq_true rfl) (by decide) (by decide) ?_
      refine r_iret dX11_windowTo_40 rfl ?_
      have h := Option.some.inj (show some _ = some o from h)
      subst h
      exact hq
    · have h := iq (fun z9 => z9) hc2304 h
      refine r_aload_n 0 dX11_windowTo_27 rfl ?_
      refine r_iload_n 1 dX11_windowTo_28 rfl ?_
      obtain ⟨r2307, hc2308, h⟩ := ob (fun z9 => z9) rfl h
      refine c_V (rest := []) 0 0 _ dX11_windowTo_29 kv_X11_128 (ct_M_windowEnds hc2308) rfl rfl lM_0 rfl (Nat.le_of_ble_eq_true rfl) (by decide) (by decide) ?_
      refine r_goto (tgt := 40) dX11_windowTo_32 (by decide) ?_
      refine r_iret dX11_windowTo_40 rfl ?_
      have h := Option.some.inj (show some _ = some o from h)
      subst h
      exact hq
  · have h := ip (fun z9 => z9) hc2301 h
    refine r_aload_n 0 dX11_windowTo_13 rfl ?_
    refine r_iconst (v := (1 : Int32)) dX11_windowTo_14 (by decide) ?_
    obtain ⟨r2309, hc2310, h⟩ := ob (fun z9 => z9) rfl h
    refine c_V (rest := []) 0 0 _ dX11_windowTo_15 kv_X11_367 (ct_M_no hc2310) rfl rfl lM_0 rfl (Nat.le_of_ble_eq_true rfl) (by decide) (by decide) ?_
    refine r_iret dX11_windowTo_18 rfl ?_
    have h := Option.some.inj (show some _ = some o from h)
    subst h
    exact hq
theorem ct_M_windowTo {g : GG} {am : Nat → Nat} {ap : Nat → Nat} {t : va_W} {m1 m2 m3 m4 m5 m7 m8 m9 m10 m11 m12 u1 u3 u4 : Int32} {m13 m14 m15 m16 m18 m19 m20 m21 u12 u13 u14 u15 u16 u17 u18 : Nat → Int32} {m17 u5 u6 : Nat → Int64} {N : Nat} {M_thrown : Int32} {M_doubted : Int32} {P_events : Int32} {P_claims : Int32} {P_kind : Nat → Int32} {P_by : Nat → Int32} {P_of : Nat → Int32} {P_other : Nat → Int32} {P_last : Nat → Int32} {p1 : Int32} {o : Int32 × Int32} (h : f_M_windowTo N M_thrown M_doubted P_events P_claims P_kind P_by P_of P_other P_last p1 = some o) : Ct g mX11_windowTo 4 0 0 [.ref (am 0), .int p1] (wlM g am (ap 0) M_thrown m1 m2 m3 m4 m5 M_doubted m7 m8 m9 m10 m11 m12 m13 m14 m15 m16 m17 m18 m19 m20 m21 ++ (wlP g ap P_events u1 P_claims u3 u4 u5 u6 P_kind P_by P_of P_other P_last u12 u13 u14 u15 u16 u17 u18 ++ t)) (Dv (some (.int o.1)) (wlM g am (ap 0) o.2 m1 m2 m3 m4 m5 M_doubted m7 m8 m9 m10 m11 m12 m13 m14 m15 m16 m17 m18 m19 m20 m21 ++ (wlP g ap P_events u1 P_claims u3 u4 u5 u6 P_kind P_by P_of P_other P_last u12 u13 u14 u15 u16 u17 u18 ++ t))) := Ct.ofR (by decide +kernel) rfl (Nat.le_of_ble_eq_true rfl) (rt_M_windowTo h ⟨rfl, rfl⟩)
set_option maxRecDepth 20000 in
set_option maxHeartbeats 4000000 in
theorem rt_M_hasOrder {g : GG} {am : Nat → Nat} {ap : Nat → Nat} {t : va_W} {m1 m2 m3 m4 m5 m7 m8 u3 u4 : Int32} {m13 m14 m15 m16 m18 m21 u11 u12 u13 u14 u15 u16 u17 u18 : Nat → Int32} {m17 u5 u6 : Nat → Int64} {N : Nat} {M_thrown : Int32} {M_doubted : Int32} {M_looked : Int32} {M_lying : Int32} {M_fewest : Int32} {M_sets : Int32} {M_against : Nat → Int32} {M_row : Nat → Int32} {P_events : Int32} {P_tellers : Int32} {P_claims : Int32} {P_kind : Nat → Int32} {P_by : Nat → Int32} {P_of : Nat → Int32} {P_other : Nat → Int32} {o : Int32 × Int32 × Int32 × Int32 × Int32 × Int32 × (Nat → Int32)} {Q : Rs → va_W → Prop} (h : f_M_hasOrder N M_thrown M_doubted M_looked M_lying M_fewest M_sets M_against M_row P_events P_tellers P_claims P_kind P_by P_of P_other = some o) (hq : Q (.inl (some (.int o.1))) (wlM g am (ap 0) o.2.1 m1 m2 m3 m4 m5 M_doubted m7 m8 o.2.2.1 o.2.2.2.1 o.2.2.2.2.1 o.2.2.2.2.2.1 m13 m14 m15 m16 m17 m18 M_against o.2.2.2.2.2.2 m21 ++ (wlP g ap P_events P_tellers P_claims u3 u4 u5 u6 P_kind P_by P_of P_other u11 u12 u13 u14 u15 u16 u17 u18 ++ t))) : R g mX11_hasOrder 7 0 0 0 [(0, .ref (am 0))] [] (wlM g am (ap 0) M_thrown m1 m2 m3 m4 m5 M_doubted m7 m8 M_looked M_lying M_fewest M_sets m13 m14 m15 m16 m17 m18 M_against M_row m21 ++ (wlP g ap P_events P_tellers P_claims u3 u4 u5 u6 P_kind P_by P_of P_other u11 u12 u13 u14 u15 u16 u17 u18 ++ t)) Q := by
  unfold f_M_hasOrder at h
  refine r_aload_n 0 dX11_hasOrder_0 rfl ?_
  refine r_iconst (v := (0 : Int32)) dX11_hasOrder_1 (by decide) ?_
  refine r_putf _ dX11_hasOrder_2 fl_X11_52 lM_0 (Nat.le_of_ble_eq_true rfl) rfl rfl (sM_0 _) ?_
  refine r_aload_n 0 dX11_hasOrder_5 rfl ?_
  obtain ⟨r2311, hc2312, h⟩ := ob (fun z9 => z9) rfl h
  refine c_V (rest := []) 0 0 _ dX11_hasOrder_6 kv_X11_394 (ct_M_isOrdered hc2312) rfl rfl lM_0 rfl (Nat.le_of_ble_eq_true rfl) (by decide) (by decide) ?_
  obtain ⟨hb2313, h⟩ := gd (fun z9 => z9) rfl h
  refine r_zret dX11_hasOrder_9 rfl (zB_n hb2313) ?_
  have h := Option.some.inj (show some _ = some o from h)
  subst h
  exact hq
theorem ct_M_hasOrder {g : GG} {am : Nat → Nat} {ap : Nat → Nat} {t : va_W} {m1 m2 m3 m4 m5 m7 m8 u3 u4 : Int32} {m13 m14 m15 m16 m18 m21 u11 u12 u13 u14 u15 u16 u17 u18 : Nat → Int32} {m17 u5 u6 : Nat → Int64} {N : Nat} {M_thrown : Int32} {M_doubted : Int32} {M_looked : Int32} {M_lying : Int32} {M_fewest : Int32} {M_sets : Int32} {M_against : Nat → Int32} {M_row : Nat → Int32} {P_events : Int32} {P_tellers : Int32} {P_claims : Int32} {P_kind : Nat → Int32} {P_by : Nat → Int32} {P_of : Nat → Int32} {P_other : Nat → Int32} {o : Int32 × Int32 × Int32 × Int32 × Int32 × Int32 × (Nat → Int32)} (h : f_M_hasOrder N M_thrown M_doubted M_looked M_lying M_fewest M_sets M_against M_row P_events P_tellers P_claims P_kind P_by P_of P_other = some o) : Ct g mX11_hasOrder 7 0 0 [.ref (am 0)] (wlM g am (ap 0) M_thrown m1 m2 m3 m4 m5 M_doubted m7 m8 M_looked M_lying M_fewest M_sets m13 m14 m15 m16 m17 m18 M_against M_row m21 ++ (wlP g ap P_events P_tellers P_claims u3 u4 u5 u6 P_kind P_by P_of P_other u11 u12 u13 u14 u15 u16 u17 u18 ++ t)) (Dv (some (.int o.1)) (wlM g am (ap 0) o.2.1 m1 m2 m3 m4 m5 M_doubted m7 m8 o.2.2.1 o.2.2.2.1 o.2.2.2.2.1 o.2.2.2.2.2.1 m13 m14 m15 m16 m17 m18 M_against o.2.2.2.2.2.2 m21 ++ (wlP g ap P_events P_tellers P_claims u3 u4 u5 u6 P_kind P_by P_of P_other u11 u12 u13 u14 u15 u16 u17 u18 ++ t))) := Ct.ofR (by decide +kernel) rfl (Nat.le_of_ble_eq_true rfl) (rt_M_hasOrder h ⟨rfl, rfl⟩)
set_option maxRecDepth 20000 in
set_option maxHeartbeats 4000000 in
theorem rt_M_eventAt {g : GG} {am : Nat → Nat} {ap : Nat → Nat} {t : va_W} {m1 m2 m3 m4 m5 m7 m8 u3 u4 : Int32} {m13 m14 m15 m16 m18 m21 u11 u12 u13 u14 u15 u16 u17 u18 : Nat → Int32} {m17 u5 u6 : Nat → Int64} {N : Nat} {M_thrown : Int32} {M_doubted : Int32} {M_looked : Int32} {M_lying : Int32} {M_fewest : Int32} {M_sets : Int32} {M_against : Nat → Int32} {M_row : Nat → Int32} {P_events : Int32} {P_tellers : Int32} {P_claims : Int32} {P_kind : Nat → Int32} {P_by : Nat → Int32} {P_of : Nat → Int32} {P_other : Nat → Int32} {p1 : Int32} {o : Int32 × Int32 × Int32 × Int32 × Int32 × Int32 × (Nat → Int32)} {Q : Rs → va_W → Prop} (h : f_M_eventAt N M_thrown M_doubted M_looked M_lying M_fewest M_sets M_against M_row P_events P_tellers P_claims P_kind P_by P_of P_other p1 = some o) (hq : Q (.inl (some (.int o.1))) (wlM g am (ap 0) o.2.1 m1 m2 m3 m4 m5 M_doubted m7 m8 o.2.2.1 o.2.2.2.1 o.2.2.2.2.1 o.2.2.2.2.2.1 m13 m14 m15 m16 m17 m18 M_against o.2.2.2.2.2.2 m21 ++ (wlP g ap P_events P_tellers P_claims u3 u4 u5 u6 P_kind P_by P_of P_other u11 u12 u13 u14 u15 u16 u17 u18 ++ t))) : R g mX11_eventAt 7 0 0 0 [(0, .ref (am 0)), (1, .int p1)] [] (wlM g am (ap 0) M_thrown m1 m2 m3 m4 m5 M_doubted m7 m8 M_looked M_lying M_fewest M_sets m13 m14 m15 m16 m17 m18 M_against M_row m21 ++ (wlP g ap P_events P_tellers P_claims u3 u4 u5 u6 P_kind P_by P_of P_other u11 u12 u13 u14 u15 u16 u17 u18 ++ t)) Q := by
  unfold f_M_eventAt at h
  refine r_aload_n 0 dX11_eventAt_0 rfl ?_
  refine r_iconst (v := (0 : Int32)) dX11_eventAt_1 (by decide) ?_
  refine r_putf _ dX11_eventAt_2 fl_X11_52 lM_0 (Nat.le_of_ble_eq_true rfl) rfl rfl (sM_0 _) ?_
  refine r_aload_n 0 dX11_eventAt_5 rfl ?_
  refine r_iload_n 1 dX11_eventAt_6 rfl ?_
  refine c_V (rest := []) 0 0 _ dX11_eventAt_7 kv_X11_391 (ct_M_isEvent rfl) rfl rfl lM_0 rfl (Nat.le_of_ble_eq_true rfl) (by decide) (by decide) ?_
  refine r_if_ne (tgt := 19) dX11_eventAt_10 (by decide) (fun hc2314 => ?_) (fun hc2314 => ?_)
  · have h := iq (fun z9 => z9) hc2314 h
    refine r_aload_n 0 dX11_eventAt_19 rfl ?_
    obtain ⟨r2315, hc2316, h⟩ := ob (fun z9 => z9) rfl h
    refine c_V (rest := []) 0 0 _ dX11_eventAt_20 kv_X11_394 (ct_M_isOrdered hc2316) rfl rfl lM_0 rfl (Nat.le_of_ble_eq_true rfl) (by decide) (by decide) ?_
    refine r_if_eq (tgt := 35) dX11_eventAt_23 (by decide) (fun hc2317 => ?_) (fun hc2317 => ?_)
    · have h := ip (fun z9 => z9) hc2317 h
      refine r_aload_n 0 dX11_eventAt_35 rfl ?_
      refine r_iconst (v := (2 : Int32)) dX11_eventAt_36 (by decide) ?_
      obtain ⟨r2318, hc2319, h⟩ := ob (fun z9 => z9) rfl h
      refine c_V (rest := []) 0 0 _ dX11_eventAt_37 kv_X11_367 (ct_M_no hc2319) rfl rfl lM_0 rfl (Nat.le_of_ble_eq_true rfl) (by decide) (by decide) ?_
      refine r_iret dX11_eventAt_40 rfl ?_
      have h := Option.some.inj (show some _ = some o from h)
      subst h
      exact hq
    · have h := iq (fun z9 => z9) hc2317 h
      refine r_aload_n 0 dX11_eventAt_26 rfl ?_
      refine r_getf (v := .ref (am 8)) _ dX11_eventAt_27 fl_X11_46 lM_0 rfl ?_
      refine r_iload_n 1 dX11_eventAt_30 rfl ?_
      obtain ⟨hb2320, h⟩ := gd (fun z9 => z9) rfl h
      refine r_iald _ dX11_eventAt_31 lM_8 hb2320 ?_
      refine r_goto (tgt := 40) dX11_eventAt_32 (by decide) ?_
      refine r_iret dX11_eventAt_40 rfl ?_
      have h := Option.some.inj (show some _ = some o from h)
      subst h
      exact hq
  · have h := ip (fun z9 => z9) hc2314 h
    refine r_aload_n 0 dX11_eventAt_13 rfl ?_
    refine r_iconst (v := (1 : Int32)) dX11_eventAt_14 (by decide) ?_
    obtain ⟨r2321, hc2322, h⟩ := ob (fun z9 => z9) rfl h
    refine c_V (rest := []) 0 0 _ dX11_eventAt_15 kv_X11_367 (ct_M_no hc2322) rfl rfl lM_0 rfl (Nat.le_of_ble_eq_true rfl) (by decide) (by decide) ?_
    refine r_iret dX11_eventAt_18 rfl ?_
    have h := Option.some.inj (show some _ = some o from h)
    subst h
    exact hq
theorem ct_M_eventAt {g : GG} {am : Nat → Nat} {ap : Nat → Nat} {t : va_W} {m1 m2 m3 m4 m5 m7 m8 u3 u4 : Int32} {m13 m14 m15 m16 m18 m21 u11 u12 u13 u14 u15 u16 u17 u18 : Nat → Int32} {m17 u5 u6 : Nat → Int64} {N : Nat} {M_thrown : Int32} {M_doubted : Int32} {M_looked : Int32} {M_lying : Int32} {M_fewest : Int32} {M_sets : Int32} {M_against : Nat → Int32} {M_row : Nat → Int32} {P_events : Int32} {P_tellers : Int32} {P_claims : Int32} {P_kind : Nat → Int32} {P_by : Nat → Int32} {P_of : Nat → Int32} {P_other : Nat → Int32} {p1 : Int32} {o : Int32 × Int32 × Int32 × Int32 × Int32 × Int32 × (Nat → Int32)} (h : f_M_eventAt N M_thrown M_doubted M_looked M_lying M_fewest M_sets M_against M_row P_events P_tellers P_claims P_kind P_by P_of P_other p1 = some o) : Ct g mX11_eventAt 7 0 0 [.ref (am 0), .int p1] (wlM g am (ap 0) M_thrown m1 m2 m3 m4 m5 M_doubted m7 m8 M_looked M_lying M_fewest M_sets m13 m14 m15 m16 m17 m18 M_against M_row m21 ++ (wlP g ap P_events P_tellers P_claims u3 u4 u5 u6 P_kind P_by P_of P_other u11 u12 u13 u14 u15 u16 u17 u18 ++ t)) (Dv (some (.int o.1)) (wlM g am (ap 0) o.2.1 m1 m2 m3 m4 m5 M_doubted m7 m8 o.2.2.1 o.2.2.2.1 o.2.2.2.2.1 o.2.2.2.2.2.1 m13 m14 m15 m16 m17 m18 M_against o.2.2.2.2.2.2 m21 ++ (wlP g ap P_events P_tellers P_claims u3 u4 u5 u6 P_kind P_by P_of P_other u11 u12 u13 u14 u15 u16 u17 u18 ++ t))) := Ct.ofR (by decide +kernel) rfl (Nat.le_of_ble_eq_true rfl) (rt_M_eventAt h ⟨rfl, rfl⟩)
set_option maxRecDepth 20000 in
set_option maxHeartbeats 4000000 in
theorem rt_M_claim {g : GG} {am : Nat → Nat} {ap : Nat → Nat} {t : va_W} {m1 m2 m3 m4 m5 m6 m7 m8 m10 m11 m12 u0 u1 u3 u4 : Int32} {m13 m14 m15 m16 m18 m20 m21 u12 u13 u14 u15 u16 u17 u18 : Nat → Int32} {m17 u5 u6 : Nat → Int64} {N : Nat} {M_thrown : Int32} {M_looked : Int32} {M_against : Nat → Int32} {P_claims : Int32} {P_kind : Nat → Int32} {P_by : Nat → Int32} {P_of : Nat → Int32} {P_other : Nat → Int32} {P_last : Nat → Int32} {p1 : Int32} {p2 : Int32} {p3 : Int32} {p4 : Int32} {p5 : Int32} {o : Int32 × Int32 × Int32 × (Nat → Int32) × Int32 × (Nat → Int32) × (Nat → Int32) × (Nat → Int32) × (Nat → Int32) × (Nat → Int32)} {Q : Rs → va_W → Prop} (h : f_M_claim N M_thrown M_looked M_against P_claims P_kind P_by P_of P_other P_last p1 p2 p3 p4 p5 = some o) (hq : Q (.inl (some (.int o.1))) (wlM g am (ap 0) o.2.1 m1 m2 m3 m4 m5 m6 m7 m8 o.2.2.1 m10 m11 m12 m13 m14 m15 m16 m17 m18 o.2.2.2.1 m20 m21 ++ (wlP g ap u0 u1 o.2.2.2.2.1 u3 u4 u5 u6 o.2.2.2.2.2.1 o.2.2.2.2.2.2.1 o.2.2.2.2.2.2.2.1 o.2.2.2.2.2.2.2.2.1 o.2.2.2.2.2.2.2.2.2 u12 u13 u14 u15 u16 u17 u18 ++ t))) : R g mX11_claim 6 0 0 0 [(0, .ref (am 0)), (1, .int p1), (2, .int p2), (3, .int p3), (4, .int p4), (5, .int p5)] [] (wlM g am (ap 0) M_thrown m1 m2 m3 m4 m5 m6 m7 m8 M_looked m10 m11 m12 m13 m14 m15 m16 m17 m18 M_against m20 m21 ++ (wlP g ap u0 u1 P_claims u3 u4 u5 u6 P_kind P_by P_of P_other P_last u12 u13 u14 u15 u16 u17 u18 ++ t)) Q := by
  unfold f_M_claim at h
  refine r_aload_n 0 dX11_claim_0 rfl ?_
  refine r_getf (v := .ref (ap 0)) _ dX11_claim_1 fl_X11_20 lM_0 rfl ?_
  refine r_getf (v := .int P_claims) _ dX11_claim_4 fl_X11_65 lP_0 rfl ?_
  refine r_bipush (v := (40 : Int32)) dX11_claim_7 (by decide) ?_
  refine r_icmp_ne (tgt := 18) dX11_claim_9 (by decide) (fun hc2323 => ?_) (fun hc2323 => ?_)
  · have h := iq (fun z9 => z9) hc2323 h
    refine r_aload_n 0 dX11_claim_18 rfl ?_
    refine r_getf (v := .ref (ap 0)) _ dX11_claim_19 fl_X11_20 lM_0 rfl ?_
    refine r_getf (v := .int P_claims) _ dX11_claim_22 fl_X11_65 lP_0 rfl ?_
    refine r_istore [(6, .int P_claims), (0, .ref (am 0)), (1, .int p1), (2, .int p2), (3, .int p3), (4, .int p4), (5, .int p5)] dX11_claim_25 (by decide) rfl ?_
    refine r_aload_n 1 dX11_claim_27 rfl ?_
    refine r_getf (v := .ref (ap 0)) _ dX11_claim_28 fl_X11_20 lM_0 rfl ?_
    refine r_dup dX11_claim_31 rfl ?_
    refine r_getf (v := .int P_claims) _ dX11_claim_32 fl_X11_65 lP_0 rfl ?_
    refine r_iconst (v := (1 : Int32)) dX11_claim_35 (by decide) ?_
    refine r_iadd dX11_claim_36 ?_
    refine r_putf _ dX11_claim_37 fl_X11_65 lP_0 (Nat.le_of_ble_eq_true rfl) rfl rfl (sP_2 _) ?_
    refine r_aload_n 1 dX11_claim_40 rfl ?_
    refine r_getf (v := .ref (ap 0)) _ dX11_claim_41 fl_X11_20 lM_0 rfl ?_
    refine r_getf (v := .ref (ap 3)) _ dX11_claim_44 fl_X11_68 lP_0 rfl ?_
    refine r_iload 0 dX11_claim_47 rfl ?_
    refine r_iload_n 2 dX11_claim_49 rfl ?_
    obtain ⟨hb2324, h⟩ := gd (fun z9 => z9) rfl h
    refine r_iast _ dX11_claim_50 lP_3 hb2324 (sP_7 _) ?_
    refine r_aload_n 1 dX11_claim_51 rfl ?_
    refine r_getf (v := .ref (ap 0)) _ dX11_claim_52 fl_X11_20 lM_0 rfl ?_
    refine r_getf (v := .ref (ap 4)) _ dX11_claim_55 fl_X11_82 lP_0 rfl ?_
    refine r_iload 0 dX11_claim_58 rfl ?_
    refine r_iload_n 3 dX11_claim_60 rfl ?_
    obtain ⟨hb2325, h⟩ := gd (fun z9 => z9) rfl h
    refine r_iast _ dX11_claim_61 lP_4 hb2325 (sP_8 _) ?_
    refine r_aload_n 1 dX11_claim_62 rfl ?_
    refine r_getf (v := .ref (ap 0)) _ dX11_claim_63 fl_X11_20 lM_0 rfl ?_
    refine r_getf (v := .ref (ap 5)) _ dX11_claim_66 fl_X11_73 lP_0 rfl ?_
    refine r_iload 0 dX11_claim_69 rfl ?_
    refine r_iload_n 4 dX11_claim_71 rfl ?_
    obtain ⟨hb2326, h⟩ := gd (fun z9 => z9) rfl h
    refine r_iast _ dX11_claim_72 lP_5 hb2326 (sP_9 _) ?_
    refine r_aload_n 1 dX11_claim_73 rfl ?_
    refine r_getf (v := .ref (ap 0)) _ dX11_claim_74 fl_X11_20 lM_0 rfl ?_
    refine r_getf (v := .ref (ap 6)) _ dX11_claim_77 fl_X11_79 lP_0 rfl ?_
    refine r_iload 0 dX11_claim_80 rfl ?_
    refine r_iload 5 dX11_claim_82 rfl ?_
    obtain ⟨hb2327, h⟩ := gd (fun z9 => z9) rfl h
    refine r_iast _ dX11_claim_84 lP_6 hb2327 (sP_10 _) ?_
    refine r_aload_n 1 dX11_claim_85 rfl ?_
    refine r_getf (v := .ref (ap 0)) _ dX11_claim_86 fl_X11_20 lM_0 rfl ?_
    refine r_getf (v := .ref (ap 7)) _ dX11_claim_89 fl_X11_76 lP_0 rfl ?_
    refine r_iload 0 dX11_claim_92 rfl ?_
    refine r_iload 6 dX11_claim_94 rfl ?_
    obtain ⟨hb2328, h⟩ := gd (fun z9 => z9) rfl h
    refine r_iast _ dX11_claim_96 lP_7 hb2328 (sP_11 _) ?_
    refine r_aload_n 1 dX11_claim_97 rfl ?_
    obtain ⟨r2329, hc2330, h⟩ := ob (fun z9 => z9) rfl h
    refine c_Vv (rest := []) 0 0 _ dX11_claim_98 kv_X11_373 (ct_M_weave hc2330) rfl rfl lM_0 rfl (Nat.le_of_ble_eq_true rfl) (by decide) (by decide) ?_
    refine r_iload 0 dX11_claim_101 rfl ?_
    refine r_iret dX11_claim_103 rfl ?_
    have h := Option.some.inj (show some _ = some o from h)
    subst h
    exact hq
  · have h := ip (fun z9 => z9) hc2323 h
    refine r_aload_n 0 dX11_claim_12 rfl ?_
    refine r_iconst (v := (3 : Int32)) dX11_claim_13 (by decide) ?_
    obtain ⟨r2331, hc2332, h⟩ := ob (fun z9 => z9) rfl h
    refine c_V (rest := []) 0 0 _ dX11_claim_14 kv_X11_367 (ct_M_no hc2332) rfl rfl lM_0 rfl (Nat.le_of_ble_eq_true rfl) (by decide) (by decide) ?_
    refine r_iret dX11_claim_17 rfl ?_
    have h := Option.some.inj (show some _ = some o from h)
    subst h
    exact hq
theorem ct_M_claim {g : GG} {am : Nat → Nat} {ap : Nat → Nat} {t : va_W} {m1 m2 m3 m4 m5 m6 m7 m8 m10 m11 m12 u0 u1 u3 u4 : Int32} {m13 m14 m15 m16 m18 m20 m21 u12 u13 u14 u15 u16 u17 u18 : Nat → Int32} {m17 u5 u6 : Nat → Int64} {N : Nat} {M_thrown : Int32} {M_looked : Int32} {M_against : Nat → Int32} {P_claims : Int32} {P_kind : Nat → Int32} {P_by : Nat → Int32} {P_of : Nat → Int32} {P_other : Nat → Int32} {P_last : Nat → Int32} {p1 : Int32} {p2 : Int32} {p3 : Int32} {p4 : Int32} {p5 : Int32} {o : Int32 × Int32 × Int32 × (Nat → Int32) × Int32 × (Nat → Int32) × (Nat → Int32) × (Nat → Int32) × (Nat → Int32) × (Nat → Int32)} (h : f_M_claim N M_thrown M_looked M_against P_claims P_kind P_by P_of P_other P_last p1 p2 p3 p4 p5 = some o) : Ct g mX11_claim 6 0 0 [.ref (am 0), .int p1, .int p2, .int p3, .int p4, .int p5] (wlM g am (ap 0) M_thrown m1 m2 m3 m4 m5 m6 m7 m8 M_looked m10 m11 m12 m13 m14 m15 m16 m17 m18 M_against m20 m21 ++ (wlP g ap u0 u1 P_claims u3 u4 u5 u6 P_kind P_by P_of P_other P_last u12 u13 u14 u15 u16 u17 u18 ++ t)) (Dv (some (.int o.1)) (wlM g am (ap 0) o.2.1 m1 m2 m3 m4 m5 m6 m7 m8 o.2.2.1 m10 m11 m12 m13 m14 m15 m16 m17 m18 o.2.2.2.1 m20 m21 ++ (wlP g ap u0 u1 o.2.2.2.2.1 u3 u4 u5 u6 o.2.2.2.2.2.1 o.2.2.2.2.2.2.1 o.2.2.2.2.2.2.2.1 o.2.2.2.2.2.2.2.2.1 o.2.2.2.2.2.2.2.2.2 u12 u13 u14 u15 u16 u17 u18 ++ t))) := Ct.ofR (by decide +kernel) rfl (Nat.le_of_ble_eq_true rfl) (rt_M_claim h ⟨rfl, rfl⟩)
set_option maxRecDepth 20000 in
set_option maxHeartbeats 4000000 in
theorem rt_M_claimHours {g : GG} {am : Nat → Nat} {ap : Nat → Nat} {t : va_W} {m1 m2 m3 m4 m5 m6 m7 m8 m10 m11 m12 u3 u4 : Int32} {m13 m14 m15 m16 m18 m20 m21 u12 u13 u14 u15 u16 u17 u18 : Nat → Int32} {m17 u5 u6 : Nat → Int64} {N : Nat} {M_thrown : Int32} {M_looked : Int32} {M_against : Nat → Int32} {P_events : Int32} {P_tellers : Int32} {P_claims : Int32} {P_kind : Nat → Int32} {P_by : Nat → Int32} {P_of : Nat → Int32} {P_other : Nat → Int32} {P_last : Nat → Int32} {p1 : Int32} {p2 : Int32} {p3 : Int32} {p4 : Int32} {o : Int32 × Int32 × Int32 × (Nat → Int32) × Int32 × (Nat → Int32) × (Nat → Int32) × (Nat → Int32) × (Nat → Int32) × (Nat → Int32)} {Q : Rs → va_W → Prop} (h : f_M_claimHours N M_thrown M_looked M_against P_events P_tellers P_claims P_kind P_by P_of P_other P_last p1 p2 p3 p4 = some o) (hq : Q (.inl (some (.int o.1))) (wlM g am (ap 0) o.2.1 m1 m2 m3 m4 m5 m6 m7 m8 o.2.2.1 m10 m11 m12 m13 m14 m15 m16 m17 m18 o.2.2.2.1 m20 m21 ++ (wlP g ap P_events P_tellers o.2.2.2.2.1 u3 u4 u5 u6 o.2.2.2.2.2.1 o.2.2.2.2.2.2.1 o.2.2.2.2.2.2.2.1 o.2.2.2.2.2.2.2.2.1 o.2.2.2.2.2.2.2.2.2 u12 u13 u14 u15 u16 u17 u18 ++ t))) : R g mX11_claimHours 7 0 0 0 [(0, .ref (am 0)), (1, .int p1), (2, .int p2), (3, .int p3), (4, .int p4)] [] (wlM g am (ap 0) M_thrown m1 m2 m3 m4 m5 m6 m7 m8 M_looked m10 m11 m12 m13 m14 m15 m16 m17 m18 M_against m20 m21 ++ (wlP g ap P_events P_tellers P_claims u3 u4 u5 u6 P_kind P_by P_of P_other P_last u12 u13 u14 u15 u16 u17 u18 ++ t)) Q := by
  unfold f_M_claimHours at h
  refine r_aload_n 0 dX11_claimHours_0 rfl ?_
  refine r_iconst (v := (0 : Int32)) dX11_claimHours_1 (by decide) ?_
  refine r_putf _ dX11_claimHours_2 fl_X11_52 lM_0 (Nat.le_of_ble_eq_true rfl) rfl rfl (sM_0 _) ?_
  refine r_aload_n 0 dX11_claimHours_5 rfl ?_
  refine r_iload_n 1 dX11_claimHours_6 rfl ?_
  refine c_V (rest := []) 0 0 _ dX11_claimHours_7 kv_X11_385 (ct_M_isTeller rfl) rfl rfl lM_0 rfl (Nat.le_of_ble_eq_true rfl) (by decide) (by decide) ?_
  refine r_if_eq (tgt := 21) dX11_claimHours_10 (by decide) (fun hc2333 => ?_) (fun hc2333 => ?_)
  · have h := ip (fun z9 => z9) hc2333 h
    refine r_aload_n 0 dX11_claimHours_21 rfl ?_
    refine r_iconst (v := (1 : Int32)) dX11_claimHours_22 (by decide) ?_
    obtain ⟨r2334, hc2335, h⟩ := ob (fun z9 => z9) rfl h
    refine c_V (rest := []) 0 0 _ dX11_claimHours_23 kv_X11_367 (ct_M_no hc2335) rfl rfl lM_0 rfl (Nat.le_of_ble_eq_true rfl) (by decide) (by decide) ?_
    refine r_iret dX11_claimHours_26 rfl ?_
    have h := Option.some.inj (show some _ = some o from h)
    subst h
    exact hq
  · have h := iq (fun z9 => z9) hc2333 h
    refine r_aload_n 0 dX11_claimHours_13 rfl ?_
    refine r_iload_n 2 dX11_claimHours_14 rfl ?_
    refine c_V (rest := []) 0 0 _ dX11_claimHours_15 kv_X11_391 (ct_M_isEvent rfl) rfl rfl lM_0 rfl (Nat.le_of_ble_eq_true rfl) (by decide) (by decide) ?_
    refine r_if_ne (tgt := 27) dX11_claimHours_18 (by decide) (fun hc2336 => ?_) (fun hc2336 => ?_)
    · have h := iq (fun z9 => z9) hc2336 h
      refine r_iload_n 3 dX11_claimHours_27 rfl ?_
      refine r_if_lt (tgt := 44) dX11_claimHours_28 (by decide) (fun hc2337 => ?_) (fun hc2337 => ?_)
      · have h := ip (fun z9 => z9) hc2337 h
        refine r_aload_n 0 dX11_claimHours_44 rfl ?_
        refine r_iconst (v := (2 : Int32)) dX11_claimHours_45 (by decide) ?_
        obtain ⟨r2338, hc2339, h⟩ := ob (fun z9 => z9) rfl h
        refine c_V (rest := []) 0 0 _ dX11_claimHours_46 kv_X11_367 (ct_M_no hc2339) rfl rfl lM_0 rfl (Nat.le_of_ble_eq_true rfl) (by decide) (by decide) ?_
        refine r_goto (tgt := 62) dX11_claimHours_49 (by decide) ?_
        refine r_iret dX11_claimHours_62 rfl ?_
        have h := Option.some.inj (show some _ = some o from h)
        subst h
        exact hq
      · have h := iq (fun z9 => z9) hc2337 h
        refine r_iload 4 dX11_claimHours_31 rfl ?_
        refine r_bipush (v := (99 : Int32)) dX11_claimHours_33 (by decide) ?_
        refine r_icmp_gt (tgt := 44) dX11_claimHours_35 (by decide) (fun hc2340 => ?_) (fun hc2340 => ?_)
        · have h := ip (fun z9 => z9) hc2340 h
          refine r_aload_n 0 dX11_claimHours_44 rfl ?_
          refine r_iconst (v := (2 : Int32)) dX11_claimHours_45 (by decide) ?_
          obtain ⟨r2341, hc2342, h⟩ := ob (fun z9 => z9) rfl h
          refine c_V (rest := []) 0 0 _ dX11_claimHours_46 kv_X11_367 (ct_M_no hc2342) rfl rfl lM_0 rfl (Nat.le_of_ble_eq_true rfl) (by decide) (by decide) ?_
          refine r_goto (tgt := 62) dX11_claimHours_49 (by decide) ?_
          refine r_iret dX11_claimHours_62 rfl ?_
          have h := Option.some.inj (show some _ = some o from h)
          subst h
          exact hq
        · have h := iq (fun z9 => z9) hc2340 h
          refine r_iload 4 dX11_claimHours_38 rfl ?_
          refine r_iload_n 3 dX11_claimHours_40 rfl ?_
          refine r_icmp_ge (tgt := 52) dX11_claimHours_41 (by decide) (fun hc2343 => ?_) (fun hc2343 => ?_)
          · have h := ip (fun z9 => z9) hc2343 h
            refine r_aload_n 0 dX11_claimHours_52 rfl ?_
            refine r_iconst (v := (0 : Int32)) dX11_claimHours_53 (by decide) ?_
            refine r_iload_n 1 dX11_claimHours_54 rfl ?_
            refine r_iload_n 2 dX11_claimHours_55 rfl ?_
            refine r_iload_n 3 dX11_claimHours_56 rfl ?_
            refine r_iload 4 dX11_claimHours_57 rfl ?_
            obtain ⟨r2344, hc2345, h⟩ := ob (fun z9 => z9) rfl h
            refine c_V (rest := []) 0 0 _ dX11_claimHours_59 kv_X11_397 (ct_M_claim hc2345) rfl rfl lM_0 rfl (Nat.le_of_ble_eq_true rfl) (by decide) (by decide) ?_
            refine r_iret dX11_claimHours_62 rfl ?_
            have h := Option.some.inj (show some _ = some o from h)
            subst h
            exact hq
          · have h := iq (fun z9 => z9) hc2343 h
            refine r_aload_n 0 dX11_claimHours_44 rfl ?_
            refine r_iconst (v := (2 : Int32)) dX11_claimHours_45 (by decide) ?_
            obtain ⟨r2346, hc2347, h⟩ := ob (fun z9 => z9) rfl h
            refine c_V (rest := []) 0 0 _ dX11_claimHours_46 kv_X11_367 (ct_M_no hc2347) rfl rfl lM_0 rfl (Nat.le_of_ble_eq_true rfl) (by decide) (by decide) ?_
            refine r_goto (tgt := 62) dX11_claimHours_49 (by decide) ?_
            refine r_iret dX11_claimHours_62 rfl ?_
            have h := Option.some.inj (show some _ = some o from h)
            subst h
            exact hq
    · have h := ip (fun z9 => z9) hc2336 h
      refine r_aload_n 0 dX11_claimHours_21 rfl ?_
      refine r_iconst (v := (1 : Int32)) dX11_claimHours_22 (by decide) ?_
      obtain ⟨r2348, hc2349, h⟩ := ob (fun z9 => z9) rfl h
      refine c_V (rest := []) 0 0 _ dX11_claimHours_23 kv_X11_367 (ct_M_no hc2349) rfl rfl lM_0 rfl (Nat.le_of_ble_eq_true rfl) (by decide) (by decide) ?_
      refine r_iret dX11_claimHours_26 rfl ?_
      have h := Option.some.inj (show some _ = some o from h)
      subst h
      exact hq
theorem ct_M_claimHours {g : GG} {am : Nat → Nat} {ap : Nat → Nat} {t : va_W} {m1 m2 m3 m4 m5 m6 m7 m8 m10 m11 m12 u3 u4 : Int32} {m13 m14 m15 m16 m18 m20 m21 u12 u13 u14 u15 u16 u17 u18 : Nat → Int32} {m17 u5 u6 : Nat → Int64} {N : Nat} {M_thrown : Int32} {M_looked : Int32} {M_against : Nat → Int32} {P_events : Int32} {P_tellers : Int32} {P_claims : Int32} {P_kind : Nat → Int32} {P_by : Nat → Int32} {P_of : Nat → Int32} {P_other : Nat → Int32} {P_last : Nat → Int32} {p1 : Int32} {p2 : Int32} {p3 : Int32} {p4 : Int32} {o : Int32 × Int32 × Int32 × (Nat → Int32) × Int32 × (Nat → Int32) × (Nat → Int32) × (Nat → Int32) × (Nat → Int32) × (Nat → Int32)} (h : f_M_claimHours N M_thrown M_looked M_against P_events P_tellers P_claims P_kind P_by P_of P_other P_last p1 p2 p3 p4 = some o) : Ct g mX11_claimHours 7 0 0 [.ref (am 0), .int p1, .int p2, .int p3, .int p4] (wlM g am (ap 0) M_thrown m1 m2 m3 m4 m5 m6 m7 m8 M_looked m10 m11 m12 m13 m14 m15 m16 m17 m18 M_against m20 m21 ++ (wlP g ap P_events P_tellers P_claims u3 u4 u5 u6 P_kind P_by P_of P_other P_last u12 u13 u14 u15 u16 u17 u18 ++ t)) (Dv (some (.int o.1)) (wlM g am (ap 0) o.2.1 m1 m2 m3 m4 m5 m6 m7 m8 o.2.2.1 m10 m11 m12 m13 m14 m15 m16 m17 m18 o.2.2.2.1 m20 m21 ++ (wlP g ap P_events P_tellers o.2.2.2.2.1 u3 u4 u5 u6 o.2.2.2.2.2.1 o.2.2.2.2.2.2.1 o.2.2.2.2.2.2.2.1 o.2.2.2.2.2.2.2.2.1 o.2.2.2.2.2.2.2.2.2 u12 u13 u14 u15 u16 u17 u18 ++ t))) := Ct.ofR (by decide +kernel) rfl (Nat.le_of_ble_eq_true rfl) (rt_M_claimHours h ⟨rfl, rfl⟩)
set_option maxRecDepth 20000 in
set_option maxHeartbeats 4000000 in
theorem rt_M_claimOfTwo {g : GG} {am : Nat → Nat} {ap : Nat → Nat} {t : va_W} {m1 m2 m3 m4 m5 m6 m7 m8 m10 m11 m12 u3 u4 : Int32} {m13 m14 m15 m16 m18 m20 m21 u12 u13 u14 u15 u16 u17 u18 : Nat → Int32} {m17 u5 u6 : Nat → Int64} {N : Nat} {M_thrown : Int32} {M_looked : Int32} {M_against : Nat → Int32} {P_events : Int32} {P_tellers : Int32} {P_claims : Int32} {P_kind : Nat → Int32} {P_by : Nat → Int32} {P_of : Nat → Int32} {P_other : Nat → Int32} {P_last : Nat → Int32} {p1 : Int32} {p2 : Int32} {p3 : Int32} {p4 : Int32} {o : Int32 × Int32 × Int32 × (Nat → Int32) × Int32 × (Nat → Int32) × (Nat → Int32) × (Nat → Int32) × (Nat → Int32) × (Nat → Int32)} {Q : Rs → va_W → Prop} (h : f_M_claimOfTwo N M_thrown M_looked M_against P_events P_tellers P_claims P_kind P_by P_of P_other P_last p1 p2 p3 p4 = some o) (hq : Q (.inl (some (.int o.1))) (wlM g am (ap 0) o.2.1 m1 m2 m3 m4 m5 m6 m7 m8 o.2.2.1 m10 m11 m12 m13 m14 m15 m16 m17 m18 o.2.2.2.1 m20 m21 ++ (wlP g ap P_events P_tellers o.2.2.2.2.1 u3 u4 u5 u6 o.2.2.2.2.2.1 o.2.2.2.2.2.2.1 o.2.2.2.2.2.2.2.1 o.2.2.2.2.2.2.2.2.1 o.2.2.2.2.2.2.2.2.2 u12 u13 u14 u15 u16 u17 u18 ++ t))) : R g mX11_claimOfTwo 7 0 0 0 [(0, .ref (am 0)), (1, .int p1), (2, .int p2), (3, .int p3), (4, .int p4)] [] (wlM g am (ap 0) M_thrown m1 m2 m3 m4 m5 m6 m7 m8 M_looked m10 m11 m12 m13 m14 m15 m16 m17 m18 M_against m20 m21 ++ (wlP g ap P_events P_tellers P_claims u3 u4 u5 u6 P_kind P_by P_of P_other P_last u12 u13 u14 u15 u16 u17 u18 ++ t)) Q := by
  unfold f_M_claimOfTwo at h
  refine r_aload_n 0 dX11_claimOfTwo_0 rfl ?_
  refine r_iconst (v := (0 : Int32)) dX11_claimOfTwo_1 (by decide) ?_
  refine r_putf _ dX11_claimOfTwo_2 fl_X11_52 lM_0 (Nat.le_of_ble_eq_true rfl) rfl rfl (sM_0 _) ?_
  refine r_aload_n 0 dX11_claimOfTwo_5 rfl ?_
  refine r_iload_n 2 dX11_claimOfTwo_6 rfl ?_
  refine c_V (rest := []) 0 0 _ dX11_claimOfTwo_7 kv_X11_385 (ct_M_isTeller rfl) rfl rfl lM_0 rfl (Nat.le_of_ble_eq_true rfl) (by decide) (by decide) ?_
  refine r_if_eq (tgt := 30) dX11_claimOfTwo_10 (by decide) (fun hc2350 => ?_) (fun hc2350 => ?_)
  · have h := ip (fun z9 => z9) hc2350 h
    refine r_aload_n 0 dX11_claimOfTwo_30 rfl ?_
    refine r_iconst (v := (1 : Int32)) dX11_claimOfTwo_31 (by decide) ?_
    obtain ⟨r2351, hc2352, h⟩ := ob (fun z9 => z9) rfl h
    refine c_V (rest := []) 0 0 _ dX11_claimOfTwo_32 kv_X11_367 (ct_M_no hc2352) rfl rfl lM_0 rfl (Nat.le_of_ble_eq_true rfl) (by decide) (by decide) ?_
    refine r_iret dX11_claimOfTwo_35 rfl ?_
    have h := Option.some.inj (show some _ = some o from h)
    subst h
    exact hq
  · have h := iq (fun z9 => z9) hc2350 h
    refine r_aload_n 0 dX11_claimOfTwo_13 rfl ?_
    refine r_iload_n 3 dX11_claimOfTwo_14 rfl ?_
    refine c_V (rest := []) 0 0 _ dX11_claimOfTwo_15 kv_X11_391 (ct_M_isEvent rfl) rfl rfl lM_0 rfl (Nat.le_of_ble_eq_true rfl) (by decide) (by decide) ?_
    refine r_if_eq (tgt := 30) dX11_claimOfTwo_18 (by decide) (fun hc2353 => ?_) (fun hc2353 => ?_)
    · have h := ip (fun z9 => z9) hc2353 h
      refine r_aload_n 0 dX11_claimOfTwo_30 rfl ?_
      refine r_iconst (v := (1 : Int32)) dX11_claimOfTwo_31 (by decide) ?_
      obtain ⟨r2354, hc2355, h⟩ := ob (fun z9 => z9) rfl h
      refine c_V (rest := []) 0 0 _ dX11_claimOfTwo_32 kv_X11_367 (ct_M_no hc2355) rfl rfl lM_0 rfl (Nat.le_of_ble_eq_true rfl) (by decide) (by decide) ?_
      refine r_iret dX11_claimOfTwo_35 rfl ?_
      have h := Option.some.inj (show some _ = some o from h)
      subst h
      exact hq
    · have h := iq (fun z9 => z9) hc2353 h
      refine r_aload_n 0 dX11_claimOfTwo_21 rfl ?_
      refine r_iload 4 dX11_claimOfTwo_22 rfl ?_
      refine c_V (rest := []) 0 0 _ dX11_claimOfTwo_24 kv_X11_391 (ct_M_isEvent rfl) rfl rfl lM_0 rfl (Nat.le_of_ble_eq_true rfl) (by decide) (by decide) ?_
      refine r_if_ne (tgt := 36) dX11_claimOfTwo_27 (by decide) (fun hc2356 => ?_) (fun hc2356 => ?_)
      · have h := iq (fun z9 => z9) hc2356 h
        refine r_iload_n 3 dX11_claimOfTwo_36 rfl ?_
        refine r_iload 4 dX11_claimOfTwo_37 rfl ?_
        refine r_icmp_ne (tgt := 50) dX11_claimOfTwo_39 (by decide) (fun hc2357 => ?_) (fun hc2357 => ?_)
        · have h := iq (fun z9 => z9) hc2357 h
          refine r_aload_n 0 dX11_claimOfTwo_50 rfl ?_
          refine r_iload_n 1 dX11_claimOfTwo_51 rfl ?_
          refine r_iload_n 2 dX11_claimOfTwo_52 rfl ?_
          refine r_iload_n 3 dX11_claimOfTwo_53 rfl ?_
          refine r_iload 4 dX11_claimOfTwo_54 rfl ?_
          refine r_iconst (v := (0 : Int32)) dX11_claimOfTwo_56 (by decide) ?_
          obtain ⟨r2358, hc2359, h⟩ := ob (fun z9 => z9) rfl h
          refine c_V (rest := []) 0 0 _ dX11_claimOfTwo_57 kv_X11_397 (ct_M_claim hc2359) rfl rfl lM_0 rfl (Nat.le_of_ble_eq_true rfl) (by decide) (by decide) ?_
          refine r_iret dX11_claimOfTwo_60 rfl ?_
          have h := Option.some.inj (show some _ = some o from h)
          subst h
          exact hq
        · have h := ip (fun z9 => z9) hc2357 h
          refine r_aload_n 0 dX11_claimOfTwo_42 rfl ?_
          refine r_iconst (v := (2 : Int32)) dX11_claimOfTwo_43 (by decide) ?_
          obtain ⟨r2360, hc2361, h⟩ := ob (fun z9 => z9) rfl h
          refine c_V (rest := []) 0 0 _ dX11_claimOfTwo_44 kv_X11_367 (ct_M_no hc2361) rfl rfl lM_0 rfl (Nat.le_of_ble_eq_true rfl) (by decide) (by decide) ?_
          refine r_goto (tgt := 60) dX11_claimOfTwo_47 (by decide) ?_
          refine r_iret dX11_claimOfTwo_60 rfl ?_
          have h := Option.some.inj (show some _ = some o from h)
          subst h
          exact hq
      · have h := ip (fun z9 => z9) hc2356 h
        refine r_aload_n 0 dX11_claimOfTwo_30 rfl ?_
        refine r_iconst (v := (1 : Int32)) dX11_claimOfTwo_31 (by decide) ?_
        obtain ⟨r2362, hc2363, h⟩ := ob (fun z9 => z9) rfl h
        refine c_V (rest := []) 0 0 _ dX11_claimOfTwo_32 kv_X11_367 (ct_M_no hc2363) rfl rfl lM_0 rfl (Nat.le_of_ble_eq_true rfl) (by decide) (by decide) ?_
        refine r_iret dX11_claimOfTwo_35 rfl ?_
        have h := Option.some.inj (show some _ = some o from h)
        subst h
        exact hq
theorem ct_M_claimOfTwo {g : GG} {am : Nat → Nat} {ap : Nat → Nat} {t : va_W} {m1 m2 m3 m4 m5 m6 m7 m8 m10 m11 m12 u3 u4 : Int32} {m13 m14 m15 m16 m18 m20 m21 u12 u13 u14 u15 u16 u17 u18 : Nat → Int32} {m17 u5 u6 : Nat → Int64} {N : Nat} {M_thrown : Int32} {M_looked : Int32} {M_against : Nat → Int32} {P_events : Int32} {P_tellers : Int32} {P_claims : Int32} {P_kind : Nat → Int32} {P_by : Nat → Int32} {P_of : Nat → Int32} {P_other : Nat → Int32} {P_last : Nat → Int32} {p1 : Int32} {p2 : Int32} {p3 : Int32} {p4 : Int32} {o : Int32 × Int32 × Int32 × (Nat → Int32) × Int32 × (Nat → Int32) × (Nat → Int32) × (Nat → Int32) × (Nat → Int32) × (Nat → Int32)} (h : f_M_claimOfTwo N M_thrown M_looked M_against P_events P_tellers P_claims P_kind P_by P_of P_other P_last p1 p2 p3 p4 = some o) : Ct g mX11_claimOfTwo 7 0 0 [.ref (am 0), .int p1, .int p2, .int p3, .int p4] (wlM g am (ap 0) M_thrown m1 m2 m3 m4 m5 m6 m7 m8 M_looked m10 m11 m12 m13 m14 m15 m16 m17 m18 M_against m20 m21 ++ (wlP g ap P_events P_tellers P_claims u3 u4 u5 u6 P_kind P_by P_of P_other P_last u12 u13 u14 u15 u16 u17 u18 ++ t)) (Dv (some (.int o.1)) (wlM g am (ap 0) o.2.1 m1 m2 m3 m4 m5 m6 m7 m8 o.2.2.1 m10 m11 m12 m13 m14 m15 m16 m17 m18 o.2.2.2.1 m20 m21 ++ (wlP g ap P_events P_tellers o.2.2.2.2.1 u3 u4 u5 u6 o.2.2.2.2.2.1 o.2.2.2.2.2.2.1 o.2.2.2.2.2.2.2.1 o.2.2.2.2.2.2.2.2.1 o.2.2.2.2.2.2.2.2.2 u12 u13 u14 u15 u16 u17 u18 ++ t))) := Ct.ofR (by decide +kernel) rfl (Nat.le_of_ble_eq_true rfl) (rt_M_claimOfTwo h ⟨rfl, rfl⟩)
set_option maxRecDepth 20000 in
set_option maxHeartbeats 4000000 in
theorem rt_M_claimBefore {g : GG} {am : Nat → Nat} {ap : Nat → Nat} {t : va_W} {m1 m2 m3 m4 m5 m6 m7 m8 m10 m11 m12 u3 u4 : Int32} {m13 m14 m15 m16 m18 m20 m21 u12 u13 u14 u15 u16 u17 u18 : Nat → Int32} {m17 u5 u6 : Nat → Int64} {N : Nat} {M_thrown : Int32} {M_looked : Int32} {M_against : Nat → Int32} {P_events : Int32} {P_tellers : Int32} {P_claims : Int32} {P_kind : Nat → Int32} {P_by : Nat → Int32} {P_of : Nat → Int32} {P_other : Nat → Int32} {P_last : Nat → Int32} {p1 : Int32} {p2 : Int32} {p3 : Int32} {o : Int32 × Int32 × Int32 × (Nat → Int32) × Int32 × (Nat → Int32) × (Nat → Int32) × (Nat → Int32) × (Nat → Int32) × (Nat → Int32)} {Q : Rs → va_W → Prop} (h : f_M_claimBefore N M_thrown M_looked M_against P_events P_tellers P_claims P_kind P_by P_of P_other P_last p1 p2 p3 = some o) (hq : Q (.inl (some (.int o.1))) (wlM g am (ap 0) o.2.1 m1 m2 m3 m4 m5 m6 m7 m8 o.2.2.1 m10 m11 m12 m13 m14 m15 m16 m17 m18 o.2.2.2.1 m20 m21 ++ (wlP g ap P_events P_tellers o.2.2.2.2.1 u3 u4 u5 u6 o.2.2.2.2.2.1 o.2.2.2.2.2.2.1 o.2.2.2.2.2.2.2.1 o.2.2.2.2.2.2.2.2.1 o.2.2.2.2.2.2.2.2.2 u12 u13 u14 u15 u16 u17 u18 ++ t))) : R g mX11_claimBefore 8 0 0 0 [(0, .ref (am 0)), (1, .int p1), (2, .int p2), (3, .int p3)] [] (wlM g am (ap 0) M_thrown m1 m2 m3 m4 m5 m6 m7 m8 M_looked m10 m11 m12 m13 m14 m15 m16 m17 m18 M_against m20 m21 ++ (wlP g ap P_events P_tellers P_claims u3 u4 u5 u6 P_kind P_by P_of P_other P_last u12 u13 u14 u15 u16 u17 u18 ++ t)) Q := by
  unfold f_M_claimBefore at h
  refine r_aload_n 0 dX11_claimBefore_0 rfl ?_
  refine r_iconst (v := (1 : Int32)) dX11_claimBefore_1 (by decide) ?_
  refine r_iload_n 1 dX11_claimBefore_2 rfl ?_
  refine r_iload_n 2 dX11_claimBefore_3 rfl ?_
  refine r_iload_n 3 dX11_claimBefore_4 rfl ?_
  obtain ⟨r2364, hc2365, h⟩ := ob (fun z9 => z9) rfl h
  refine c_V (rest := []) 0 0 _ dX11_claimBefore_5 kv_X11_401 (ct_M_claimOfTwo hc2365) rfl rfl lM_0 rfl (Nat.le_of_ble_eq_true rfl) (by decide) (by decide) ?_
  refine r_iret dX11_claimBefore_8 rfl ?_
  have h := Option.some.inj (show some _ = some o from h)
  subst h
  exact hq
theorem ct_M_claimBefore {g : GG} {am : Nat → Nat} {ap : Nat → Nat} {t : va_W} {m1 m2 m3 m4 m5 m6 m7 m8 m10 m11 m12 u3 u4 : Int32} {m13 m14 m15 m16 m18 m20 m21 u12 u13 u14 u15 u16 u17 u18 : Nat → Int32} {m17 u5 u6 : Nat → Int64} {N : Nat} {M_thrown : Int32} {M_looked : Int32} {M_against : Nat → Int32} {P_events : Int32} {P_tellers : Int32} {P_claims : Int32} {P_kind : Nat → Int32} {P_by : Nat → Int32} {P_of : Nat → Int32} {P_other : Nat → Int32} {P_last : Nat → Int32} {p1 : Int32} {p2 : Int32} {p3 : Int32} {o : Int32 × Int32 × Int32 × (Nat → Int32) × Int32 × (Nat → Int32) × (Nat → Int32) × (Nat → Int32) × (Nat → Int32) × (Nat → Int32)} (h : f_M_claimBefore N M_thrown M_looked M_against P_events P_tellers P_claims P_kind P_by P_of P_other P_last p1 p2 p3 = some o) : Ct g mX11_claimBefore 8 0 0 [.ref (am 0), .int p1, .int p2, .int p3] (wlM g am (ap 0) M_thrown m1 m2 m3 m4 m5 m6 m7 m8 M_looked m10 m11 m12 m13 m14 m15 m16 m17 m18 M_against m20 m21 ++ (wlP g ap P_events P_tellers P_claims u3 u4 u5 u6 P_kind P_by P_of P_other P_last u12 u13 u14 u15 u16 u17 u18 ++ t)) (Dv (some (.int o.1)) (wlM g am (ap 0) o.2.1 m1 m2 m3 m4 m5 m6 m7 m8 o.2.2.1 m10 m11 m12 m13 m14 m15 m16 m17 m18 o.2.2.2.1 m20 m21 ++ (wlP g ap P_events P_tellers o.2.2.2.2.1 u3 u4 u5 u6 o.2.2.2.2.2.1 o.2.2.2.2.2.2.1 o.2.2.2.2.2.2.2.1 o.2.2.2.2.2.2.2.2.1 o.2.2.2.2.2.2.2.2.2 u12 u13 u14 u15 u16 u17 u18 ++ t))) := Ct.ofR (by decide +kernel) rfl (Nat.le_of_ble_eq_true rfl) (rt_M_claimBefore h ⟨rfl, rfl⟩)
set_option maxRecDepth 20000 in
set_option maxHeartbeats 4000000 in
theorem rt_M_claimTogether {g : GG} {am : Nat → Nat} {ap : Nat → Nat} {t : va_W} {m1 m2 m3 m4 m5 m6 m7 m8 m10 m11 m12 u3 u4 : Int32} {m13 m14 m15 m16 m18 m20 m21 u12 u13 u14 u15 u16 u17 u18 : Nat → Int32} {m17 u5 u6 : Nat → Int64} {N : Nat} {M_thrown : Int32} {M_looked : Int32} {M_against : Nat → Int32} {P_events : Int32} {P_tellers : Int32} {P_claims : Int32} {P_kind : Nat → Int32} {P_by : Nat → Int32} {P_of : Nat → Int32} {P_other : Nat → Int32} {P_last : Nat → Int32} {p1 : Int32} {p2 : Int32} {p3 : Int32} {o : Int32 × Int32 × Int32 × (Nat → Int32) × Int32 × (Nat → Int32) × (Nat → Int32) × (Nat → Int32) × (Nat → Int32) × (Nat → Int32)} {Q : Rs → va_W → Prop} (h : f_M_claimTogether N M_thrown M_looked M_against P_events P_tellers P_claims P_kind P_by P_of P_other P_last p1 p2 p3 = some o) (hq : Q (.inl (some (.int o.1))) (wlM g am (ap 0) o.2.1 m1 m2 m3 m4 m5 m6 m7 m8 o.2.2.1 m10 m11 m12 m13 m14 m15 m16 m17 m18 o.2.2.2.1 m20 m21 ++ (wlP g ap P_events P_tellers o.2.2.2.2.1 u3 u4 u5 u6 o.2.2.2.2.2.1 o.2.2.2.2.2.2.1 o.2.2.2.2.2.2.2.1 o.2.2.2.2.2.2.2.2.1 o.2.2.2.2.2.2.2.2.2 u12 u13 u14 u15 u16 u17 u18 ++ t))) : R g mX11_claimTogether 8 0 0 0 [(0, .ref (am 0)), (1, .int p1), (2, .int p2), (3, .int p3)] [] (wlM g am (ap 0) M_thrown m1 m2 m3 m4 m5 m6 m7 m8 M_looked m10 m11 m12 m13 m14 m15 m16 m17 m18 M_against m20 m21 ++ (wlP g ap P_events P_tellers P_claims u3 u4 u5 u6 P_kind P_by P_of P_other P_last u12 u13 u14 u15 u16 u17 u18 ++ t)) Q := by
  unfold f_M_claimTogether at h
  refine r_aload_n 0 dX11_claimTogether_0 rfl ?_
  refine r_iconst (v := (2 : Int32)) dX11_claimTogether_1 (by decide) ?_
  refine r_iload_n 1 dX11_claimTogether_2 rfl ?_
  refine r_iload_n 2 dX11_claimTogether_3 rfl ?_
  refine r_iload_n 3 dX11_claimTogether_4 rfl ?_
  obtain ⟨r2366, hc2367, h⟩ := ob (fun z9 => z9) rfl h
  refine c_V (rest := []) 0 0 _ dX11_claimTogether_5 kv_X11_401 (ct_M_claimOfTwo hc2367) rfl rfl lM_0 rfl (Nat.le_of_ble_eq_true rfl) (by decide) (by decide) ?_
  refine r_iret dX11_claimTogether_8 rfl ?_
  have h := Option.some.inj (show some _ = some o from h)
  subst h
  exact hq
theorem ct_M_claimTogether {g : GG} {am : Nat → Nat} {ap : Nat → Nat} {t : va_W} {m1 m2 m3 m4 m5 m6 m7 m8 m10 m11 m12 u3 u4 : Int32} {m13 m14 m15 m16 m18 m20 m21 u12 u13 u14 u15 u16 u17 u18 : Nat → Int32} {m17 u5 u6 : Nat → Int64} {N : Nat} {M_thrown : Int32} {M_looked : Int32} {M_against : Nat → Int32} {P_events : Int32} {P_tellers : Int32} {P_claims : Int32} {P_kind : Nat → Int32} {P_by : Nat → Int32} {P_of : Nat → Int32} {P_other : Nat → Int32} {P_last : Nat → Int32} {p1 : Int32} {p2 : Int32} {p3 : Int32} {o : Int32 × Int32 × Int32 × (Nat → Int32) × Int32 × (Nat → Int32) × (Nat → Int32) × (Nat → Int32) × (Nat → Int32) × (Nat → Int32)} (h : f_M_claimTogether N M_thrown M_looked M_against P_events P_tellers P_claims P_kind P_by P_of P_other P_last p1 p2 p3 = some o) : Ct g mX11_claimTogether 8 0 0 [.ref (am 0), .int p1, .int p2, .int p3] (wlM g am (ap 0) M_thrown m1 m2 m3 m4 m5 m6 m7 m8 M_looked m10 m11 m12 m13 m14 m15 m16 m17 m18 M_against m20 m21 ++ (wlP g ap P_events P_tellers P_claims u3 u4 u5 u6 P_kind P_by P_of P_other P_last u12 u13 u14 u15 u16 u17 u18 ++ t)) (Dv (some (.int o.1)) (wlM g am (ap 0) o.2.1 m1 m2 m3 m4 m5 m6 m7 m8 o.2.2.1 m10 m11 m12 m13 m14 m15 m16 m17 m18 o.2.2.2.1 m20 m21 ++ (wlP g ap P_events P_tellers o.2.2.2.2.1 u3 u4 u5 u6 o.2.2.2.2.2.1 o.2.2.2.2.2.2.1 o.2.2.2.2.2.2.2.1 o.2.2.2.2.2.2.2.2.1 o.2.2.2.2.2.2.2.2.2 u12 u13 u14 u15 u16 u17 u18 ++ t))) := Ct.ofR (by decide +kernel) rfl (Nat.le_of_ble_eq_true rfl) (rt_M_claimTogether h ⟨rfl, rfl⟩)
