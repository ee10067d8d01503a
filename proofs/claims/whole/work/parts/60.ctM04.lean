set_option maxRecDepth 20000 in
set_option maxHeartbeats 4000000 in
theorem rt_M_liarsNow {g : GG} {am : Nat → Nat} {ap : Nat → Nat} {t : va_W} {m0 m1 m2 m3 m4 m5 m7 m8 u0 u2 u3 u4 : Int32} {m13 m14 m15 m16 m18 m20 m21 u7 u8 u9 u10 u11 u12 u13 u14 u15 u16 u17 u18 : Nat → Int32} {m17 u5 u6 : Nat → Int64} {N : Nat} {M_doubted : Int32} {M_looked : Int32} {M_lying : Int32} {M_fewest : Int32} {M_sets : Int32} {M_against : Nat → Int32} {P_tellers : Int32} {o : Int32 × Int32 × Int32 × Int32 × Int32} {Q : Rs → va_W → Prop} (h : f_M_liarsNow N M_doubted M_looked M_lying M_fewest M_sets M_against P_tellers = some o) (hq : Q (.inl (some (.int o.1))) (wlM g am (ap 0) m0 m1 m2 m3 m4 m5 M_doubted m7 m8 o.2.1 o.2.2.1 o.2.2.2.1 o.2.2.2.2 m13 m14 m15 m16 m17 m18 M_against m20 m21 ++ (wlP g ap u0 P_tellers u2 u3 u4 u5 u6 u7 u8 u9 u10 u11 u12 u13 u14 u15 u16 u17 u18 ++ t))) : R g mX11_liarsNow 4 0 0 0 [(0, .ref (am 0))] [] (wlM g am (ap 0) m0 m1 m2 m3 m4 m5 M_doubted m7 m8 M_looked M_lying M_fewest M_sets m13 m14 m15 m16 m17 m18 M_against m20 m21 ++ (wlP g ap u0 P_tellers u2 u3 u4 u5 u6 u7 u8 u9 u10 u11 u12 u13 u14 u15 u16 u17 u18 ++ t)) Q := by
  unfold f_M_liarsNow at h
  refine r_aload_n 0 dX11_liarsNow_0 rfl ?_
  obtain ⟨r1640, hc1641, h⟩ := ob (fun z9 => z9) rfl h
  refine c_Vv (rest := []) 0 0 _ dX11_liarsNow_1 kv_X11_116 (ct_M_look hc1641) rfl rfl lM_0 rfl (Nat.le_of_ble_eq_true rfl) (by decide) (by decide) ?_
  refine r_aload_n 0 dX11_liarsNow_4 rfl ?_
  refine r_getf (v := .int r1640.2.2.1) _ dX11_liarsNow_5 fl_X11_95 lM_0 rfl ?_
  refine r_iret dX11_liarsNow_8 rfl ?_
  have h := Option.some.inj (show some _ = some o from h)
  subst h
  exact hq
theorem ct_M_liarsNow {g : GG} {am : Nat → Nat} {ap : Nat → Nat} {t : va_W} {m0 m1 m2 m3 m4 m5 m7 m8 u0 u2 u3 u4 : Int32} {m13 m14 m15 m16 m18 m20 m21 u7 u8 u9 u10 u11 u12 u13 u14 u15 u16 u17 u18 : Nat → Int32} {m17 u5 u6 : Nat → Int64} {N : Nat} {M_doubted : Int32} {M_looked : Int32} {M_lying : Int32} {M_fewest : Int32} {M_sets : Int32} {M_against : Nat → Int32} {P_tellers : Int32} {o : Int32 × Int32 × Int32 × Int32 × Int32} (h : f_M_liarsNow N M_doubted M_looked M_lying M_fewest M_sets M_against P_tellers = some o) : Ct g mX11_liarsNow 4 0 0 [.ref (am 0)] (wlM g am (ap 0) m0 m1 m2 m3 m4 m5 M_doubted m7 m8 M_looked M_lying M_fewest M_sets m13 m14 m15 m16 m17 m18 M_against m20 m21 ++ (wlP g ap u0 P_tellers u2 u3 u4 u5 u6 u7 u8 u9 u10 u11 u12 u13 u14 u15 u16 u17 u18 ++ t)) (Dv (some (.int o.1)) (wlM g am (ap 0) m0 m1 m2 m3 m4 m5 M_doubted m7 m8 o.2.1 o.2.2.1 o.2.2.2.1 o.2.2.2.2 m13 m14 m15 m16 m17 m18 M_against m20 m21 ++ (wlP g ap u0 P_tellers u2 u3 u4 u5 u6 u7 u8 u9 u10 u11 u12 u13 u14 u15 u16 u17 u18 ++ t))) := Ct.ofR (by decide +kernel) rfl (Nat.le_of_ble_eq_true rfl) (rt_M_liarsNow h ⟨rfl, rfl⟩)
set_option maxRecDepth 20000 in
set_option maxHeartbeats 4000000 in
theorem rt_M_lies {g : GG} {am : Nat → Nat} {ap : Nat → Nat} {t : va_W} {m0 m1 m2 m3 m4 m5 m7 m8 u0 u2 u3 u4 : Int32} {m13 m14 m15 m16 m18 m20 m21 u7 u8 u9 u10 u11 u12 u13 u14 u15 u16 u17 u18 : Nat → Int32} {m17 u5 u6 : Nat → Int64} {N : Nat} {M_doubted : Int32} {M_looked : Int32} {M_lying : Int32} {M_fewest : Int32} {M_sets : Int32} {M_against : Nat → Int32} {P_tellers : Int32} {p1 : Int32} {o : Int32 × Int32 × Int32 × Int32 × Int32} {Q : Rs → va_W → Prop} (h : f_M_lies N M_doubted M_looked M_lying M_fewest M_sets M_against P_tellers p1 = some o) (hq : Q (.inl (some (.int o.1))) (wlM g am (ap 0) m0 m1 m2 m3 m4 m5 M_doubted m7 m8 o.2.1 o.2.2.1 o.2.2.2.1 o.2.2.2.2 m13 m14 m15 m16 m17 m18 M_against m20 m21 ++ (wlP g ap u0 P_tellers u2 u3 u4 u5 u6 u7 u8 u9 u10 u11 u12 u13 u14 u15 u16 u17 u18 ++ t))) : R g mX11_lies 4 0 0 0 [(0, .ref (am 0)), (1, .int p1)] [] (wlM g am (ap 0) m0 m1 m2 m3 m4 m5 M_doubted m7 m8 M_looked M_lying M_fewest M_sets m13 m14 m15 m16 m17 m18 M_against m20 m21 ++ (wlP g ap u0 P_tellers u2 u3 u4 u5 u6 u7 u8 u9 u10 u11 u12 u13 u14 u15 u16 u17 u18 ++ t)) Q := by
  unfold f_M_lies at h
  refine r_aload_n 0 dX11_lies_0 rfl ?_
  obtain ⟨r1642, hc1643, h⟩ := ob (fun z9 => z9) rfl h
  refine c_Vv (rest := []) 0 0 _ dX11_lies_1 kv_X11_116 (ct_M_look hc1643) rfl rfl lM_0 rfl (Nat.le_of_ble_eq_true rfl) (by decide) (by decide) ?_
  refine r_aload_n 0 dX11_lies_4 rfl ?_
  refine r_getf (v := .int r1642.2.1) _ dX11_lies_5 fl_X11_110 lM_0 rfl ?_
  refine r_iload_n 1 dX11_lies_8 rfl ?_
  refine c_S (rest := []) 0 0 dX11_lies_9 ks_X11_88 (ct_M_has rfl) rfl rfl (Nat.le_of_ble_eq_true rfl) (by decide) (by decide) ?_
  refine r_zret dX11_lies_12 rfl (zO_n (zb_M_has _ _)) ?_
  have h := Option.some.inj (show some _ = some o from h)
  subst h
  exact hq
theorem ct_M_lies {g : GG} {am : Nat → Nat} {ap : Nat → Nat} {t : va_W} {m0 m1 m2 m3 m4 m5 m7 m8 u0 u2 u3 u4 : Int32} {m13 m14 m15 m16 m18 m20 m21 u7 u8 u9 u10 u11 u12 u13 u14 u15 u16 u17 u18 : Nat → Int32} {m17 u5 u6 : Nat → Int64} {N : Nat} {M_doubted : Int32} {M_looked : Int32} {M_lying : Int32} {M_fewest : Int32} {M_sets : Int32} {M_against : Nat → Int32} {P_tellers : Int32} {p1 : Int32} {o : Int32 × Int32 × Int32 × Int32 × Int32} (h : f_M_lies N M_doubted M_looked M_lying M_fewest M_sets M_against P_tellers p1 = some o) : Ct g mX11_lies 4 0 0 [.ref (am 0), .int p1] (wlM g am (ap 0) m0 m1 m2 m3 m4 m5 M_doubted m7 m8 M_looked M_lying M_fewest M_sets m13 m14 m15 m16 m17 m18 M_against m20 m21 ++ (wlP g ap u0 P_tellers u2 u3 u4 u5 u6 u7 u8 u9 u10 u11 u12 u13 u14 u15 u16 u17 u18 ++ t)) (Dv (some (.int o.1)) (wlM g am (ap 0) m0 m1 m2 m3 m4 m5 M_doubted m7 m8 o.2.1 o.2.2.1 o.2.2.2.1 o.2.2.2.2 m13 m14 m15 m16 m17 m18 M_against m20 m21 ++ (wlP g ap u0 P_tellers u2 u3 u4 u5 u6 u7 u8 u9 u10 u11 u12 u13 u14 u15 u16 u17 u18 ++ t))) := Ct.ofR (by decide +kernel) rfl (Nat.le_of_ble_eq_true rfl) (rt_M_lies h ⟨rfl, rfl⟩)
set_option maxRecDepth 20000 in
set_option maxHeartbeats 4000000 in
theorem rt_M_isTruthful {g : GG} {am : Nat → Nat} {ap : Nat → Nat} {t : va_W} {m0 m1 m2 m3 m4 m5 m7 m8 u0 u2 u3 u4 : Int32} {m13 m14 m15 m16 m18 m20 m21 u7 u8 u9 u10 u11 u12 u13 u14 u15 u16 u17 u18 : Nat → Int32} {m17 u5 u6 : Nat → Int64} {N : Nat} {M_doubted : Int32} {M_looked : Int32} {M_lying : Int32} {M_fewest : Int32} {M_sets : Int32} {M_against : Nat → Int32} {P_tellers : Int32} {p1 : Int32} {o : Int32 × Int32 × Int32 × Int32 × Int32} {Q : Rs → va_W → Prop} (h : f_M_isTruthful N M_doubted M_looked M_lying M_fewest M_sets M_against P_tellers p1 = some o) (hq : Q (.inl (some (.int o.1))) (wlM g am (ap 0) m0 m1 m2 m3 m4 m5 M_doubted m7 m8 o.2.1 o.2.2.1 o.2.2.2.1 o.2.2.2.2 m13 m14 m15 m16 m17 m18 M_against m20 m21 ++ (wlP g ap u0 P_tellers u2 u3 u4 u5 u6 u7 u8 u9 u10 u11 u12 u13 u14 u15 u16 u17 u18 ++ t))) : R g mX11_isTruthful 4 0 0 0 [(0, .ref (am 0)), (1, .int p1)] [] (wlM g am (ap 0) m0 m1 m2 m3 m4 m5 M_doubted m7 m8 M_looked M_lying M_fewest M_sets m13 m14 m15 m16 m17 m18 M_against m20 m21 ++ (wlP g ap u0 P_tellers u2 u3 u4 u5 u6 u7 u8 u9 u10 u11 u12 u13 u14 u15 u16 u17 u18 ++ t)) Q := by
  unfold f_M_isTruthful at h
  refine r_aload_n 0 dX11_isTruthful_0 rfl ?_
  obtain ⟨r1644, hc1645, h⟩ := ob (fun z9 => z9) rfl h
  refine c_Vv (rest := []) 0 0 _ dX11_isTruthful_1 kv_X11_116 (ct_M_look hc1645) rfl rfl lM_0 rfl (Nat.le_of_ble_eq_true rfl) (by decide) (by decide) ?_
  refine r_aload_n 0 dX11_isTruthful_4 rfl ?_
  refine r_getf (v := .int M_doubted) _ dX11_isTruthful_5 fl_X11_85 lM_0 rfl ?_
  refine r_iload_n 1 dX11_isTruthful_8 rfl ?_
  refine c_S (rest := []) 0 0 dX11_isTruthful_9 ks_X11_88 (ct_M_has rfl) rfl rfl (Nat.le_of_ble_eq_true rfl) (by decide) (by decide) ?_
  refine r_if_ne (tgt := 30) dX11_isTruthful_12 (by decide) (fun hc1646 => ?_) (fun hc1646 => ?_)
  · have h := iq (fun z9 => z9) hc1646 h
    refine r_iconst (v := (0 : Int32)) dX11_isTruthful_30 (by decide) ?_
    refine r_zret dX11_isTruthful_31 rfl (by decide) ?_
    have h := Option.some.inj (show some _ = some o from h)
    subst h
    exact hq
  · have h := ip (fun z9 => z9) hc1646 h
    refine r_aload_n 0 dX11_isTruthful_15 rfl ?_
    refine r_getf (v := .int r1644.2.1) _ dX11_isTruthful_16 fl_X11_110 lM_0 rfl ?_
    refine r_iload_n 1 dX11_isTruthful_19 rfl ?_
    refine c_S (rest := []) 0 0 dX11_isTruthful_20 ks_X11_88 (ct_M_has rfl) rfl rfl (Nat.le_of_ble_eq_true rfl) (by decide) (by decide) ?_
    refine r_if_ne (tgt := 30) dX11_isTruthful_23 (by decide) (fun hc1647 => ?_) (fun hc1647 => ?_)
    · have h := iq (fun z9 => z9) hc1647 h
      refine r_iconst (v := (0 : Int32)) dX11_isTruthful_30 (by decide) ?_
      refine r_zret dX11_isTruthful_31 rfl (by decide) ?_
      have h := Option.some.inj (show some _ = some o from h)
      subst h
      exact hq
    · have h := ip (fun z9 => z9) hc1647 h
      refine r_iconst (v := (1 : Int32)) dX11_isTruthful_26 (by decide) ?_
      refine r_goto (tgt := 31) dX11_isTruthful_27 (by decide) ?_
      refine r_zret dX11_isTruthful_31 rfl (by decide) ?_
      have h := Option.some.inj (show some _ = some o from h)
      subst h
      exact hq
theorem ct_M_isTruthful {g : GG} {am : Nat → Nat} {ap : Nat → Nat} {t : va_W} {m0 m1 m2 m3 m4 m5 m7 m8 u0 u2 u3 u4 : Int32} {m13 m14 m15 m16 m18 m20 m21 u7 u8 u9 u10 u11 u12 u13 u14 u15 u16 u17 u18 : Nat → Int32} {m17 u5 u6 : Nat → Int64} {N : Nat} {M_doubted : Int32} {M_looked : Int32} {M_lying : Int32} {M_fewest : Int32} {M_sets : Int32} {M_against : Nat → Int32} {P_tellers : Int32} {p1 : Int32} {o : Int32 × Int32 × Int32 × Int32 × Int32} (h : f_M_isTruthful N M_doubted M_looked M_lying M_fewest M_sets M_against P_tellers p1 = some o) : Ct g mX11_isTruthful 4 0 0 [.ref (am 0), .int p1] (wlM g am (ap 0) m0 m1 m2 m3 m4 m5 M_doubted m7 m8 M_looked M_lying M_fewest M_sets m13 m14 m15 m16 m17 m18 M_against m20 m21 ++ (wlP g ap u0 P_tellers u2 u3 u4 u5 u6 u7 u8 u9 u10 u11 u12 u13 u14 u15 u16 u17 u18 ++ t)) (Dv (some (.int o.1)) (wlM g am (ap 0) m0 m1 m2 m3 m4 m5 M_doubted m7 m8 o.2.1 o.2.2.1 o.2.2.2.1 o.2.2.2.2 m13 m14 m15 m16 m17 m18 M_against m20 m21 ++ (wlP g ap u0 P_tellers u2 u3 u4 u5 u6 u7 u8 u9 u10 u11 u12 u13 u14 u15 u16 u17 u18 ++ t))) := Ct.ofR (by decide +kernel) rfl (Nat.le_of_ble_eq_true rfl) (rt_M_isTruthful h ⟨rfl, rfl⟩)
set_option maxRecDepth 20000 in
set_option maxHeartbeats 4000000 in
theorem rt_M_windowBegins {g : GG} {am : Nat → Nat} {ap : Nat → Nat} {t : va_W} {m0 m1 m2 m3 m4 m5 m7 m8 m9 m10 m11 m12 u0 u1 u3 u4 : Int32} {m13 m14 m15 m16 m18 m19 m20 m21 u11 u12 u13 u14 u15 u16 u17 u18 : Nat → Int32} {m17 u5 u6 : Nat → Int64} {N : Nat} {M_doubted : Int32} {P_claims : Int32} {P_kind : Nat → Int32} {P_by : Nat → Int32} {P_of : Nat → Int32} {P_other : Nat → Int32} {p1 : Int32} {o : Int32} {Q : Rs → va_W → Prop} (h : f_M_windowBegins N M_doubted P_claims P_kind P_by P_of P_other p1 = some o) (hq : Q (.inl (some (.int o))) (wlM g am (ap 0) m0 m1 m2 m3 m4 m5 M_doubted m7 m8 m9 m10 m11 m12 m13 m14 m15 m16 m17 m18 m19 m20 m21 ++ (wlP g ap u0 u1 P_claims u3 u4 u5 u6 P_kind P_by P_of P_other u11 u12 u13 u14 u15 u16 u17 u18 ++ t))) : R g mX11_windowBegins 2 0 0 0 [(0, .ref (am 0)), (1, .int p1)] [] (wlM g am (ap 0) m0 m1 m2 m3 m4 m5 M_doubted m7 m8 m9 m10 m11 m12 m13 m14 m15 m16 m17 m18 m19 m20 m21 ++ (wlP g ap u0 u1 P_claims u3 u4 u5 u6 P_kind P_by P_of P_other u11 u12 u13 u14 u15 u16 u17 u18 ++ t)) Q := by
  unfold f_M_windowBegins at h
  refine r_iconst (v := (0 : Int32)) dX11_windowBegins_0 (by decide) ?_
  refine r_istore_n [(2, .int (0 : Int32)), (0, .ref (am 0)), (1, .int p1)] dX11_windowBegins_1 (by decide) rfl ?_
  refine r_iconst (v := (0 : Int32)) dX11_windowBegins_2 (by decide) ?_
  refine r_istore_n [(3, .int (0 : Int32)), (2, .int (0 : Int32)), (0, .ref (am 0)), (1, .int p1)] dX11_windowBegins_3 (by decide) rfl ?_
  refine r_ls [2, 3, 1, 0] (ls2 := [(0, .ref (am 0)), (1, .int p1), (2, .int (0 : Int32)), (3, .int (0 : Int32))]) rfl ?_
  have L1 : ∀ (n1 : Nat) (l2_1 : Int32) (l3_1 : Int32), (fun z9 => z9) (lpS (f_M_windowBegins_L4 M_doubted P_claims P_kind P_by P_of P_other p1) none n1 (l2_1, l3_1)) = some o → R g mX11_windowBegins 2 0 0 4 [(0, .ref (am 0)), (1, .int p1), (2, .int l2_1), (3, .int l3_1)] [] (wlM g am (ap 0) m0 m1 m2 m3 m4 m5 M_doubted m7 m8 m9 m10 m11 m12 m13 m14 m15 m16 m17 m18 m19 m20 m21 ++ (wlP g ap u0 u1 P_claims u3 u4 u5 u6 P_kind P_by P_of P_other u11 u12 u13 u14 u15 u16 u17 u18 ++ t)) Q := by
    intro n1
    induction n1 with
    | zero => intro l2_1 l3_1 h; exact nomatch (show (none : Option _) = some _ from h)
    | succ n1 ih1 =>
      intro l2_1 l3_1 h
      have h : (fun z9 => (lC (f_M_windowBegins_L4 M_doubted P_claims P_kind P_by P_of P_other p1) none n1 z9)) (f_M_windowBegins_L4 M_doubted P_claims P_kind P_by P_of P_other p1 (l2_1, l3_1)) = some o := h
      unfold f_M_windowBegins_L4 at h
      try dsimp only at h
      refine r_iload_n 3 dX11_windowBegins_4 rfl ?_
      refine r_aload_n 0 dX11_windowBegins_5 rfl ?_
      refine r_getf (v := .ref (ap 0)) _ dX11_windowBegins_6 fl_X11_20 lM_0 rfl ?_
      refine r_getf (v := .int P_claims) _ dX11_windowBegins_9 fl_X11_65 lP_0 rfl ?_
      refine r_icmp_ge (tgt := 79) dX11_windowBegins_12 (by decide) (fun hc1648 => ?_) (fun hc1648 => ?_)
      · have h := ip (fun z9 => (lC (f_M_windowBegins_L4 M_doubted P_claims P_kind P_by P_of P_other p1) none n1 z9)) hc1648 h
        refine r_iload_n 2 dX11_windowBegins_79 rfl ?_
        refine r_iret dX11_windowBegins_80 rfl ?_
        have h := Option.some.inj (show some _ = some o from h)
        subst h
        exact hq
      · have h := iq (fun z9 => (lC (f_M_windowBegins_L4 M_doubted P_claims P_kind P_by P_of P_other p1) none n1 z9)) hc1648 h
        refine r_aload_n 0 dX11_windowBegins_15 rfl ?_
        refine r_getf (v := .ref (ap 0)) _ dX11_windowBegins_16 fl_X11_20 lM_0 rfl ?_
        refine r_getf (v := .ref (ap 3)) _ dX11_windowBegins_19 fl_X11_68 lP_0 rfl ?_
        refine r_iload_n 3 dX11_windowBegins_22 rfl ?_
        obtain ⟨hb1649, h⟩ := gd (fun z9 => (lC (f_M_windowBegins_L4 M_doubted P_claims P_kind P_by P_of P_other p1) none n1 z9)) rfl h
        refine r_iald _ dX11_windowBegins_23 lP_3 hb1649 ?_
        refine r_if_ne (tgt := 73) dX11_windowBegins_24 (by decide) (fun hc1650 => ?_) (fun hc1650 => ?_)
        · have h := iq (fun z9 => (lC (f_M_windowBegins_L4 M_doubted P_claims P_kind P_by P_of P_other p1) none n1 z9)) hc1650 h
          refine r_iinc (v2 := (l3_1 + (1 : Int32))) 3 [(3, .int (l3_1 + (1 : Int32))), (0, .ref (am 0)), (1, .int p1), (2, .int l2_1)] dX11_windowBegins_73 rfl rfl (by decide) rfl ?_
          refine r_goto (tgt := 4) dX11_windowBegins_76 (by decide) ?_
          refine r_ls [1, 2, 3, 0] (ls2 := [(0, .ref (am 0)), (1, .int p1), (2, .int l2_1), (3, .int (l3_1 + (1 : Int32)))]) rfl ?_
          exact ih1 l2_1 (l3_1 + (1 : Int32)) h
        · have h := ip (fun z9 => (lC (f_M_windowBegins_L4 M_doubted P_claims P_kind P_by P_of P_other p1) none n1 z9)) hc1650 h
          refine r_aload_n 0 dX11_windowBegins_27 rfl ?_
          refine r_getf (v := .ref (ap 0)) _ dX11_windowBegins_28 fl_X11_20 lM_0 rfl ?_
          refine r_getf (v := .ref (ap 5)) _ dX11_windowBegins_31 fl_X11_73 lP_0 rfl ?_
          refine r_iload_n 3 dX11_windowBegins_34 rfl ?_
          obtain ⟨hb1651, h⟩ := gd (fun z9 => (lC (f_M_windowBegins_L4 M_doubted P_claims P_kind P_by P_of P_other p1) none n1 z9)) rfl h
          refine r_iald _ dX11_windowBegins_35 lP_5 hb1651 ?_
          refine r_iload_n 1 dX11_windowBegins_36 rfl ?_
          refine r_icmp_ne (tgt := 73) dX11_windowBegins_37 (by decide) (fun hc1652 => ?_) (fun hc1652 => ?_)
          · have h := iq (fun z9 => (lC (f_M_windowBegins_L4 M_doubted P_claims P_kind P_by P_of P_other p1) none n1 z9)) hc1652 h
            refine r_iinc (v2 := (l3_1 + (1 : Int32))) 3 [(3, .int (l3_1 + (1 : Int32))), (0, .ref (am 0)), (1, .int p1), (2, .int l2_1)] dX11_windowBegins_73 rfl rfl (by decide) rfl ?_
            refine r_goto (tgt := 4) dX11_windowBegins_76 (by decide) ?_
            refine r_ls [1, 2, 3, 0] (ls2 := [(0, .ref (am 0)), (1, .int p1), (2, .int l2_1), (3, .int (l3_1 + (1 : Int32)))]) rfl ?_
            exact ih1 l2_1 (l3_1 + (1 : Int32)) h
          · have h := ip (fun z9 => (lC (f_M_windowBegins_L4 M_doubted P_claims P_kind P_by P_of P_other p1) none n1 z9)) hc1652 h
            refine r_aload_n 0 dX11_windowBegins_40 rfl ?_
            refine r_getf (v := .int M_doubted) _ dX11_windowBegins_41 fl_X11_85 lM_0 rfl ?_
            refine r_aload_n 0 dX11_windowBegins_44 rfl ?_
            refine r_getf (v := .ref (ap 0)) _ dX11_windowBegins_45 fl_X11_20 lM_0 rfl ?_
            refine r_getf (v := .ref (ap 4)) _ dX11_windowBegins_48 fl_X11_82 lP_0 rfl ?_
            refine r_iload_n 3 dX11_windowBegins_51 rfl ?_
            obtain ⟨hb1653, h⟩ := gd (fun z9 => (lC (f_M_windowBegins_L4 M_doubted P_claims P_kind P_by P_of P_other p1) none n1 z9)) rfl h
            refine r_iald _ dX11_windowBegins_52 lP_4 hb1653 ?_
            refine c_S (rest := []) 0 0 dX11_windowBegins_53 ks_X11_88 (ct_M_has rfl) rfl rfl (Nat.le_of_ble_eq_true rfl) (by decide) (by decide) ?_
            refine r_if_ne (tgt := 73) dX11_windowBegins_56 (by decide) (fun hc1654 => ?_) (fun hc1654 => ?_)
            · have h := iq (fun z9 => (lC (f_M_windowBegins_L4 M_doubted P_claims P_kind P_by P_of P_other p1) none n1 z9)) hc1654 h
              refine r_iinc (v2 := (l3_1 + (1 : Int32))) 3 [(3, .int (l3_1 + (1 : Int32))), (0, .ref (am 0)), (1, .int p1), (2, .int l2_1)] dX11_windowBegins_73 rfl rfl (by decide) rfl ?_
              refine r_goto (tgt := 4) dX11_windowBegins_76 (by decide) ?_
              refine r_ls [1, 2, 3, 0] (ls2 := [(0, .ref (am 0)), (1, .int p1), (2, .int l2_1), (3, .int (l3_1 + (1 : Int32)))]) rfl ?_
              exact ih1 l2_1 (l3_1 + (1 : Int32)) h
            · have h := ip (fun z9 => (lC (f_M_windowBegins_L4 M_doubted P_claims P_kind P_by P_of P_other p1) none n1 z9)) hc1654 h
              refine r_iload_n 2 dX11_windowBegins_59 rfl ?_
              refine r_aload_n 0 dX11_windowBegins_60 rfl ?_
              refine r_getf (v := .ref (ap 0)) _ dX11_windowBegins_61 fl_X11_20 lM_0 rfl ?_
              refine r_getf (v := .ref (ap 6)) _ dX11_windowBegins_64 fl_X11_79 lP_0 rfl ?_
              refine r_iload_n 3 dX11_windowBegins_67 rfl ?_
              obtain ⟨hb1655, h⟩ := gd (fun z9 => (lC (f_M_windowBegins_L4 M_doubted P_claims P_kind P_by P_of P_other p1) none n1 z9)) rfl h
              refine r_iald _ dX11_windowBegins_68 lP_6 hb1655 ?_
              refine c_mmax (rest := []) dX11_windowBegins_69 ks_X11_119 (Nat.le_of_ble_eq_true rfl) (by decide) ?_
              refine r_istore_n [(2, .int (f_J9_max_7cf53 l2_1 (P_other l3_1.toNatClampNeg))), (0, .ref (am 0)), (1, .int p1), (3, .int l3_1)] dX11_windowBegins_72 (by decide) rfl ?_
              refine r_iinc (v2 := (l3_1 + (1 : Int32))) 3 [(3, .int (l3_1 + (1 : Int32))), (2, .int (f_J9_max_7cf53 l2_1 (P_other l3_1.toNatClampNeg))), (0, .ref (am 0)), (1, .int p1)] dX11_windowBegins_73 rfl rfl (by decide) rfl ?_
              refine r_goto (tgt := 4) dX11_windowBegins_76 (by decide) ?_
              refine r_ls [2, 3, 1, 0] (ls2 := [(0, .ref (am 0)), (1, .int p1), (2, .int (f_J9_max_7cf53 l2_1 (P_other l3_1.toNatClampNeg))), (3, .int (l3_1 + (1 : Int32)))]) rfl ?_
              exact ih1 (f_J9_max_7cf53 l2_1 (P_other l3_1.toNatClampNeg)) (l3_1 + (1 : Int32)) h
  exact L1 _ (0 : Int32) (0 : Int32) h
theorem ct_M_windowBegins {g : GG} {am : Nat → Nat} {ap : Nat → Nat} {t : va_W} {m0 m1 m2 m3 m4 m5 m7 m8 m9 m10 m11 m12 u0 u1 u3 u4 : Int32} {m13 m14 m15 m16 m18 m19 m20 m21 u11 u12 u13 u14 u15 u16 u17 u18 : Nat → Int32} {m17 u5 u6 : Nat → Int64} {N : Nat} {M_doubted : Int32} {P_claims : Int32} {P_kind : Nat → Int32} {P_by : Nat → Int32} {P_of : Nat → Int32} {P_other : Nat → Int32} {p1 : Int32} {o : Int32} (h : f_M_windowBegins N M_doubted P_claims P_kind P_by P_of P_other p1 = some o) : Ct g mX11_windowBegins 2 0 0 [.ref (am 0), .int p1] (wlM g am (ap 0) m0 m1 m2 m3 m4 m5 M_doubted m7 m8 m9 m10 m11 m12 m13 m14 m15 m16 m17 m18 m19 m20 m21 ++ (wlP g ap u0 u1 P_claims u3 u4 u5 u6 P_kind P_by P_of P_other u11 u12 u13 u14 u15 u16 u17 u18 ++ t)) (Dv (some (.int o)) (wlM g am (ap 0) m0 m1 m2 m3 m4 m5 M_doubted m7 m8 m9 m10 m11 m12 m13 m14 m15 m16 m17 m18 m19 m20 m21 ++ (wlP g ap u0 u1 P_claims u3 u4 u5 u6 P_kind P_by P_of P_other u11 u12 u13 u14 u15 u16 u17 u18 ++ t))) := Ct.ofR (by decide +kernel) rfl (Nat.le_of_ble_eq_true rfl) (rt_M_windowBegins h ⟨rfl, rfl⟩)
set_option maxRecDepth 20000 in
set_option maxHeartbeats 4000000 in
theorem rt_M_windowEnds {g : GG} {am : Nat → Nat} {ap : Nat → Nat} {t : va_W} {m0 m1 m2 m3 m4 m5 m7 m8 m9 m10 m11 m12 u0 u1 u3 u4 : Int32} {m13 m14 m15 m16 m18 m19 m20 m21 u10 u12 u13 u14 u15 u16 u17 u18 : Nat → Int32} {m17 u5 u6 : Nat → Int64} {N : Nat} {M_doubted : Int32} {P_claims : Int32} {P_kind : Nat → Int32} {P_by : Nat → Int32} {P_of : Nat → Int32} {P_last : Nat → Int32} {p1 : Int32} {o : Int32} {Q : Rs → va_W → Prop} (h : f_M_windowEnds N M_doubted P_claims P_kind P_by P_of P_last p1 = some o) (hq : Q (.inl (some (.int o))) (wlM g am (ap 0) m0 m1 m2 m3 m4 m5 M_doubted m7 m8 m9 m10 m11 m12 m13 m14 m15 m16 m17 m18 m19 m20 m21 ++ (wlP g ap u0 u1 P_claims u3 u4 u5 u6 P_kind P_by P_of u10 P_last u12 u13 u14 u15 u16 u17 u18 ++ t))) : R g mX11_windowEnds 2 0 0 0 [(0, .ref (am 0)), (1, .int p1)] [] (wlM g am (ap 0) m0 m1 m2 m3 m4 m5 M_doubted m7 m8 m9 m10 m11 m12 m13 m14 m15 m16 m17 m18 m19 m20 m21 ++ (wlP g ap u0 u1 P_claims u3 u4 u5 u6 P_kind P_by P_of u10 P_last u12 u13 u14 u15 u16 u17 u18 ++ t)) Q := by
  unfold f_M_windowEnds at h
  refine r_bipush (v := (99 : Int32)) dX11_windowEnds_0 (by decide) ?_
  refine r_istore_n [(2, .int (99 : Int32)), (0, .ref (am 0)), (1, .int p1)] dX11_windowEnds_2 (by decide) rfl ?_
  refine r_iconst (v := (0 : Int32)) dX11_windowEnds_3 (by decide) ?_
  refine r_istore_n [(3, .int (0 : Int32)), (2, .int (99 : Int32)), (0, .ref (am 0)), (1, .int p1)] dX11_windowEnds_4 (by decide) rfl ?_
  refine r_ls [2, 3, 1, 0] (ls2 := [(0, .ref (am 0)), (1, .int p1), (2, .int (99 : Int32)), (3, .int (0 : Int32))]) rfl ?_
  have L1 : ∀ (n1 : Nat) (l2_1 : Int32) (l3_1 : Int32), (fun z9 => z9) (lpS (f_M_windowEnds_L5 M_doubted P_claims P_kind P_by P_of P_last p1) none n1 (l2_1, l3_1)) = some o → R g mX11_windowEnds 2 0 0 5 [(0, .ref (am 0)), (1, .int p1), (2, .int l2_1), (3, .int l3_1)] [] (wlM g am (ap 0) m0 m1 m2 m3 m4 m5 M_doubted m7 m8 m9 m10 m11 m12 m13 m14 m15 m16 m17 m18 m19 m20 m21 ++ (wlP g ap u0 u1 P_claims u3 u4 u5 u6 P_kind P_by P_of u10 P_last u12 u13 u14 u15 u16 u17 u18 ++ t)) Q := by
    intro n1
    induction n1 with
    | zero => intro l2_1 l3_1 h; exact nomatch (show (none : Option _) = some _ from h)
    | succ n1 ih1 =>
      intro l2_1 l3_1 h
      have h : (fun z9 => (lC (f_M_windowEnds_L5 M_doubted P_claims P_kind P_by P_of P_last p1) none n1 z9)) (f_M_windowEnds_L5 M_doubted P_claims P_kind P_by P_of P_last p1 (l2_1, l3_1)) = some o := h
      unfold f_M_windowEnds_L5 at h
      try dsimp only at h
      refine r_iload_n 3 dX11_windowEnds_5 rfl ?_
      refine r_aload_n 0 dX11_windowEnds_6 rfl ?_
      refine r_getf (v := .ref (ap 0)) _ dX11_windowEnds_7 fl_X11_20 lM_0 rfl ?_
      refine r_getf (v := .int P_claims) _ dX11_windowEnds_10 fl_X11_65 lP_0 rfl ?_
      refine r_icmp_ge (tgt := 80) dX11_windowEnds_13 (by decide) (fun hc1656 => ?_) (fun hc1656 => ?_)
      · have h := ip (fun z9 => (lC (f_M_windowEnds_L5 M_doubted P_claims P_kind P_by P_of P_last p1) none n1 z9)) hc1656 h
        refine r_iload_n 2 dX11_windowEnds_80 rfl ?_
        refine r_iret dX11_windowEnds_81 rfl ?_
        have h := Option.some.inj (show some _ = some o from h)
        subst h
        exact hq
      · have h := iq (fun z9 => (lC (f_M_windowEnds_L5 M_doubted P_claims P_kind P_by P_of P_last p1) none n1 z9)) hc1656 h
        refine r_aload_n 0 dX11_windowEnds_16 rfl ?_
        refine r_getf (v := .ref (ap 0)) _ dX11_windowEnds_17 fl_X11_20 lM_0 rfl ?_
        refine r_getf (v := .ref (ap 3)) _ dX11_windowEnds_20 fl_X11_68 lP_0 rfl ?_
        refine r_iload_n 3 dX11_windowEnds_23 rfl ?_
        obtain ⟨hb1657, h⟩ := gd (fun z9 => (lC (f_M_windowEnds_L5 M_doubted P_claims P_kind P_by P_of P_last p1) none n1 z9)) rfl h
        refine r_iald _ dX11_windowEnds_24 lP_3 hb1657 ?_
        refine r_if_ne (tgt := 74) dX11_windowEnds_25 (by decide) (fun hc1658 => ?_) (fun hc1658 => ?_)
        · have h := iq (fun z9 => (lC (f_M_windowEnds_L5 M_doubted P_claims P_kind P_by P_of P_last p1) none n1 z9)) hc1658 h
          refine r_iinc (v2 := (l3_1 + (1 : Int32))) 3 [(3, .int (l3_1 + (1 : Int32))), (0, .ref (am 0)), (1, .int p1), (2, .int l2_1)] dX11_windowEnds_74 rfl rfl (by decide) rfl ?_
          refine r_goto (tgt := 5) dX11_windowEnds_77 (by decide) ?_
          refine r_ls [1, 2, 3, 0] (ls2 := [(0, .ref (am 0)), (1, .int p1), (2, .int l2_1), (3, .int (l3_1 + (1 : Int32)))]) rfl ?_
          exact ih1 l2_1 (l3_1 + (1 : Int32)) h
        · have h := ip (fun z9 => (lC (f_M_windowEnds_L5 M_doubted P_claims P_kind P_by P_of P_last p1) none n1 z9)) hc1658 h
          refine r_aload_n 0 dX11_windowEnds_28 rfl ?_
          refine r_getf (v := .ref (ap 0)) _ dX11_windowEnds_29 fl_X11_20 lM_0 rfl ?_
          refine r_getf (v := .ref (ap 5)) _ dX11_windowEnds_32 fl_X11_73 lP_0 rfl ?_
          refine r_iload_n 3 dX11_windowEnds_35 rfl ?_
          obtain ⟨hb1659, h⟩ := gd (fun z9 => (lC (f_M_windowEnds_L5 M_doubted P_claims P_kind P_by P_of P_last p1) none n1 z9)) rfl h
          refine r_iald _ dX11_windowEnds_36 lP_5 hb1659 ?_
          refine r_iload_n 1 dX11_windowEnds_37 rfl ?_
          refine r_icmp_ne (tgt := 74) dX11_windowEnds_38 (by decide) (fun hc1660 => ?_) (fun hc1660 => ?_)
          · have h := iq (fun z9 => (lC (f_M_windowEnds_L5 M_doubted P_claims P_kind P_by P_of P_last p1) none n1 z9)) hc1660 h
            refine r_iinc (v2 := (l3_1 + (1 : Int32))) 3 [(3, .int (l3_1 + (1 : Int32))), (0, .ref (am 0)), (1, .int p1), (2, .int l2_1)] dX11_windowEnds_74 rfl rfl (by decide) rfl ?_
            refine r_goto (tgt := 5) dX11_windowEnds_77 (by decide) ?_
            refine r_ls [1, 2, 3, 0] (ls2 := [(0, .ref (am 0)), (1, .int p1), (2, .int l2_1), (3, .int (l3_1 + (1 : Int32)))]) rfl ?_
            exact ih1 l2_1 (l3_1 + (1 : Int32)) h
          · have h := ip (fun z9 => (lC (f_M_windowEnds_L5 M_doubted P_claims P_kind P_by P_of P_last p1) none n1 z9)) hc1660 h
            refine r_aload_n 0 dX11_windowEnds_41 rfl ?_
            refine r_getf (v := .int M_doubted) _ dX11_windowEnds_42 fl_X11_85 lM_0 rfl ?_
            refine r_aload_n 0 dX11_windowEnds_45 rfl ?_
            refine r_getf (v := .ref (ap 0)) _ dX11_windowEnds_46 fl_X11_20 lM_0 rfl ?_
            refine r_getf (v := .ref (ap 4)) _ dX11_windowEnds_49 fl_X11_82 lP_0 rfl ?_
            refine r_iload_n 3 dX11_windowEnds_52 rfl ?_
            obtain ⟨hb1661, h⟩ := gd (fun z9 => (lC (f_M_windowEnds_L5 M_doubted P_claims P_kind P_by P_of P_last p1) none n1 z9)) rfl h
            refine r_iald _ dX11_windowEnds_53 lP_4 hb1661 ?_
            refine c_S (rest := []) 0 0 dX11_windowEnds_54 ks_X11_88 (ct_M_has rfl) rfl rfl (Nat.le_of_ble_eq_true rfl) (by decide) (by decide) ?_
            refine r_if_ne (tgt := 74) dX11_windowEnds_57 (by decide) (fun hc1662 => ?_) (fun hc1662 => ?_)
            · have h := iq (fun z9 => (lC (f_M_windowEnds_L5 M_doubted P_claims P_kind P_by P_of P_last p1) none n1 z9)) hc1662 h
              refine r_iinc (v2 := (l3_1 + (1 : Int32))) 3 [(3, .int (l3_1 + (1 : Int32))), (0, .ref (am 0)), (1, .int p1), (2, .int l2_1)] dX11_windowEnds_74 rfl rfl (by decide) rfl ?_
              refine r_goto (tgt := 5) dX11_windowEnds_77 (by decide) ?_
              refine r_ls [1, 2, 3, 0] (ls2 := [(0, .ref (am 0)), (1, .int p1), (2, .int l2_1), (3, .int (l3_1 + (1 : Int32)))]) rfl ?_
              exact ih1 l2_1 (l3_1 + (1 : Int32)) h
            · have h := ip (fun z9 => (lC (f_M_windowEnds_L5 M_doubted P_claims P_kind P_by P_of P_last p1) none n1 z9)) hc1662 h
              refine r_iload_n 2 dX11_windowEnds_60 rfl ?_
              refine r_aload_n 0 dX11_windowEnds_61 rfl ?_
              refine r_getf (v := .ref (ap 0)) _ dX11_windowEnds_62 fl_X11_20 lM_0 rfl ?_
              refine r_getf (v := .ref (ap 7)) _ dX11_windowEnds_65 fl_X11_76 lP_0 rfl ?_
              refine r_iload_n 3 dX11_windowEnds_68 rfl ?_
              obtain ⟨hb1663, h⟩ := gd (fun z9 => (lC (f_M_windowEnds_L5 M_doubted P_claims P_kind P_by P_of P_last p1) none n1 z9)) rfl h
              refine r_iald _ dX11_windowEnds_69 lP_7 hb1663 ?_
              refine c_mmin (rest := []) dX11_windowEnds_70 ks_X11_125 (Nat.le_of_ble_eq_true rfl) (by decide) ?_
              refine r_istore_n [(2, .int (f_J9_min_7cf53 l2_1 (P_last l3_1.toNatClampNeg))), (0, .ref (am 0)), (1, .int p1), (3, .int l3_1)] dX11_windowEnds_73 (by decide) rfl ?_
              refine r_iinc (v2 := (l3_1 + (1 : Int32))) 3 [(3, .int (l3_1 + (1 : Int32))), (2, .int (f_J9_min_7cf53 l2_1 (P_last l3_1.toNatClampNeg))), (0, .ref (am 0)), (1, .int p1)] dX11_windowEnds_74 rfl rfl (by decide) rfl ?_
              refine r_goto (tgt := 5) dX11_windowEnds_77 (by decide) ?_
              refine r_ls [2, 3, 1, 0] (ls2 := [(0, .ref (am 0)), (1, .int p1), (2, .int (f_J9_min_7cf53 l2_1 (P_last l3_1.toNatClampNeg))), (3, .int (l3_1 + (1 : Int32)))]) rfl ?_
              exact ih1 (f_J9_min_7cf53 l2_1 (P_last l3_1.toNatClampNeg)) (l3_1 + (1 : Int32)) h
  exact L1 _ (99 : Int32) (0 : Int32) h
theorem ct_M_windowEnds {g : GG} {am : Nat → Nat} {ap : Nat → Nat} {t : va_W} {m0 m1 m2 m3 m4 m5 m7 m8 m9 m10 m11 m12 u0 u1 u3 u4 : Int32} {m13 m14 m15 m16 m18 m19 m20 m21 u10 u12 u13 u14 u15 u16 u17 u18 : Nat → Int32} {m17 u5 u6 : Nat → Int64} {N : Nat} {M_doubted : Int32} {P_claims : Int32} {P_kind : Nat → Int32} {P_by : Nat → Int32} {P_of : Nat → Int32} {P_last : Nat → Int32} {p1 : Int32} {o : Int32} (h : f_M_windowEnds N M_doubted P_claims P_kind P_by P_of P_last p1 = some o) : Ct g mX11_windowEnds 2 0 0 [.ref (am 0), .int p1] (wlM g am (ap 0) m0 m1 m2 m3 m4 m5 M_doubted m7 m8 m9 m10 m11 m12 m13 m14 m15 m16 m17 m18 m19 m20 m21 ++ (wlP g ap u0 u1 P_claims u3 u4 u5 u6 P_kind P_by P_of u10 P_last u12 u13 u14 u15 u16 u17 u18 ++ t)) (Dv (some (.int o)) (wlM g am (ap 0) m0 m1 m2 m3 m4 m5 M_doubted m7 m8 m9 m10 m11 m12 m13 m14 m15 m16 m17 m18 m19 m20 m21 ++ (wlP g ap u0 u1 P_claims u3 u4 u5 u6 P_kind P_by P_of u10 P_last u12 u13 u14 u15 u16 u17 u18 ++ t))) := Ct.ofR (by decide +kernel) rfl (Nat.le_of_ble_eq_true rfl) (rt_M_windowEnds h ⟨rfl, rfl⟩)
set_option maxRecDepth 20000 in
set_option maxHeartbeats 4000000 in
theorem rt_M_hours {g : GG} {am : Nat → Nat} {ap : Nat → Nat} {t : va_W} {m0 m1 m2 m3 m4 m5 m7 m8 m9 m10 m11 m12 u0 u1 u3 u4 : Int32} {m13 m14 m15 m16 m18 m19 m20 m21 u12 u13 u14 u15 u16 u17 u18 : Nat → Int32} {m17 u5 u6 : Nat → Int64} {N : Nat} {M_doubted : Int32} {P_claims : Int32} {P_kind : Nat → Int32} {P_by : Nat → Int32} {P_of : Nat → Int32} {P_other : Nat → Int32} {P_last : Nat → Int32} {p1 : Int32} {o : Int32} {Q : Rs → va_W → Prop} (h : f_M_hours N M_doubted P_claims P_kind P_by P_of P_other P_last p1 = some o) (hq : Q (.inl (some (.int o))) (wlM g am (ap 0) m0 m1 m2 m3 m4 m5 M_doubted m7 m8 m9 m10 m11 m12 m13 m14 m15 m16 m17 m18 m19 m20 m21 ++ (wlP g ap u0 u1 P_claims u3 u4 u5 u6 P_kind P_by P_of P_other P_last u12 u13 u14 u15 u16 u17 u18 ++ t))) : R g mX11_hours 3 0 0 0 [(0, .ref (am 0)), (1, .int p1)] [] (wlM g am (ap 0) m0 m1 m2 m3 m4 m5 M_doubted m7 m8 m9 m10 m11 m12 m13 m14 m15 m16 m17 m18 m19 m20 m21 ++ (wlP g ap u0 u1 P_claims u3 u4 u5 u6 P_kind P_by P_of P_other P_last u12 u13 u14 u15 u16 u17 u18 ++ t)) Q := by
  unfold f_M_hours at h
  refine r_iconst (v := (0 : Int32)) dX11_hours_0 (by decide) ?_
  refine r_aload_n 0 dX11_hours_1 rfl ?_
  refine r_iload_n 1 dX11_hours_2 rfl ?_
  obtain ⟨r1664, hc1665, h⟩ := ob (fun z9 => z9) rfl h
  refine c_V (rest := [.int (0 : Int32)]) 0 0 _ dX11_hours_3 kv_X11_128 (ct_M_windowEnds hc1665) rfl rfl lM_0 rfl (Nat.le_of_ble_eq_true rfl) (by decide) (by decide) ?_
  refine r_aload_n 0 dX11_hours_6 rfl ?_
  refine r_iload_n 1 dX11_hours_7 rfl ?_
  obtain ⟨r1666, hc1667, h⟩ := ob (fun z9 => z9) rfl h
  refine c_V (rest := [.int r1664, .int (0 : Int32)]) 0 0 _ dX11_hours_8 kv_X11_131 (ct_M_windowBegins hc1667) rfl rfl lM_0 rfl (Nat.le_of_ble_eq_true rfl) (by decide) (by decide) ?_
  refine r_isub dX11_hours_11 ?_
  refine r_iconst (v := (1 : Int32)) dX11_hours_12 (by decide) ?_
  refine r_iadd dX11_hours_13 ?_
  refine c_mmax (rest := []) dX11_hours_14 ks_X11_119 (Nat.le_of_ble_eq_true rfl) (by decide) ?_
  refine r_iret dX11_hours_17 rfl ?_
  have h := Option.some.inj (show some _ = some o from h)
  subst h
  exact hq
theorem ct_M_hours {g : GG} {am : Nat → Nat} {ap : Nat → Nat} {t : va_W} {m0 m1 m2 m3 m4 m5 m7 m8 m9 m10 m11 m12 u0 u1 u3 u4 : Int32} {m13 m14 m15 m16 m18 m19 m20 m21 u12 u13 u14 u15 u16 u17 u18 : Nat → Int32} {m17 u5 u6 : Nat → Int64} {N : Nat} {M_doubted : Int32} {P_claims : Int32} {P_kind : Nat → Int32} {P_by : Nat → Int32} {P_of : Nat → Int32} {P_other : Nat → Int32} {P_last : Nat → Int32} {p1 : Int32} {o : Int32} (h : f_M_hours N M_doubted P_claims P_kind P_by P_of P_other P_last p1 = some o) : Ct g mX11_hours 3 0 0 [.ref (am 0), .int p1] (wlM g am (ap 0) m0 m1 m2 m3 m4 m5 M_doubted m7 m8 m9 m10 m11 m12 m13 m14 m15 m16 m17 m18 m19 m20 m21 ++ (wlP g ap u0 u1 P_claims u3 u4 u5 u6 P_kind P_by P_of P_other P_last u12 u13 u14 u15 u16 u17 u18 ++ t)) (Dv (some (.int o)) (wlM g am (ap 0) m0 m1 m2 m3 m4 m5 M_doubted m7 m8 m9 m10 m11 m12 m13 m14 m15 m16 m17 m18 m19 m20 m21 ++ (wlP g ap u0 u1 P_claims u3 u4 u5 u6 P_kind P_by P_of P_other P_last u12 u13 u14 u15 u16 u17 u18 ++ t))) := Ct.ofR (by decide +kernel) rfl (Nat.le_of_ble_eq_true rfl) (rt_M_hours h ⟨rfl, rfl⟩)
set_option maxRecDepth 20000 in
set_option maxHeartbeats 4000000 in
theorem rt_M_isBehind {g : GG} {am : Nat → Nat} {ap : Nat → Nat} {t : va_W} {m0 m1 m2 m3 m4 m5 m7 m8 u0 u3 u4 : Int32} {m13 m14 m15 m16 m18 m20 m21 u11 u12 u13 u14 u15 u16 u17 u18 : Nat → Int32} {m17 u5 u6 : Nat → Int64} {N : Nat} {M_doubted : Int32} {M_looked : Int32} {M_lying : Int32} {M_fewest : Int32} {M_sets : Int32} {M_against : Nat → Int32} {P_tellers : Int32} {P_claims : Int32} {P_kind : Nat → Int32} {P_by : Nat → Int32} {P_of : Nat → Int32} {P_other : Nat → Int32} {p1 : Int32} {p2 : Int32} {o : Int32 × Int32 × Int32 × Int32 × Int32} {Q : Rs → va_W → Prop} (h : f_M_isBehind N M_doubted M_looked M_lying M_fewest M_sets M_against P_tellers P_claims P_kind P_by P_of P_other p1 p2 = some o) (hq : Q (.inl (some (.int o.1))) (wlM g am (ap 0) m0 m1 m2 m3 m4 m5 M_doubted m7 m8 o.2.1 o.2.2.1 o.2.2.2.1 o.2.2.2.2 m13 m14 m15 m16 m17 m18 M_against m20 m21 ++ (wlP g ap u0 P_tellers P_claims u3 u4 u5 u6 P_kind P_by P_of P_other u11 u12 u13 u14 u15 u16 u17 u18 ++ t))) : R g mX11_isBehind 5 0 0 0 [(0, .ref (am 0)), (1, .int p1), (2, .int p2)] [] (wlM g am (ap 0) m0 m1 m2 m3 m4 m5 M_doubted m7 m8 M_looked M_lying M_fewest M_sets m13 m14 m15 m16 m17 m18 M_against m20 m21 ++ (wlP g ap u0 P_tellers P_claims u3 u4 u5 u6 P_kind P_by P_of P_other u11 u12 u13 u14 u15 u16 u17 u18 ++ t)) Q := by
  unfold f_M_isBehind at h
  refine r_iconst (v := (0 : Int32)) dX11_isBehind_0 (by decide) ?_
  refine r_istore_n [(3, .int (0 : Int32)), (0, .ref (am 0)), (1, .int p1), (2, .int p2)] dX11_isBehind_1 (by decide) rfl ?_
  refine r_ls [1, 2, 3, 0] (ls2 := [(0, .ref (am 0)), (1, .int p1), (2, .int p2), (3, .int (0 : Int32))]) rfl ?_
  have L1 : ∀ (n1 : Nat) (l3_1 : Int32) (M_looked_1 : Int32) (M_lying_1 : Int32) (M_fewest_1 : Int32) (M_sets_1 : Int32), (fun z9 => z9) (lpS (f_M_isBehind_L2 N M_doubted M_against P_tellers P_claims P_kind P_by P_of P_other p1 p2) none n1 (l3_1, M_looked_1, M_lying_1, M_fewest_1, M_sets_1)) = some o → R g mX11_isBehind 5 0 0 2 [(0, .ref (am 0)), (1, .int p1), (2, .int p2), (3, .int l3_1)] [] (wlM g am (ap 0) m0 m1 m2 m3 m4 m5 M_doubted m7 m8 M_looked_1 M_lying_1 M_fewest_1 M_sets_1 m13 m14 m15 m16 m17 m18 M_against m20 m21 ++ (wlP g ap u0 P_tellers P_claims u3 u4 u5 u6 P_kind P_by P_of P_other u11 u12 u13 u14 u15 u16 u17 u18 ++ t)) Q := by
    intro n1
    induction n1 with
    | zero => intro l3_1 M_looked_1 M_lying_1 M_fewest_1 M_sets_1 h; exact nomatch (show (none : Option _) = some _ from h)
    | succ n1 ih1 =>
      intro l3_1 M_looked_1 M_lying_1 M_fewest_1 M_sets_1 h
      have h : (fun z9 => (lC (f_M_isBehind_L2 N M_doubted M_against P_tellers P_claims P_kind P_by P_of P_other p1 p2) none n1 z9)) (f_M_isBehind_L2 N M_doubted M_against P_tellers P_claims P_kind P_by P_of P_other p1 p2 (l3_1, M_looked_1, M_lying_1, M_fewest_1, M_sets_1)) = some o := h
      unfold f_M_isBehind_L2 at h
      try dsimp only at h
      refine r_iload_n 3 dX11_isBehind_2 rfl ?_
      refine r_aload_n 0 dX11_isBehind_3 rfl ?_
      refine r_getf (v := .ref (ap 0)) _ dX11_isBehind_4 fl_X11_20 lM_0 rfl ?_
      refine r_getf (v := .int P_claims) _ dX11_isBehind_7 fl_X11_65 lP_0 rfl ?_
      refine r_icmp_ge (tgt := 79) dX11_isBehind_10 (by decide) (fun hc1668 => ?_) (fun hc1668 => ?_)
      · have h := ip (fun z9 => (lC (f_M_isBehind_L2 N M_doubted M_against P_tellers P_claims P_kind P_by P_of P_other p1 p2) none n1 z9)) hc1668 h
        refine r_iconst (v := (0 : Int32)) dX11_isBehind_79 (by decide) ?_
        refine r_zret dX11_isBehind_80 rfl (by decide) ?_
        have h := Option.some.inj (show some _ = some o from h)
        subst h
        exact hq
      · have h := iq (fun z9 => (lC (f_M_isBehind_L2 N M_doubted M_against P_tellers P_claims P_kind P_by P_of P_other p1 p2) none n1 z9)) hc1668 h
        refine r_aload_n 0 dX11_isBehind_13 rfl ?_
        refine r_getf (v := .ref (ap 0)) _ dX11_isBehind_14 fl_X11_20 lM_0 rfl ?_
        refine r_getf (v := .ref (ap 3)) _ dX11_isBehind_17 fl_X11_68 lP_0 rfl ?_
        refine r_iload_n 3 dX11_isBehind_20 rfl ?_
        obtain ⟨hb1669, h⟩ := gd (fun z9 => (lC (f_M_isBehind_L2 N M_doubted M_against P_tellers P_claims P_kind P_by P_of P_other p1 p2) none n1 z9)) rfl h
        refine r_iald _ dX11_isBehind_21 lP_3 hb1669 ?_
        refine r_iconst (v := (1 : Int32)) dX11_isBehind_22 (by decide) ?_
        refine r_icmp_ne (tgt := 73) dX11_isBehind_23 (by decide) (fun hc1670 => ?_) (fun hc1670 => ?_)
        · have h := iq (fun z9 => (lC (f_M_isBehind_L2 N M_doubted M_against P_tellers P_claims P_kind P_by P_of P_other p1 p2) none n1 z9)) hc1670 h
          refine r_iinc (v2 := (l3_1 + (1 : Int32))) 3 [(3, .int (l3_1 + (1 : Int32))), (0, .ref (am 0)), (1, .int p1), (2, .int p2)] dX11_isBehind_73 rfl rfl (by decide) rfl ?_
          refine r_goto (tgt := 2) dX11_isBehind_76 (by decide) ?_
          refine r_ls [1, 2, 3, 0] (ls2 := [(0, .ref (am 0)), (1, .int p1), (2, .int p2), (3, .int (l3_1 + (1 : Int32)))]) rfl ?_
          exact ih1 (l3_1 + (1 : Int32)) M_looked_1 M_lying_1 M_fewest_1 M_sets_1 h
        · have h := ip (fun z9 => (lC (f_M_isBehind_L2 N M_doubted M_against P_tellers P_claims P_kind P_by P_of P_other p1 p2) none n1 z9)) hc1670 h
          refine r_aload_n 0 dX11_isBehind_26 rfl ?_
          refine r_getf (v := .ref (ap 0)) _ dX11_isBehind_27 fl_X11_20 lM_0 rfl ?_
          refine r_getf (v := .ref (ap 6)) _ dX11_isBehind_30 fl_X11_79 lP_0 rfl ?_
          refine r_iload_n 3 dX11_isBehind_33 rfl ?_
          obtain ⟨hb1671, h⟩ := gd (fun z9 => (lC (f_M_isBehind_L2 N M_doubted M_against P_tellers P_claims P_kind P_by P_of P_other p1 p2) none n1 z9)) rfl h
          refine r_iald _ dX11_isBehind_34 lP_6 hb1671 ?_
          refine r_iload_n 1 dX11_isBehind_35 rfl ?_
          refine r_icmp_ne (tgt := 73) dX11_isBehind_36 (by decide) (fun hc1672 => ?_) (fun hc1672 => ?_)
          · have h := iq (fun z9 => (lC (f_M_isBehind_L2 N M_doubted M_against P_tellers P_claims P_kind P_by P_of P_other p1 p2) none n1 z9)) hc1672 h
            refine r_iinc (v2 := (l3_1 + (1 : Int32))) 3 [(3, .int (l3_1 + (1 : Int32))), (0, .ref (am 0)), (1, .int p1), (2, .int p2)] dX11_isBehind_73 rfl rfl (by decide) rfl ?_
            refine r_goto (tgt := 2) dX11_isBehind_76 (by decide) ?_
            refine r_ls [1, 2, 3, 0] (ls2 := [(0, .ref (am 0)), (1, .int p1), (2, .int p2), (3, .int (l3_1 + (1 : Int32)))]) rfl ?_
            exact ih1 (l3_1 + (1 : Int32)) M_looked_1 M_lying_1 M_fewest_1 M_sets_1 h
          · have h := ip (fun z9 => (lC (f_M_isBehind_L2 N M_doubted M_against P_tellers P_claims P_kind P_by P_of P_other p1 p2) none n1 z9)) hc1672 h
            refine r_iload_n 2 dX11_isBehind_39 rfl ?_
            refine r_aload_n 0 dX11_isBehind_40 rfl ?_
            refine r_getf (v := .ref (ap 0)) _ dX11_isBehind_41 fl_X11_20 lM_0 rfl ?_
            refine r_getf (v := .ref (ap 5)) _ dX11_isBehind_44 fl_X11_73 lP_0 rfl ?_
            refine r_iload_n 3 dX11_isBehind_47 rfl ?_
            obtain ⟨hb1673, h⟩ := gd (fun z9 => (lC (f_M_isBehind_L2 N M_doubted M_against P_tellers P_claims P_kind P_by P_of P_other p1 p2) none n1 z9)) rfl h
            refine r_iald _ dX11_isBehind_48 lP_5 hb1673 ?_
            refine c_S (rest := []) 0 0 dX11_isBehind_49 ks_X11_88 (ct_M_has rfl) rfl rfl (Nat.le_of_ble_eq_true rfl) (by decide) (by decide) ?_
            refine r_if_ne (tgt := 73) dX11_isBehind_52 (by decide) (fun hc1674 => ?_) (fun hc1674 => ?_)
            · have h := iq (fun z9 => (lC (f_M_isBehind_L2 N M_doubted M_against P_tellers P_claims P_kind P_by P_of P_other p1 p2) none n1 z9)) hc1674 h
              refine r_iinc (v2 := (l3_1 + (1 : Int32))) 3 [(3, .int (l3_1 + (1 : Int32))), (0, .ref (am 0)), (1, .int p1), (2, .int p2)] dX11_isBehind_73 rfl rfl (by decide) rfl ?_
              refine r_goto (tgt := 2) dX11_isBehind_76 (by decide) ?_
              refine r_ls [1, 2, 3, 0] (ls2 := [(0, .ref (am 0)), (1, .int p1), (2, .int p2), (3, .int (l3_1 + (1 : Int32)))]) rfl ?_
              exact ih1 (l3_1 + (1 : Int32)) M_looked_1 M_lying_1 M_fewest_1 M_sets_1 h
            · have h := ip (fun z9 => (lC (f_M_isBehind_L2 N M_doubted M_against P_tellers P_claims P_kind P_by P_of P_other p1 p2) none n1 z9)) hc1674 h
              refine r_aload_n 0 dX11_isBehind_55 rfl ?_
              refine r_aload_n 0 dX11_isBehind_56 rfl ?_
              refine r_getf (v := .ref (ap 0)) _ dX11_isBehind_57 fl_X11_20 lM_0 rfl ?_
              refine r_getf (v := .ref (ap 4)) _ dX11_isBehind_60 fl_X11_82 lP_0 rfl ?_
              refine r_iload_n 3 dX11_isBehind_63 rfl ?_
              obtain ⟨hb1675, h⟩ := gd (fun z9 => (lC (f_M_isBehind_L2 N M_doubted M_against P_tellers P_claims P_kind P_by P_of P_other p1 p2) none n1 z9)) rfl h
              refine r_iald _ dX11_isBehind_64 lP_4 hb1675 ?_
              obtain ⟨r1676, hc1677, h⟩ := ob (fun z9 => (lC (f_M_isBehind_L2 N M_doubted M_against P_tellers P_claims P_kind P_by P_of P_other p1 p2) none n1 z9)) rfl h
              refine c_V (rest := []) 0 0 _ dX11_isBehind_65 kv_X11_134 (ct_M_isTruthful hc1677) rfl rfl lM_0 rfl (Nat.le_of_ble_eq_true rfl) (by decide) (by decide) ?_
              refine r_if_eq (tgt := 73) dX11_isBehind_68 (by decide) (fun hc1678 => ?_) (fun hc1678 => ?_)
              · have h := ip (fun z9 => (lC (f_M_isBehind_L2 N M_doubted M_against P_tellers P_claims P_kind P_by P_of P_other p1 p2) none n1 z9)) hc1678 h
                refine r_iinc (v2 := (l3_1 + (1 : Int32))) 3 [(3, .int (l3_1 + (1 : Int32))), (0, .ref (am 0)), (1, .int p1), (2, .int p2)] dX11_isBehind_73 rfl rfl (by decide) rfl ?_
                refine r_goto (tgt := 2) dX11_isBehind_76 (by decide) ?_
                refine r_ls [1, 2, 3, 0] (ls2 := [(0, .ref (am 0)), (1, .int p1), (2, .int p2), (3, .int (l3_1 + (1 : Int32)))]) rfl ?_
                exact ih1 (l3_1 + (1 : Int32)) r1676.2.1 r1676.2.2.1 r1676.2.2.2.1 r1676.2.2.2.2 h
              · have h := iq (fun z9 => (lC (f_M_isBehind_L2 N M_doubted M_against P_tellers P_claims P_kind P_by P_of P_other p1 p2) none n1 z9)) hc1678 h
                refine r_iconst (v := (1 : Int32)) dX11_isBehind_71 (by decide) ?_
                refine r_zret dX11_isBehind_72 rfl (by decide) ?_
                have h := Option.some.inj (show some _ = some o from h)
                subst h
                exact hq
  exact L1 _ (0 : Int32) M_looked M_lying M_fewest M_sets h
theorem ct_M_isBehind {g : GG} {am : Nat → Nat} {ap : Nat → Nat} {t : va_W} {m0 m1 m2 m3 m4 m5 m7 m8 u0 u3 u4 : Int32} {m13 m14 m15 m16 m18 m20 m21 u11 u12 u13 u14 u15 u16 u17 u18 : Nat → Int32} {m17 u5 u6 : Nat → Int64} {N : Nat} {M_doubted : Int32} {M_looked : Int32} {M_lying : Int32} {M_fewest : Int32} {M_sets : Int32} {M_against : Nat → Int32} {P_tellers : Int32} {P_claims : Int32} {P_kind : Nat → Int32} {P_by : Nat → Int32} {P_of : Nat → Int32} {P_other : Nat → Int32} {p1 : Int32} {p2 : Int32} {o : Int32 × Int32 × Int32 × Int32 × Int32} (h : f_M_isBehind N M_doubted M_looked M_lying M_fewest M_sets M_against P_tellers P_claims P_kind P_by P_of P_other p1 p2 = some o) : Ct g mX11_isBehind 5 0 0 [.ref (am 0), .int p1, .int p2] (wlM g am (ap 0) m0 m1 m2 m3 m4 m5 M_doubted m7 m8 M_looked M_lying M_fewest M_sets m13 m14 m15 m16 m17 m18 M_against m20 m21 ++ (wlP g ap u0 P_tellers P_claims u3 u4 u5 u6 P_kind P_by P_of P_other u11 u12 u13 u14 u15 u16 u17 u18 ++ t)) (Dv (some (.int o.1)) (wlM g am (ap 0) m0 m1 m2 m3 m4 m5 M_doubted m7 m8 o.2.1 o.2.2.1 o.2.2.2.1 o.2.2.2.2 m13 m14 m15 m16 m17 m18 M_against m20 m21 ++ (wlP g ap u0 P_tellers P_claims u3 u4 u5 u6 P_kind P_by P_of P_other u11 u12 u13 u14 u15 u16 u17 u18 ++ t))) := Ct.ofR (by decide +kernel) rfl (Nat.le_of_ble_eq_true rfl) (rt_M_isBehind h ⟨rfl, rfl⟩)
set_option maxRecDepth 20000 in
set_option maxHeartbeats 4000000 in
theorem rt_M_isOrdered {g : GG} {am : Nat → Nat} {ap : Nat → Nat} {t : va_W} {m0 m1 m2 m3 m4 m5 m7 m8 u3 u4 : Int32} {m13 m14 m15 m16 m18 m21 u11 u12 u13 u14 u15 u16 u17 u18 : Nat → Int32} {m17 u5 u6 : Nat → Int64} {N : Nat} {M_doubted : Int32} {M_looked : Int32} {M_lying : Int32} {M_fewest : Int32} {M_sets : Int32} {M_against : Nat → Int32} {M_row : Nat → Int32} {P_events : Int32} {P_tellers : Int32} {P_claims : Int32} {P_kind : Nat → Int32} {P_by : Nat → Int32} {P_of : Nat → Int32} {P_other : Nat → Int32} {o : Int32 × Int32 × Int32 × Int32 × Int32 × (Nat → Int32)} {Q : Rs → va_W → Prop} (h : f_M_isOrdered N M_doubted M_looked M_lying M_fewest M_sets M_against M_row P_events P_tellers P_claims P_kind P_by P_of P_other = some o) (hq : Q (.inl (some (.int o.1))) (wlM g am (ap 0) m0 m1 m2 m3 m4 m5 M_doubted m7 m8 o.2.1 o.2.2.1 o.2.2.2.1 o.2.2.2.2.1 m13 m14 m15 m16 m17 m18 M_against o.2.2.2.2.2 m21 ++ (wlP g ap P_events P_tellers P_claims u3 u4 u5 u6 P_kind P_by P_of P_other u11 u12 u13 u14 u15 u16 u17 u18 ++ t))) : R g mX11_isOrdered 6 0 0 0 [(0, .ref (am 0))] [] (wlM g am (ap 0) m0 m1 m2 m3 m4 m5 M_doubted m7 m8 M_looked M_lying M_fewest M_sets m13 m14 m15 m16 m17 m18 M_against M_row m21 ++ (wlP g ap P_events P_tellers P_claims u3 u4 u5 u6 P_kind P_by P_of P_other u11 u12 u13 u14 u15 u16 u17 u18 ++ t)) Q := by
  unfold f_M_isOrdered at h
  refine r_iconst (v := (0 : Int32)) dX11_isOrdered_0 (by decide) ?_
  refine r_istore_n [(1, .int (0 : Int32)), (0, .ref (am 0))] dX11_isOrdered_1 (by decide) rfl ?_
  refine r_iconst (v := (0 : Int32)) dX11_isOrdered_2 (by decide) ?_
  refine r_istore_n [(2, .int (0 : Int32)), (1, .int (0 : Int32)), (0, .ref (am 0))] dX11_isOrdered_3 (by decide) rfl ?_
  refine r_ls [2, 1, 0] (ls2 := [(0, .ref (am 0)), (1, .int (0 : Int32)), (2, .int (0 : Int32))]) rfl ?_
  have L1 : ∀ (n1 : Nat) (l1_1 : Int32) (l2_1 : Int32) (M_looked_1 : Int32) (M_lying_1 : Int32) (M_fewest_1 : Int32) (M_sets_1 : Int32) (M_row_1 : Nat → Int32), (fun z9 => z9) (lpS (f_M_isOrdered_L4 N M_doubted M_against P_events P_tellers P_claims P_kind P_by P_of P_other) none n1 (l1_1, l2_1, M_looked_1, M_lying_1, M_fewest_1, M_sets_1, M_row_1)) = some o → R g mX11_isOrdered 6 0 0 4 [(0, .ref (am 0)), (1, .int l1_1), (2, .int l2_1)] [] (wlM g am (ap 0) m0 m1 m2 m3 m4 m5 M_doubted m7 m8 M_looked_1 M_lying_1 M_fewest_1 M_sets_1 m13 m14 m15 m16 m17 m18 M_against M_row_1 m21 ++ (wlP g ap P_events P_tellers P_claims u3 u4 u5 u6 P_kind P_by P_of P_other u11 u12 u13 u14 u15 u16 u17 u18 ++ t)) Q := by
    intro n1
    induction n1 with
    | zero => intro l1_1 l2_1 M_looked_1 M_lying_1 M_fewest_1 M_sets_1 M_row_1 h; exact nomatch (show (none : Option _) = some _ from h)
    | succ n1 ih1 =>
      intro l1_1 l2_1 M_looked_1 M_lying_1 M_fewest_1 M_sets_1 M_row_1 h
      have h : (fun z9 => (lC (f_M_isOrdered_L4 N M_doubted M_against P_events P_tellers P_claims P_kind P_by P_of P_other) none n1 z9)) (f_M_isOrdered_L4 N M_doubted M_against P_events P_tellers P_claims P_kind P_by P_of P_other (l1_1, l2_1, M_looked_1, M_lying_1, M_fewest_1, M_sets_1, M_row_1)) = some o := h
      unfold f_M_isOrdered_L4 at h
      try dsimp only at h
      refine r_iload_n 2 dX11_isOrdered_4 rfl ?_
      refine r_aload_n 0 dX11_isOrdered_5 rfl ?_
      refine r_getf (v := .ref (ap 0)) _ dX11_isOrdered_6 fl_X11_20 lM_0 rfl ?_
      refine r_getf (v := .int P_events) _ dX11_isOrdered_9 fl_X11_55 lP_0 rfl ?_
      refine r_icmp_ge (tgt := 83) dX11_isOrdered_12 (by decide) (fun hc1679 => ?_) (fun hc1679 => ?_)
      · have h := ip (fun z9 => (lC (f_M_isOrdered_L4 N M_doubted M_against P_events P_tellers P_claims P_kind P_by P_of P_other) none n1 z9)) hc1679 h
        refine r_iconst (v := (1 : Int32)) dX11_isOrdered_83 (by decide) ?_
        refine r_zret dX11_isOrdered_84 rfl (by decide) ?_
        have h := Option.some.inj (show some _ = some o from h)
        subst h
        exact hq
      · have h := iq (fun z9 => (lC (f_M_isOrdered_L4 N M_doubted M_against P_events P_tellers P_claims P_kind P_by P_of P_other) none n1 z9)) hc1679 h
        refine r_iconst (v := (0 : Int32)) dX11_isOrdered_15 (by decide) ?_
        refine r_istore_n [(3, .int (0 : Int32)), (0, .ref (am 0)), (1, .int l1_1), (2, .int l2_1)] dX11_isOrdered_16 (by decide) rfl ?_
        refine r_ls [1, 2, 3, 0] (ls2 := [(0, .ref (am 0)), (1, .int l1_1), (2, .int l2_1), (3, .int (0 : Int32))]) rfl ?_
        have L2 : ∀ (n2 : Nat) (l3_2 : Int32) (M_looked_2 : Int32) (M_lying_2 : Int32) (M_fewest_2 : Int32) (M_sets_2 : Int32), (fun z9 => (lC (f_M_isOrdered_L4 N M_doubted M_against P_events P_tellers P_claims P_kind P_by P_of P_other) none n1 z9)) (lpS (f_M_isOrdered_L17 N M_doubted M_against P_events P_tellers P_claims P_kind P_by P_of P_other l1_1 l2_1 M_row_1) (.inr none) n2 (l3_2, M_looked_2, M_lying_2, M_fewest_2, M_sets_2)) = some o → R g mX11_isOrdered 6 0 0 17 [(0, .ref (am 0)), (1, .int l1_1), (2, .int l2_1), (3, .int l3_2)] [] (wlM g am (ap 0) m0 m1 m2 m3 m4 m5 M_doubted m7 m8 M_looked_2 M_lying_2 M_fewest_2 M_sets_2 m13 m14 m15 m16 m17 m18 M_against M_row_1 m21 ++ (wlP g ap P_events P_tellers P_claims u3 u4 u5 u6 P_kind P_by P_of P_other u11 u12 u13 u14 u15 u16 u17 u18 ++ t)) Q := by
          intro n2
          induction n2 with
          | zero => intro l3_2 M_looked_2 M_lying_2 M_fewest_2 M_sets_2 h; exact nomatch (show (none : Option _) = some _ from h)
          | succ n2 ih2 =>
            intro l3_2 M_looked_2 M_lying_2 M_fewest_2 M_sets_2 h
            have h : (fun z9 => (lC (f_M_isOrdered_L4 N M_doubted M_against P_events P_tellers P_claims P_kind P_by P_of P_other) none n1 (lC (f_M_isOrdered_L17 N M_doubted M_against P_events P_tellers P_claims P_kind P_by P_of P_other l1_1 l2_1 M_row_1) (.inr none) n2 z9))) (f_M_isOrdered_L17 N M_doubted M_against P_events P_tellers P_claims P_kind P_by P_of P_other l1_1 l2_1 M_row_1 (l3_2, M_looked_2, M_lying_2, M_fewest_2, M_sets_2)) = some o := h
            unfold f_M_isOrdered_L17 at h
            try dsimp only at h
            refine r_iload_n 3 dX11_isOrdered_17 rfl ?_
            refine r_aload_n 0 dX11_isOrdered_18 rfl ?_
            refine r_getf (v := .ref (ap 0)) _ dX11_isOrdered_19 fl_X11_20 lM_0 rfl ?_
            refine r_getf (v := .int P_events) _ dX11_isOrdered_22 fl_X11_55 lP_0 rfl ?_
            refine r_icmp_ge (tgt := 51) dX11_isOrdered_25 (by decide) (fun hc1680 => ?_) (fun hc1680 => ?_)
            · have h := ip (fun z9 => (lC (f_M_isOrdered_L4 N M_doubted M_against P_events P_tellers P_claims P_kind P_by P_of P_other) none n1 (lC (f_M_isOrdered_L17 N M_doubted M_against P_events P_tellers P_claims P_kind P_by P_of P_other l1_1 l2_1 M_row_1) (.inr none) n2 z9))) hc1680 h
              refine r_iload_n 3 dX11_isOrdered_51 rfl ?_
              refine r_aload_n 0 dX11_isOrdered_52 rfl ?_
              refine r_getf (v := .ref (ap 0)) _ dX11_isOrdered_53 fl_X11_20 lM_0 rfl ?_
              refine r_getf (v := .int P_events) _ dX11_isOrdered_56 fl_X11_55 lP_0 rfl ?_
              refine r_icmp_ne (tgt := 64) dX11_isOrdered_59 (by decide) (fun hc1681 => ?_) (fun hc1681 => ?_)
              · have h := iq (fun z9 => (lC (f_M_isOrdered_L4 N M_doubted M_against P_events P_tellers P_claims P_kind P_by P_of P_other) none n1 (lC (f_M_isOrdered_L17 N M_doubted M_against P_events P_tellers P_claims P_kind P_by P_of P_other l1_1 l2_1 M_row_1) (.inr none) n2 z9))) hc1681 h
                refine r_aload_n 0 dX11_isOrdered_64 rfl ?_
                refine r_getf (v := .ref (am 8)) _ dX11_isOrdered_65 fl_X11_46 lM_0 rfl ?_
                refine r_iload_n 2 dX11_isOrdered_68 rfl ?_
                refine r_iload_n 3 dX11_isOrdered_69 rfl ?_
                obtain ⟨hb1682, h⟩ := gd (fun z9 => (lC (f_M_isOrdered_L4 N M_doubted M_against P_events P_tellers P_claims P_kind P_by P_of P_other) none n1 (lC (f_M_isOrdered_L17 N M_doubted M_against P_events P_tellers P_claims P_kind P_by P_of P_other l1_1 l2_1 M_row_1) (.inr none) n2 z9))) rfl h
                refine r_iast _ dX11_isOrdered_70 lM_8 hb1682 (sM_20 _) ?_
                refine r_iload_n 1 dX11_isOrdered_71 rfl ?_
                refine r_iconst (v := (1 : Int32)) dX11_isOrdered_72 (by decide) ?_
                refine r_iload_n 3 dX11_isOrdered_73 rfl ?_
                refine r_ishl dX11_isOrdered_74 ?_
                refine r_ior dX11_isOrdered_75 ?_
                refine r_istore_n [(1, .int (l1_1 ||| ((1 : Int32) <<< (l3_2 &&& 31)))), (0, .ref (am 0)), (2, .int l2_1), (3, .int l3_2)] dX11_isOrdered_76 (by decide) rfl ?_
                refine r_iinc (v2 := (l2_1 + (1 : Int32))) 2 [(2, .int (l2_1 + (1 : Int32))), (1, .int (l1_1 ||| ((1 : Int32) <<< (l3_2 &&& 31)))), (0, .ref (am 0)), (3, .int l3_2)] dX11_isOrdered_77 rfl rfl (by decide) rfl ?_
                refine r_goto (tgt := 4) dX11_isOrdered_80 (by decide) ?_
                refine r_ls [2, 1, 0] (ls2 := [(0, .ref (am 0)), (1, .int (l1_1 ||| ((1 : Int32) <<< (l3_2 &&& 31)))), (2, .int (l2_1 + (1 : Int32)))]) rfl ?_
                exact ih1 (l1_1 ||| ((1 : Int32) <<< (l3_2 &&& 31))) (l2_1 + (1 : Int32)) M_looked_2 M_lying_2 M_fewest_2 M_sets_2 (upd M_row_1 l2_1.toNatClampNeg l3_2) h
              · have h := ip (fun z9 => (lC (f_M_isOrdered_L4 N M_doubted M_against P_events P_tellers P_claims P_kind P_by P_of P_other) none n1 (lC (f_M_isOrdered_L17 N M_doubted M_against P_events P_tellers P_claims P_kind P_by P_of P_other l1_1 l2_1 M_row_1) (.inr none) n2 z9))) hc1681 h
                refine r_iconst (v := (0 : Int32)) dX11_isOrdered_62 (by decide) ?_
                refine r_zret dX11_isOrdered_63 rfl (by decide) ?_
                have h := Option.some.inj (show some _ = some o from h)
                subst h
                exact hq
            · have h := iq (fun z9 => (lC (f_M_isOrdered_L4 N M_doubted M_against P_events P_tellers P_claims P_kind P_by P_of P_other) none n1 (lC (f_M_isOrdered_L17 N M_doubted M_against P_events P_tellers P_claims P_kind P_by P_of P_other l1_1 l2_1 M_row_1) (.inr none) n2 z9))) hc1680 h
              refine r_iload_n 1 dX11_isOrdered_28 rfl ?_
              refine r_iload_n 3 dX11_isOrdered_29 rfl ?_
              refine c_S (rest := []) 0 0 dX11_isOrdered_30 ks_X11_88 (ct_M_has rfl) rfl rfl (Nat.le_of_ble_eq_true rfl) (by decide) (by decide) ?_
              refine r_if_ne (tgt := 45) dX11_isOrdered_33 (by decide) (fun hc1683 => ?_) (fun hc1683 => ?_)
              · have h := iq (fun z9 => (lC (f_M_isOrdered_L4 N M_doubted M_against P_events P_tellers P_claims P_kind P_by P_of P_other) none n1 (lC (f_M_isOrdered_L17 N M_doubted M_against P_events P_tellers P_claims P_kind P_by P_of P_other l1_1 l2_1 M_row_1) (.inr none) n2 z9))) hc1683 h
                refine r_iinc (v2 := (l3_2 + (1 : Int32))) 3 [(3, .int (l3_2 + (1 : Int32))), (0, .ref (am 0)), (1, .int l1_1), (2, .int l2_1)] dX11_isOrdered_45 rfl rfl (by decide) rfl ?_
                refine r_goto (tgt := 17) dX11_isOrdered_48 (by decide) ?_
                refine r_ls [1, 2, 3, 0] (ls2 := [(0, .ref (am 0)), (1, .int l1_1), (2, .int l2_1), (3, .int (l3_2 + (1 : Int32)))]) rfl ?_
                exact ih2 (l3_2 + (1 : Int32)) M_looked_2 M_lying_2 M_fewest_2 M_sets_2 h
              · have h := ip (fun z9 => (lC (f_M_isOrdered_L4 N M_doubted M_against P_events P_tellers P_claims P_kind P_by P_of P_other) none n1 (lC (f_M_isOrdered_L17 N M_doubted M_against P_events P_tellers P_claims P_kind P_by P_of P_other l1_1 l2_1 M_row_1) (.inr none) n2 z9))) hc1683 h
                refine r_aload_n 0 dX11_isOrdered_36 rfl ?_
                refine r_iload_n 3 dX11_isOrdered_37 rfl ?_
                refine r_iload_n 1 dX11_isOrdered_38 rfl ?_
                obtain ⟨r1684, hc1685, h⟩ := ob (fun z9 => (lC (f_M_isOrdered_L4 N M_doubted M_against P_events P_tellers P_claims P_kind P_by P_of P_other) none n1 (lC (f_M_isOrdered_L17 N M_doubted M_against P_events P_tellers P_claims P_kind P_by P_of P_other l1_1 l2_1 M_row_1) (.inr none) n2 z9))) rfl h
                refine c_V (rest := []) 0 0 _ dX11_isOrdered_39 kv_X11_138 (ct_M_isBehind hc1685) rfl rfl lM_0 rfl (Nat.le_of_ble_eq_true rfl) (by decide) (by decide) ?_
                refine r_if_eq (tgt := 51) dX11_isOrdered_42 (by decide) (fun hc1686 => ?_) (fun hc1686 => ?_)
                · have h := ip (fun z9 => (lC (f_M_isOrdered_L4 N M_doubted M_against P_events P_tellers P_claims P_kind P_by P_of P_other) none n1 (lC (f_M_isOrdered_L17 N M_doubted M_against P_events P_tellers P_claims P_kind P_by P_of P_other l1_1 l2_1 M_row_1) (.inr none) n2 z9))) hc1686 h
                  refine r_iload_n 3 dX11_isOrdered_51 rfl ?_
                  refine r_aload_n 0 dX11_isOrdered_52 rfl ?_
                  refine r_getf (v := .ref (ap 0)) _ dX11_isOrdered_53 fl_X11_20 lM_0 rfl ?_
                  refine r_getf (v := .int P_events) _ dX11_isOrdered_56 fl_X11_55 lP_0 rfl ?_
                  refine r_icmp_ne (tgt := 64) dX11_isOrdered_59 (by decide) (fun hc1687 => ?_) (fun hc1687 => ?_)
                  · have h := iq (fun z9 => (lC (f_M_isOrdered_L4 N M_doubted M_against P_events P_tellers P_claims P_kind P_by P_of P_other) none n1 (lC (f_M_isOrdered_L17 N M_doubted M_against P_events P_tellers P_claims P_kind P_by P_of P_other l1_1 l2_1 M_row_1) (.inr none) n2 z9))) hc1687 h
                    refine r_aload_n 0 dX11_isOrdered_64 rfl ?_
                    refine r_getf (v := .ref (am 8)) _ dX11_isOrdered_65 fl_X11_46 lM_0 rfl ?_
                    refine r_iload_n 2 dX11_isOrdered_68 rfl ?_
                    refine r_iload_n 3 dX11_isOrdered_69 rfl ?_
                    obtain ⟨hb1688, h⟩ := gd (fun z9 => (lC (f_M_isOrdered_L4 N M_doubted M_against P_events P_tellers P_claims P_kind P_by P_of P_other) none n1 (lC (f_M_isOrdered_L17 N M_doubted M_against P_events P_tellers P_claims P_kind P_by P_of P_other l1_1 l2_1 M_row_1) (.inr none) n2 z9))) rfl h
                    refine r_iast _ dX11_isOrdered_70 lM_8 hb1688 (sM_20 _) ?_
                    refine r_iload_n 1 dX11_isOrdered_71 rfl ?_
                    refine r_iconst (v := (1 : Int32)) dX11_isOrdered_72 (by decide) ?_
                    refine r_iload_n 3 dX11_isOrdered_73 rfl ?_
                    refine r_ishl dX11_isOrdered_74 ?_
                    refine r_ior dX11_isOrdered_75 ?_
                    refine r_istore_n [(1, .int (l1_1 ||| ((1 : Int32) <<< (l3_2 &&& 31)))), (0, .ref (am 0)), (2, .int l2_1), (3, .int l3_2)] dX11_isOrdered_76 (by decide) rfl ?_
                    refine r_iinc (v2 := (l2_1 + (1 : Int32))) 2 [(2, .int (l2_1 + (1 : Int32))), (1, .int (l1_1 ||| ((1 : Int32) <<< (l3_2 &&& 31)))), (0, .ref (am 0)), (3, .int l3_2)] dX11_isOrdered_77 rfl rfl (by decide) rfl ?_
                    refine r_goto (tgt := 4) dX11_isOrdered_80 (by decide) ?_
                    refine r_ls [2, 1, 0] (ls2 := [(0, .ref (am 0)), (1, .int (l1_1 ||| ((1 : Int32) <<< (l3_2 &&& 31)))), (2, .int (l2_1 + (1 : Int32)))]) rfl ?_
                    exact ih1 (l1_1 ||| ((1 : Int32) <<< (l3_2 &&& 31))) (l2_1 + (1 : Int32)) r1684.2.1 r1684.2.2.1 r1684.2.2.2.1 r1684.2.2.2.2 (upd M_row_1 l2_1.toNatClampNeg l3_2) h
                  · have h := ip (fun z9 => (lC (f_M_isOrdered_L4 N M_doubted M_against P_events P_tellers P_claims P_kind P_by P_of P_other) none n1 (lC (f_M_isOrdered_L17 N M_doubted M_against P_events P_tellers P_claims P_kind P_by P_of P_other l1_1 l2_1 M_row_1) (.inr none) n2 z9))) hc1687 h
                    refine r_iconst (v := (0 : Int32)) dX11_isOrdered_62 (by decide) ?_
                    refine r_zret dX11_isOrdered_63 rfl (by decide) ?_
                    have h := Option.some.inj (show some _ = some o from h)
                    subst h
                    exact hq
                · have h := iq (fun z9 => (lC (f_M_isOrdered_L4 N M_doubted M_against P_events P_tellers P_claims P_kind P_by P_of P_other) none n1 (lC (f_M_isOrdered_L17 N M_doubted M_against P_events P_tellers P_claims P_kind P_by P_of P_other l1_1 l2_1 M_row_1) (.inr none) n2 z9))) hc1686 h
                  refine r_iinc (v2 := (l3_2 + (1 : Int32))) 3 [(3, .int (l3_2 + (1 : Int32))), (0, .ref (am 0)), (1, .int l1_1), (2, .int l2_1)] dX11_isOrdered_45 rfl rfl (by decide) rfl ?_
                  refine r_goto (tgt := 17) dX11_isOrdered_48 (by decide) ?_
                  refine r_ls [1, 2, 3, 0] (ls2 := [(0, .ref (am 0)), (1, .int l1_1), (2, .int l2_1), (3, .int (l3_2 + (1 : Int32)))]) rfl ?_
                  exact ih2 (l3_2 + (1 : Int32)) r1684.2.1 r1684.2.2.1 r1684.2.2.2.1 r1684.2.2.2.2 h
        exact L2 _ (0 : Int32) M_looked_1 M_lying_1 M_fewest_1 M_sets_1 h
  exact L1 _ (0 : Int32) (0 : Int32) M_looked M_lying M_fewest M_sets M_row h
theorem ct_M_isOrdered {g : GG} {am : Nat → Nat} {ap : Nat → Nat} {t : va_W} {m0 m1 m2 m3 m4 m5 m7 m8 u3 u4 : Int32} {m13 m14 m15 m16 m18 m21 u11 u12 u13 u14 u15 u16 u17 u18 : Nat → Int32} {m17 u5 u6 : Nat → Int64} {N : Nat} {M_doubted : Int32} {M_looked : Int32} {M_lying : Int32} {M_fewest : Int32} {M_sets : Int32} {M_against : Nat → Int32} {M_row : Nat → Int32} {P_events : Int32} {P_tellers : Int32} {P_claims : Int32} {P_kind : Nat → Int32} {P_by : Nat → Int32} {P_of : Nat → Int32} {P_other : Nat → Int32} {o : Int32 × Int32 × Int32 × Int32 × Int32 × (Nat → Int32)} (h : f_M_isOrdered N M_doubted M_looked M_lying M_fewest M_sets M_against M_row P_events P_tellers P_claims P_kind P_by P_of P_other = some o) : Ct g mX11_isOrdered 6 0 0 [.ref (am 0)] (wlM g am (ap 0) m0 m1 m2 m3 m4 m5 M_doubted m7 m8 M_looked M_lying M_fewest M_sets m13 m14 m15 m16 m17 m18 M_against M_row m21 ++ (wlP g ap P_events P_tellers P_claims u3 u4 u5 u6 P_kind P_by P_of P_other u11 u12 u13 u14 u15 u16 u17 u18 ++ t)) (Dv (some (.int o.1)) (wlM g am (ap 0) m0 m1 m2 m3 m4 m5 M_doubted m7 m8 o.2.1 o.2.2.1 o.2.2.2.1 o.2.2.2.2.1 m13 m14 m15 m16 m17 m18 M_against o.2.2.2.2.2 m21 ++ (wlP g ap P_events P_tellers P_claims u3 u4 u5 u6 P_kind P_by P_of P_other u11 u12 u13 u14 u15 u16 u17 u18 ++ t))) := Ct.ofR (by decide +kernel) rfl (Nat.le_of_ble_eq_true rfl) (rt_M_isOrdered h ⟨rfl, rfl⟩)
