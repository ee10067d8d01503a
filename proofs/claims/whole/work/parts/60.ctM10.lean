set_option maxRecDepth 20000 in
set_option maxHeartbeats 4000000 in
theorem rt_M_find {g : GG} {am : Nat → Nat} {ap : Nat → Nat} {pm : Nat} {t : va_W} {m0 m1 m2 m3 m4 m5 m6 m7 m8 m9 m10 m11 m12 u0 u1 u2 u3 u4 : Int32} {m13 m14 m15 m16 m18 m19 m20 m21 u7 u8 u9 u10 u11 u12 u13 u14 u15 u16 u17 u18 : Nat → Int32} {m17 u6 : Nat → Int64} {N : Nat} {P_event : Nat → Int64} {p1 : Int32} {p2 : Int64} {o : Int32} {Q : Rs → va_W → Prop} (h : f_M_find N P_event p1 p2 = some o) (hq : Q (.inl (some (.int o))) (wlM g am pm m0 m1 m2 m3 m4 m5 m6 m7 m8 m9 m10 m11 m12 m13 m14 m15 m16 m17 m18 m19 m20 m21 ++ (wlP g ap u0 u1 u2 u3 u4 P_event u6 u7 u8 u9 u10 u11 u12 u13 u14 u15 u16 u17 u18 ++ t))) : R g mX11_find 1 0 0 0 [(0, .ref (ap 1)), (1, .int p1), (2, .long p2)] [] (wlM g am pm m0 m1 m2 m3 m4 m5 m6 m7 m8 m9 m10 m11 m12 m13 m14 m15 m16 m17 m18 m19 m20 m21 ++ (wlP g ap u0 u1 u2 u3 u4 P_event u6 u7 u8 u9 u10 u11 u12 u13 u14 u15 u16 u17 u18 ++ t)) Q := by
  unfold f_M_find at h
  refine r_iconst (v := (0 : Int32)) dX11_find_0 (by decide) ?_
  refine r_istore [(4, .int (0 : Int32)), (0, .ref (ap 1)), (1, .int p1), (2, .long p2)] dX11_find_1 (by decide) rfl ?_
  refine r_ls [1, 2, 3, 0] (ls2 := [(0, .ref (ap 1)), (1, .int p1), (2, .long p2), (4, .int (0 : Int32))]) rfl ?_
  have L1 : ∀ (n1 : Nat) (l4_1 : Int32), (fun z9 => z9) (lpS (f_M_find_L3 P_event p1 p2) none n1 l4_1) = some o → R g mX11_find 1 0 0 3 [(0, .ref (ap 1)), (1, .int p1), (2, .long p2), (4, .int l4_1)] [] (wlM g am pm m0 m1 m2 m3 m4 m5 m6 m7 m8 m9 m10 m11 m12 m13 m14 m15 m16 m17 m18 m19 m20 m21 ++ (wlP g ap u0 u1 u2 u3 u4 P_event u6 u7 u8 u9 u10 u11 u12 u13 u14 u15 u16 u17 u18 ++ t)) Q := by
    intro n1
    induction n1 with
    | zero => intro l4_1 h; exact nomatch (show (none : Option _) = some _ from h)
    | succ n1 ih1 =>
      intro l4_1 h
      have h : (fun z9 => (lC (f_M_find_L3 P_event p1 p2) none n1 z9)) (f_M_find_L3 P_event p1 p2 l4_1) = some o := h
      unfold f_M_find_L3 at h
      try dsimp only at h
      refine r_iload 3 dX11_find_3 rfl ?_
      refine r_iload_n 1 dX11_find_5 rfl ?_
      refine r_icmp_ge (tgt := 27) dX11_find_6 (by decide) (fun hc1984 => ?_) (fun hc1984 => ?_)
      · have h := ip (fun z9 => (lC (f_M_find_L3 P_event p1 p2) none n1 z9)) hc1984 h
        refine r_iconst (v := (-1 : Int32)) dX11_find_27 (by decide) ?_
        refine r_iret dX11_find_28 rfl ?_
        have h := Option.some.inj (show some _ = some o from h)
        subst h
        exact hq
      · have h := iq (fun z9 => (lC (f_M_find_L3 P_event p1 p2) none n1 z9)) hc1984 h
        refine r_aload_n 0 dX11_find_9 rfl ?_
        refine r_iload 3 dX11_find_10 rfl ?_
        obtain ⟨hb1985, h⟩ := gd (fun z9 => (lC (f_M_find_L3 P_event p1 p2) none n1 z9)) rfl h
        refine r_lald _ dX11_find_12 lP_1 hb1985 ?_
        refine r_lload_n 2 dX11_find_13 rfl ?_
        refine r_lcmp dX11_find_14 ?_
        refine r_if_ne (tgt := 21) dX11_find_15 (by decide) (fun hc1986 => ?_) (fun hc1986 => ?_)
        · have h := iq (fun z9 => (lC (f_M_find_L3 P_event p1 p2) none n1 z9)) hc1986 h
          refine r_iinc (v2 := (l4_1 + (1 : Int32))) 3 [(4, .int (l4_1 + (1 : Int32))), (0, .ref (ap 1)), (1, .int p1), (2, .long p2)] dX11_find_21 rfl rfl (by decide) rfl ?_
          refine r_goto (tgt := 3) dX11_find_24 (by decide) ?_
          refine r_ls [1, 2, 3, 0] (ls2 := [(0, .ref (ap 1)), (1, .int p1), (2, .long p2), (4, .int (l4_1 + (1 : Int32)))]) rfl ?_
          exact ih1 (l4_1 + (1 : Int32)) h
        · have h := ip (fun z9 => (lC (f_M_find_L3 P_event p1 p2) none n1 z9)) hc1986 h
          refine r_iload 3 dX11_find_18 rfl ?_
          refine r_iret dX11_find_20 rfl ?_
          have h := Option.some.inj (show some _ = some o from h)
          subst h
          exact hq
  exact L1 _ (0 : Int32) h
theorem ct_M_find {g : GG} {am : Nat → Nat} {ap : Nat → Nat} {pm : Nat} {t : va_W} {m0 m1 m2 m3 m4 m5 m6 m7 m8 m9 m10 m11 m12 u0 u1 u2 u3 u4 : Int32} {m13 m14 m15 m16 m18 m19 m20 m21 u7 u8 u9 u10 u11 u12 u13 u14 u15 u16 u17 u18 : Nat → Int32} {m17 u6 : Nat → Int64} {N : Nat} {P_event : Nat → Int64} {p1 : Int32} {p2 : Int64} {o : Int32} (h : f_M_find N P_event p1 p2 = some o) : Ct g mX11_find 1 0 0 [.ref (ap 1), .int p1, .long p2] (wlM g am pm m0 m1 m2 m3 m4 m5 m6 m7 m8 m9 m10 m11 m12 m13 m14 m15 m16 m17 m18 m19 m20 m21 ++ (wlP g ap u0 u1 u2 u3 u4 P_event u6 u7 u8 u9 u10 u11 u12 u13 u14 u15 u16 u17 u18 ++ t)) (Dv (some (.int o)) (wlM g am pm m0 m1 m2 m3 m4 m5 m6 m7 m8 m9 m10 m11 m12 m13 m14 m15 m16 m17 m18 m19 m20 m21 ++ (wlP g ap u0 u1 u2 u3 u4 P_event u6 u7 u8 u9 u10 u11 u12 u13 u14 u15 u16 u17 u18 ++ t))) := Ct.ofR (by decide +kernel) rfl (Nat.le_of_ble_eq_true rfl) (rt_M_find h ⟨rfl, rfl⟩)
set_option maxRecDepth 20000 in
set_option maxHeartbeats 4000000 in
theorem rt_M_newEvent {g : GG} {am : Nat → Nat} {ap : Nat → Nat} {pm : Nat} {t : va_W} {m0 m1 m2 m3 m4 m5 m6 m7 m8 m9 m10 m11 m12 u1 u2 u3 u4 : Int32} {m13 m14 m15 m16 m18 m19 m20 m21 u7 u8 u9 u10 u11 u12 u13 u14 u15 u16 u17 u18 : Nat → Int32} {m17 u6 : Nat → Int64} {N : Nat} {P_events : Int32} {P_event : Nat → Int64} {p2 : Int64} {o : Int32 × Int32 × (Nat → Int64)} {Q : Rs → va_W → Prop} (h : f_M_newEvent N P_events P_event p2 = some o) (hq : Q (.inl (some (.int o.1))) (wlM g am pm m0 m1 m2 m3 m4 m5 m6 m7 m8 m9 m10 m11 m12 m13 m14 m15 m16 m17 m18 m19 m20 m21 ++ (wlP g ap o.2.1 u1 u2 u3 u4 o.2.2 u6 u7 u8 u9 u10 u11 u12 u13 u14 u15 u16 u17 u18 ++ t))) : R g mX11_newEvent 2 0 0 0 [(0, .ref (am 0)), (1, .ref (ap 0)), (2, .long p2)] [] (wlM g am pm m0 m1 m2 m3 m4 m5 m6 m7 m8 m9 m10 m11 m12 m13 m14 m15 m16 m17 m18 m19 m20 m21 ++ (wlP g ap P_events u1 u2 u3 u4 P_event u6 u7 u8 u9 u10 u11 u12 u13 u14 u15 u16 u17 u18 ++ t)) Q := by
  unfold f_M_newEvent at h
  refine r_aload_n 1 dX11_newEvent_0 rfl ?_
  refine r_getf (v := .ref (ap 1)) _ dX11_newEvent_1 fl_X11_320 lP_0 rfl ?_
  refine r_aload_n 1 dX11_newEvent_4 rfl ?_
  refine r_getf (v := .int P_events) _ dX11_newEvent_5 fl_X11_55 lP_0 rfl ?_
  refine r_lload_n 2 dX11_newEvent_8 rfl ?_
  obtain ⟨r1987, hc1988, h⟩ := ob (fun z9 => z9) rfl h
  refine c_S (rest := []) 0 0 dX11_newEvent_9 ks_X11_323 (ct_M_find hc1988) rfl rfl (Nat.le_of_ble_eq_true rfl) (by decide) (by decide) ?_
  refine r_iconst (v := (-1 : Int32)) dX11_newEvent_12 (by decide) ?_
  refine r_icmp_eq (tgt := 18) dX11_newEvent_13 (by decide) (fun hc1989 => ?_) (fun hc1989 => ?_)
  · have h := ip (fun z9 => z9) hc1989 h
    refine r_aload_n 1 dX11_newEvent_18 rfl ?_
    refine r_getf (v := .int P_events) _ dX11_newEvent_19 fl_X11_55 lP_0 rfl ?_
    refine r_bipush (v := (8 : Int32)) dX11_newEvent_22 (by decide) ?_
    refine r_icmp_ne (tgt := 29) dX11_newEvent_24 (by decide) (fun hc1990 => ?_) (fun hc1990 => ?_)
    · have h := iq (fun z9 => z9) hc1990 h
      refine r_aload_n 1 dX11_newEvent_29 rfl ?_
      refine r_getf (v := .ref (ap 1)) _ dX11_newEvent_30 fl_X11_320 lP_0 rfl ?_
      refine r_aload_n 1 dX11_newEvent_33 rfl ?_
      refine r_getf (v := .int P_events) _ dX11_newEvent_34 fl_X11_55 lP_0 rfl ?_
      refine r_lload_n 2 dX11_newEvent_37 rfl ?_
      obtain ⟨hb1991, h⟩ := gd (fun z9 => z9) rfl h
      refine r_last _ dX11_newEvent_38 lP_1 hb1991 (sP_5 _) ?_
      refine r_aload_n 1 dX11_newEvent_39 rfl ?_
      refine r_dup dX11_newEvent_40 rfl ?_
      refine r_getf (v := .int P_events) _ dX11_newEvent_41 fl_X11_55 lP_0 rfl ?_
      refine r_iconst (v := (1 : Int32)) dX11_newEvent_44 (by decide) ?_
      refine r_iadd dX11_newEvent_45 ?_
      refine r_putf _ dX11_newEvent_46 fl_X11_55 lP_0 (Nat.le_of_ble_eq_true rfl) rfl rfl (sP_0 _) ?_
      refine r_iconst (v := (0 : Int32)) dX11_newEvent_49 (by decide) ?_
      refine r_iret dX11_newEvent_50 rfl ?_
      have h := Option.some.inj (show some _ = some o from h)
      subst h
      exact hq
    · have h := ip (fun z9 => z9) hc1990 h
      refine r_iconst (v := (4 : Int32)) dX11_newEvent_27 (by decide) ?_
      refine r_iret dX11_newEvent_28 rfl ?_
      have h := Option.some.inj (show some _ = some o from h)
      subst h
      exact hq
  · have h := iq (fun z9 => z9) hc1989 h
    refine r_iconst (v := (2 : Int32)) dX11_newEvent_16 (by decide) ?_
    refine r_iret dX11_newEvent_17 rfl ?_
    have h := Option.some.inj (show some _ = some o from h)
    subst h
    exact hq
theorem ct_M_newEvent {g : GG} {am : Nat → Nat} {ap : Nat → Nat} {pm : Nat} {t : va_W} {m0 m1 m2 m3 m4 m5 m6 m7 m8 m9 m10 m11 m12 u1 u2 u3 u4 : Int32} {m13 m14 m15 m16 m18 m19 m20 m21 u7 u8 u9 u10 u11 u12 u13 u14 u15 u16 u17 u18 : Nat → Int32} {m17 u6 : Nat → Int64} {N : Nat} {P_events : Int32} {P_event : Nat → Int64} {p2 : Int64} {o : Int32 × Int32 × (Nat → Int64)} (h : f_M_newEvent N P_events P_event p2 = some o) : Ct g mX11_newEvent 2 0 0 [.ref (am 0), .ref (ap 0), .long p2] (wlM g am pm m0 m1 m2 m3 m4 m5 m6 m7 m8 m9 m10 m11 m12 m13 m14 m15 m16 m17 m18 m19 m20 m21 ++ (wlP g ap P_events u1 u2 u3 u4 P_event u6 u7 u8 u9 u10 u11 u12 u13 u14 u15 u16 u17 u18 ++ t)) (Dv (some (.int o.1)) (wlM g am pm m0 m1 m2 m3 m4 m5 m6 m7 m8 m9 m10 m11 m12 m13 m14 m15 m16 m17 m18 m19 m20 m21 ++ (wlP g ap o.2.1 u1 u2 u3 u4 o.2.2 u6 u7 u8 u9 u10 u11 u12 u13 u14 u15 u16 u17 u18 ++ t))) := Ct.ofR (by decide +kernel) rfl (Nat.le_of_ble_eq_true rfl) (rt_M_newEvent h ⟨rfl, rfl⟩)
set_option maxRecDepth 20000 in
set_option maxHeartbeats 4000000 in
theorem rt_M_find_v1 {g : GG} {am : Nat → Nat} {ap : Nat → Nat} {pm : Nat} {t : va_W} {m0 m1 m2 m3 m4 m5 m6 m7 m8 m9 m10 m11 m12 u0 u1 u2 u3 u4 : Int32} {m13 m14 m15 m16 m18 m19 m20 m21 u7 u8 u9 u10 u11 u12 u13 u14 u15 u16 u17 u18 : Nat → Int32} {m17 u5 : Nat → Int64} {N : Nat} {P_teller : Nat → Int64} {p1 : Int32} {p2 : Int64} {o : Int32} {Q : Rs → va_W → Prop} (h : f_M_find_v1 N P_teller p1 p2 = some o) (hq : Q (.inl (some (.int o))) (wlM g am pm m0 m1 m2 m3 m4 m5 m6 m7 m8 m9 m10 m11 m12 m13 m14 m15 m16 m17 m18 m19 m20 m21 ++ (wlP g ap u0 u1 u2 u3 u4 u5 P_teller u7 u8 u9 u10 u11 u12 u13 u14 u15 u16 u17 u18 ++ t))) : R g mX11_find 1 0 0 0 [(0, .ref (ap 2)), (1, .int p1), (2, .long p2)] [] (wlM g am pm m0 m1 m2 m3 m4 m5 m6 m7 m8 m9 m10 m11 m12 m13 m14 m15 m16 m17 m18 m19 m20 m21 ++ (wlP g ap u0 u1 u2 u3 u4 u5 P_teller u7 u8 u9 u10 u11 u12 u13 u14 u15 u16 u17 u18 ++ t)) Q := by
  unfold f_M_find_v1 at h
  refine r_iconst (v := (0 : Int32)) dX11_find_0 (by decide) ?_
  refine r_istore [(4, .int (0 : Int32)), (0, .ref (ap 2)), (1, .int p1), (2, .long p2)] dX11_find_1 (by decide) rfl ?_
  refine r_ls [1, 2, 3, 0] (ls2 := [(0, .ref (ap 2)), (1, .int p1), (2, .long p2), (4, .int (0 : Int32))]) rfl ?_
  have L1 : ∀ (n1 : Nat) (l4_1 : Int32), (fun z9 => z9) (lpS (f_M_find_v1_L3 P_teller p1 p2) none n1 l4_1) = some o → R g mX11_find 1 0 0 3 [(0, .ref (ap 2)), (1, .int p1), (2, .long p2), (4, .int l4_1)] [] (wlM g am pm m0 m1 m2 m3 m4 m5 m6 m7 m8 m9 m10 m11 m12 m13 m14 m15 m16 m17 m18 m19 m20 m21 ++ (wlP g ap u0 u1 u2 u3 u4 u5 P_teller u7 u8 u9 u10 u11 u12 u13 u14 u15 u16 u17 u18 ++ t)) Q := by
    intro n1
    induction n1 with
    | zero => intro l4_1 h; exact nomatch (show (none : Option _) = some _ from h)
    | succ n1 ih1 =>
      intro l4_1 h
      have h : (fun z9 => (lC (f_M_find_v1_L3 P_teller p1 p2) none n1 z9)) (f_M_find_v1_L3 P_teller p1 p2 l4_1) = some o := h
      unfold f_M_find_v1_L3 at h
      try dsimp only at h
      refine r_iload 3 dX11_find_3 rfl ?_
      refine r_iload_n 1 dX11_find_5 rfl ?_
      refine r_icmp_ge (tgt := 27) dX11_find_6 (by decide) (fun hc1992 => ?_) (fun hc1992 => ?_)
      · have h := ip (fun z9 => (lC (f_M_find_v1_L3 P_teller p1 p2) none n1 z9)) hc1992 h
        refine r_iconst (v := (-1 : Int32)) dX11_find_27 (by decide) ?_
        refine r_iret dX11_find_28 rfl ?_
        have h := Option.some.inj (show some _ = some o from h)
        subst h
        exact hq
      · have h := iq (fun z9 => (lC (f_M_find_v1_L3 P_teller p1 p2) none n1 z9)) hc1992 h
        refine r_aload_n 0 dX11_find_9 rfl ?_
        refine r_iload 3 dX11_find_10 rfl ?_
        obtain ⟨hb1993, h⟩ := gd (fun z9 => (lC (f_M_find_v1_L3 P_teller p1 p2) none n1 z9)) rfl h
        refine r_lald _ dX11_find_12 lP_2 hb1993 ?_
        refine r_lload_n 2 dX11_find_13 rfl ?_
        refine r_lcmp dX11_find_14 ?_
        refine r_if_ne (tgt := 21) dX11_find_15 (by decide) (fun hc1994 => ?_) (fun hc1994 => ?_)
        · have h := iq (fun z9 => (lC (f_M_find_v1_L3 P_teller p1 p2) none n1 z9)) hc1994 h
          refine r_iinc (v2 := (l4_1 + (1 : Int32))) 3 [(4, .int (l4_1 + (1 : Int32))), (0, .ref (ap 2)), (1, .int p1), (2, .long p2)] dX11_find_21 rfl rfl (by decide) rfl ?_
          refine r_goto (tgt := 3) dX11_find_24 (by decide) ?_
          refine r_ls [1, 2, 3, 0] (ls2 := [(0, .ref (ap 2)), (1, .int p1), (2, .long p2), (4, .int (l4_1 + (1 : Int32)))]) rfl ?_
          exact ih1 (l4_1 + (1 : Int32)) h
        · have h := ip (fun z9 => (lC (f_M_find_v1_L3 P_teller p1 p2) none n1 z9)) hc1994 h
          refine r_iload 3 dX11_find_18 rfl ?_
          refine r_iret dX11_find_20 rfl ?_
          have h := Option.some.inj (show some _ = some o from h)
          subst h
          exact hq
  exact L1 _ (0 : Int32) h
theorem ct_M_find_v1 {g : GG} {am : Nat → Nat} {ap : Nat → Nat} {pm : Nat} {t : va_W} {m0 m1 m2 m3 m4 m5 m6 m7 m8 m9 m10 m11 m12 u0 u1 u2 u3 u4 : Int32} {m13 m14 m15 m16 m18 m19 m20 m21 u7 u8 u9 u10 u11 u12 u13 u14 u15 u16 u17 u18 : Nat → Int32} {m17 u5 : Nat → Int64} {N : Nat} {P_teller : Nat → Int64} {p1 : Int32} {p2 : Int64} {o : Int32} (h : f_M_find_v1 N P_teller p1 p2 = some o) : Ct g mX11_find 1 0 0 [.ref (ap 2), .int p1, .long p2] (wlM g am pm m0 m1 m2 m3 m4 m5 m6 m7 m8 m9 m10 m11 m12 m13 m14 m15 m16 m17 m18 m19 m20 m21 ++ (wlP g ap u0 u1 u2 u3 u4 u5 P_teller u7 u8 u9 u10 u11 u12 u13 u14 u15 u16 u17 u18 ++ t)) (Dv (some (.int o)) (wlM g am pm m0 m1 m2 m3 m4 m5 m6 m7 m8 m9 m10 m11 m12 m13 m14 m15 m16 m17 m18 m19 m20 m21 ++ (wlP g ap u0 u1 u2 u3 u4 u5 P_teller u7 u8 u9 u10 u11 u12 u13 u14 u15 u16 u17 u18 ++ t))) := Ct.ofR (by decide +kernel) rfl (Nat.le_of_ble_eq_true rfl) (rt_M_find_v1 h ⟨rfl, rfl⟩)
set_option maxRecDepth 20000 in
set_option maxHeartbeats 4000000 in
theorem rt_M_newTeller {g : GG} {am : Nat → Nat} {ap : Nat → Nat} {pm : Nat} {t : va_W} {m0 m1 m2 m3 m4 m5 m6 m7 m8 m9 m10 m11 m12 u0 u2 u3 u4 : Int32} {m13 m14 m15 m16 m18 m19 m20 m21 u7 u8 u9 u10 u11 u12 u13 u14 u15 u16 u17 u18 : Nat → Int32} {m17 u5 : Nat → Int64} {N : Nat} {P_tellers : Int32} {P_teller : Nat → Int64} {p2 : Int64} {o : Int32 × Int32 × (Nat → Int64)} {Q : Rs → va_W → Prop} (h : f_M_newTeller N P_tellers P_teller p2 = some o) (hq : Q (.inl (some (.int o.1))) (wlM g am pm m0 m1 m2 m3 m4 m5 m6 m7 m8 m9 m10 m11 m12 m13 m14 m15 m16 m17 m18 m19 m20 m21 ++ (wlP g ap u0 o.2.1 u2 u3 u4 u5 o.2.2 u7 u8 u9 u10 u11 u12 u13 u14 u15 u16 u17 u18 ++ t))) : R g mX11_newTeller 2 0 0 0 [(0, .ref (am 0)), (1, .ref (ap 0)), (2, .long p2)] [] (wlM g am pm m0 m1 m2 m3 m4 m5 m6 m7 m8 m9 m10 m11 m12 m13 m14 m15 m16 m17 m18 m19 m20 m21 ++ (wlP g ap u0 P_tellers u2 u3 u4 u5 P_teller u7 u8 u9 u10 u11 u12 u13 u14 u15 u16 u17 u18 ++ t)) Q := by
  unfold f_M_newTeller at h
  refine r_aload_n 1 dX11_newTeller_0 rfl ?_
  refine r_getf (v := .ref (ap 2)) _ dX11_newTeller_1 fl_X11_327 lP_0 rfl ?_
  refine r_aload_n 1 dX11_newTeller_4 rfl ?_
  refine r_getf (v := .int P_tellers) _ dX11_newTeller_5 fl_X11_62 lP_0 rfl ?_
  refine r_lload_n 2 dX11_newTeller_8 rfl ?_
  obtain ⟨r1995, hc1996, h⟩ := ob (fun z9 => z9) rfl h
  refine c_S (rest := []) 0 0 dX11_newTeller_9 ks_X11_323 (ct_M_find_v1 hc1996) rfl rfl (Nat.le_of_ble_eq_true rfl) (by decide) (by decide) ?_
  refine r_iconst (v := (-1 : Int32)) dX11_newTeller_12 (by decide) ?_
  refine r_icmp_eq (tgt := 18) dX11_newTeller_13 (by decide) (fun hc1997 => ?_) (fun hc1997 => ?_)
  · have h := ip (fun z9 => z9) hc1997 h
    refine r_aload_n 1 dX11_newTeller_18 rfl ?_
    refine r_getf (v := .int P_tellers) _ dX11_newTeller_19 fl_X11_62 lP_0 rfl ?_
    refine r_bipush (v := (10 : Int32)) dX11_newTeller_22 (by decide) ?_
    refine r_icmp_ne (tgt := 29) dX11_newTeller_24 (by decide) (fun hc1998 => ?_) (fun hc1998 => ?_)
    · have h := iq (fun z9 => z9) hc1998 h
      refine r_aload_n 1 dX11_newTeller_29 rfl ?_
      refine r_getf (v := .ref (ap 2)) _ dX11_newTeller_30 fl_X11_327 lP_0 rfl ?_
      refine r_aload_n 1 dX11_newTeller_33 rfl ?_
      refine r_getf (v := .int P_tellers) _ dX11_newTeller_34 fl_X11_62 lP_0 rfl ?_
      refine r_lload_n 2 dX11_newTeller_37 rfl ?_
      obtain ⟨hb1999, h⟩ := gd (fun z9 => z9) rfl h
      refine r_last _ dX11_newTeller_38 lP_2 hb1999 (sP_6 _) ?_
      refine r_aload_n 1 dX11_newTeller_39 rfl ?_
      refine r_dup dX11_newTeller_40 rfl ?_
      refine r_getf (v := .int P_tellers) _ dX11_newTeller_41 fl_X11_62 lP_0 rfl ?_
      refine r_iconst (v := (1 : Int32)) dX11_newTeller_44 (by decide) ?_
      refine r_iadd dX11_newTeller_45 ?_
      refine r_putf _ dX11_newTeller_46 fl_X11_62 lP_0 (Nat.le_of_ble_eq_true rfl) rfl rfl (sP_1 _) ?_
      refine r_iconst (v := (0 : Int32)) dX11_newTeller_49 (by decide) ?_
      refine r_iret dX11_newTeller_50 rfl ?_
      have h := Option.some.inj (show some _ = some o from h)
      subst h
      exact hq
    · have h := ip (fun z9 => z9) hc1998 h
      refine r_iconst (v := (4 : Int32)) dX11_newTeller_27 (by decide) ?_
      refine r_iret dX11_newTeller_28 rfl ?_
      have h := Option.some.inj (show some _ = some o from h)
      subst h
      exact hq
  · have h := iq (fun z9 => z9) hc1997 h
    refine r_iconst (v := (2 : Int32)) dX11_newTeller_16 (by decide) ?_
    refine r_iret dX11_newTeller_17 rfl ?_
    have h := Option.some.inj (show some _ = some o from h)
    subst h
    exact hq
theorem ct_M_newTeller {g : GG} {am : Nat → Nat} {ap : Nat → Nat} {pm : Nat} {t : va_W} {m0 m1 m2 m3 m4 m5 m6 m7 m8 m9 m10 m11 m12 u0 u2 u3 u4 : Int32} {m13 m14 m15 m16 m18 m19 m20 m21 u7 u8 u9 u10 u11 u12 u13 u14 u15 u16 u17 u18 : Nat → Int32} {m17 u5 : Nat → Int64} {N : Nat} {P_tellers : Int32} {P_teller : Nat → Int64} {p2 : Int64} {o : Int32 × Int32 × (Nat → Int64)} (h : f_M_newTeller N P_tellers P_teller p2 = some o) : Ct g mX11_newTeller 2 0 0 [.ref (am 0), .ref (ap 0), .long p2] (wlM g am pm m0 m1 m2 m3 m4 m5 m6 m7 m8 m9 m10 m11 m12 m13 m14 m15 m16 m17 m18 m19 m20 m21 ++ (wlP g ap u0 P_tellers u2 u3 u4 u5 P_teller u7 u8 u9 u10 u11 u12 u13 u14 u15 u16 u17 u18 ++ t)) (Dv (some (.int o.1)) (wlM g am pm m0 m1 m2 m3 m4 m5 m6 m7 m8 m9 m10 m11 m12 m13 m14 m15 m16 m17 m18 m19 m20 m21 ++ (wlP g ap u0 o.2.1 u2 u3 u4 u5 o.2.2 u7 u8 u9 u10 u11 u12 u13 u14 u15 u16 u17 u18 ++ t))) := Ct.ofR (by decide +kernel) rfl (Nat.le_of_ble_eq_true rfl) (rt_M_newTeller h ⟨rfl, rfl⟩)
set_option maxRecDepth 20000 in
set_option maxHeartbeats 4000000 in
theorem rt_M_anEvent {g : GG} {am : Nat → Nat} {ap : Nat → Nat} {pm : Nat} {t : va_W} {m0 m1 m2 m3 m4 m5 m6 m7 m8 m9 m10 m11 m12 u1 u2 u3 u4 : Int32} {m13 m14 m15 m16 m19 m20 m21 u7 u8 u9 u10 u11 u12 u13 u14 u15 u16 u17 u18 : Nat → Int32} {u6 : Nat → Int64} {N : Nat} {M_value : Nat → Int64} {M_who : Nat → Int32} {P_events : Int32} {P_event : Nat → Int64} {p2 : Int32} {o : Int32 × (Nat → Int32)} {Q : Rs → va_W → Prop} (h : f_M_anEvent N M_value M_who P_events P_event p2 = some o) (hq : Q (.inl (some (.int o.1))) (wlM g am pm m0 m1 m2 m3 m4 m5 m6 m7 m8 m9 m10 m11 m12 m13 m14 m15 m16 M_value o.2 m19 m20 m21 ++ (wlP g ap P_events u1 u2 u3 u4 P_event u6 u7 u8 u9 u10 u11 u12 u13 u14 u15 u16 u17 u18 ++ t))) : R g mX11_anEvent 2 0 0 0 [(0, .ref (am 0)), (1, .ref (ap 0)), (2, .int p2)] [] (wlM g am pm m0 m1 m2 m3 m4 m5 m6 m7 m8 m9 m10 m11 m12 m13 m14 m15 m16 M_value M_who m19 m20 m21 ++ (wlP g ap P_events u1 u2 u3 u4 P_event u6 u7 u8 u9 u10 u11 u12 u13 u14 u15 u16 u17 u18 ++ t)) Q := by
  unfold f_M_anEvent at h
  refine r_aload_n 0 dX11_anEvent_0 rfl ?_
  refine r_getf (v := .ref (am 6)) _ dX11_anEvent_1 fl_X11_37 lM_0 rfl ?_
  refine r_iload_n 2 dX11_anEvent_4 rfl ?_
  refine r_aload_n 1 dX11_anEvent_5 rfl ?_
  refine r_getf (v := .ref (ap 1)) _ dX11_anEvent_6 fl_X11_320 lP_0 rfl ?_
  refine r_aload_n 1 dX11_anEvent_9 rfl ?_
  refine r_getf (v := .int P_events) _ dX11_anEvent_10 fl_X11_55 lP_0 rfl ?_
  refine r_aload_n 0 dX11_anEvent_13 rfl ?_
  refine r_getf (v := .ref (am 5)) _ dX11_anEvent_14 fl_X11_33 lM_0 rfl ?_
  refine r_iload_n 2 dX11_anEvent_17 rfl ?_
  obtain ⟨hb2000, h⟩ := gd (fun z9 => z9) rfl h
  refine r_lald _ dX11_anEvent_18 lM_5 hb2000 ?_
  obtain ⟨r2001, hc2002, h⟩ := ob (fun z9 => z9) rfl h
  refine c_S (rest := [.int p2, .ref (am 6)]) 0 0 dX11_anEvent_19 ks_X11_323 (ct_M_find hc2002) rfl rfl (Nat.le_of_ble_eq_true rfl) (by decide) (by decide) ?_
  obtain ⟨hb2003, h⟩ := gd (fun z9 => z9) rfl h
  refine r_iast _ dX11_anEvent_22 lM_6 hb2003 (sM_18 _) ?_
  refine r_aload_n 0 dX11_anEvent_23 rfl ?_
  refine r_getf (v := .ref (am 6)) _ dX11_anEvent_24 fl_X11_37 lM_0 rfl ?_
  refine r_iload_n 2 dX11_anEvent_27 rfl ?_
  obtain ⟨hb2004, h⟩ := gd (fun z9 => z9) rfl h
  refine r_iald _ dX11_anEvent_28 lM_6 hb2004 ?_
  refine r_iconst (v := (-1 : Int32)) dX11_anEvent_29 (by decide) ?_
  refine r_icmp_ne (tgt := 37) dX11_anEvent_30 (by decide) (fun hc2005 => ?_) (fun hc2005 => ?_)
  · have h := iq (fun z9 => z9) hc2005 h
    refine r_iconst (v := (0 : Int32)) dX11_anEvent_37 (by decide) ?_
    refine r_iret dX11_anEvent_38 rfl ?_
    have h := Option.some.inj (show some _ = some o from h)
    subst h
    exact hq
  · have h := ip (fun z9 => z9) hc2005 h
    refine r_iconst (v := (3 : Int32)) dX11_anEvent_33 (by decide) ?_
    refine r_goto (tgt := 38) dX11_anEvent_34 (by decide) ?_
    refine r_iret dX11_anEvent_38 rfl ?_
    have h := Option.some.inj (show some _ = some o from h)
    subst h
    exact hq
theorem ct_M_anEvent {g : GG} {am : Nat → Nat} {ap : Nat → Nat} {pm : Nat} {t : va_W} {m0 m1 m2 m3 m4 m5 m6 m7 m8 m9 m10 m11 m12 u1 u2 u3 u4 : Int32} {m13 m14 m15 m16 m19 m20 m21 u7 u8 u9 u10 u11 u12 u13 u14 u15 u16 u17 u18 : Nat → Int32} {u6 : Nat → Int64} {N : Nat} {M_value : Nat → Int64} {M_who : Nat → Int32} {P_events : Int32} {P_event : Nat → Int64} {p2 : Int32} {o : Int32 × (Nat → Int32)} (h : f_M_anEvent N M_value M_who P_events P_event p2 = some o) : Ct g mX11_anEvent 2 0 0 [.ref (am 0), .ref (ap 0), .int p2] (wlM g am pm m0 m1 m2 m3 m4 m5 m6 m7 m8 m9 m10 m11 m12 m13 m14 m15 m16 M_value M_who m19 m20 m21 ++ (wlP g ap P_events u1 u2 u3 u4 P_event u6 u7 u8 u9 u10 u11 u12 u13 u14 u15 u16 u17 u18 ++ t)) (Dv (some (.int o.1)) (wlM g am pm m0 m1 m2 m3 m4 m5 m6 m7 m8 m9 m10 m11 m12 m13 m14 m15 m16 M_value o.2 m19 m20 m21 ++ (wlP g ap P_events u1 u2 u3 u4 P_event u6 u7 u8 u9 u10 u11 u12 u13 u14 u15 u16 u17 u18 ++ t))) := Ct.ofR (by decide +kernel) rfl (Nat.le_of_ble_eq_true rfl) (rt_M_anEvent h ⟨rfl, rfl⟩)
set_option maxRecDepth 20000 in
set_option maxHeartbeats 4000000 in
theorem rt_M_aTeller {g : GG} {am : Nat → Nat} {ap : Nat → Nat} {pm : Nat} {t : va_W} {m0 m1 m2 m3 m4 m5 m6 m7 m8 m9 m10 m11 m12 u0 u2 u3 u4 : Int32} {m13 m14 m15 m16 m19 m20 m21 u7 u8 u9 u10 u11 u12 u13 u14 u15 u16 u17 u18 : Nat → Int32} {u5 : Nat → Int64} {N : Nat} {M_value : Nat → Int64} {M_who : Nat → Int32} {P_tellers : Int32} {P_teller : Nat → Int64} {p2 : Int32} {o : Int32 × (Nat → Int32)} {Q : Rs → va_W → Prop} (h : f_M_aTeller N M_value M_who P_tellers P_teller p2 = some o) (hq : Q (.inl (some (.int o.1))) (wlM g am pm m0 m1 m2 m3 m4 m5 m6 m7 m8 m9 m10 m11 m12 m13 m14 m15 m16 M_value o.2 m19 m20 m21 ++ (wlP g ap u0 P_tellers u2 u3 u4 u5 P_teller u7 u8 u9 u10 u11 u12 u13 u14 u15 u16 u17 u18 ++ t))) : R g mX11_aTeller 2 0 0 0 [(0, .ref (am 0)), (1, .ref (ap 0)), (2, .int p2)] [] (wlM g am pm m0 m1 m2 m3 m4 m5 m6 m7 m8 m9 m10 m11 m12 m13 m14 m15 m16 M_value M_who m19 m20 m21 ++ (wlP g ap u0 P_tellers u2 u3 u4 u5 P_teller u7 u8 u9 u10 u11 u12 u13 u14 u15 u16 u17 u18 ++ t)) Q := by
  unfold f_M_aTeller at h
  refine r_aload_n 0 dX11_aTeller_0 rfl ?_
  refine r_getf (v := .ref (am 6)) _ dX11_aTeller_1 fl_X11_37 lM_0 rfl ?_
  refine r_iload_n 2 dX11_aTeller_4 rfl ?_
  refine r_aload_n 1 dX11_aTeller_5 rfl ?_
  refine r_getf (v := .ref (ap 2)) _ dX11_aTeller_6 fl_X11_327 lP_0 rfl ?_
  refine r_aload_n 1 dX11_aTeller_9 rfl ?_
  refine r_getf (v := .int P_tellers) _ dX11_aTeller_10 fl_X11_62 lP_0 rfl ?_
  refine r_aload_n 0 dX11_aTeller_13 rfl ?_
  refine r_getf (v := .ref (am 5)) _ dX11_aTeller_14 fl_X11_33 lM_0 rfl ?_
  refine r_iload_n 2 dX11_aTeller_17 rfl ?_
  obtain ⟨hb2006, h⟩ := gd (fun z9 => z9) rfl h
  refine r_lald _ dX11_aTeller_18 lM_5 hb2006 ?_
  obtain ⟨r2007, hc2008, h⟩ := ob (fun z9 => z9) rfl h
  refine c_S (rest := [.int p2, .ref (am 6)]) 0 0 dX11_aTeller_19 ks_X11_323 (ct_M_find_v1 hc2008) rfl rfl (Nat.le_of_ble_eq_true rfl) (by decide) (by decide) ?_
  obtain ⟨hb2009, h⟩ := gd (fun z9 => z9) rfl h
  refine r_iast _ dX11_aTeller_22 lM_6 hb2009 (sM_18 _) ?_
  refine r_aload_n 0 dX11_aTeller_23 rfl ?_
  refine r_getf (v := .ref (am 6)) _ dX11_aTeller_24 fl_X11_37 lM_0 rfl ?_
  refine r_iload_n 2 dX11_aTeller_27 rfl ?_
  obtain ⟨hb2010, h⟩ := gd (fun z9 => z9) rfl h
  refine r_iald _ dX11_aTeller_28 lM_6 hb2010 ?_
  refine r_iconst (v := (-1 : Int32)) dX11_aTeller_29 (by decide) ?_
  refine r_icmp_ne (tgt := 37) dX11_aTeller_30 (by decide) (fun hc2011 => ?_) (fun hc2011 => ?_)
  · have h := iq (fun z9 => z9) hc2011 h
    refine r_iconst (v := (0 : Int32)) dX11_aTeller_37 (by decide) ?_
    refine r_iret dX11_aTeller_38 rfl ?_
    have h := Option.some.inj (show some _ = some o from h)
    subst h
    exact hq
  · have h := ip (fun z9 => z9) hc2011 h
    refine r_iconst (v := (3 : Int32)) dX11_aTeller_33 (by decide) ?_
    refine r_goto (tgt := 38) dX11_aTeller_34 (by decide) ?_
    refine r_iret dX11_aTeller_38 rfl ?_
    have h := Option.some.inj (show some _ = some o from h)
    subst h
    exact hq
theorem ct_M_aTeller {g : GG} {am : Nat → Nat} {ap : Nat → Nat} {pm : Nat} {t : va_W} {m0 m1 m2 m3 m4 m5 m6 m7 m8 m9 m10 m11 m12 u0 u2 u3 u4 : Int32} {m13 m14 m15 m16 m19 m20 m21 u7 u8 u9 u10 u11 u12 u13 u14 u15 u16 u17 u18 : Nat → Int32} {u5 : Nat → Int64} {N : Nat} {M_value : Nat → Int64} {M_who : Nat → Int32} {P_tellers : Int32} {P_teller : Nat → Int64} {p2 : Int32} {o : Int32 × (Nat → Int32)} (h : f_M_aTeller N M_value M_who P_tellers P_teller p2 = some o) : Ct g mX11_aTeller 2 0 0 [.ref (am 0), .ref (ap 0), .int p2] (wlM g am pm m0 m1 m2 m3 m4 m5 m6 m7 m8 m9 m10 m11 m12 m13 m14 m15 m16 M_value M_who m19 m20 m21 ++ (wlP g ap u0 P_tellers u2 u3 u4 u5 P_teller u7 u8 u9 u10 u11 u12 u13 u14 u15 u16 u17 u18 ++ t)) (Dv (some (.int o.1)) (wlM g am pm m0 m1 m2 m3 m4 m5 m6 m7 m8 m9 m10 m11 m12 m13 m14 m15 m16 M_value o.2 m19 m20 m21 ++ (wlP g ap u0 P_tellers u2 u3 u4 u5 P_teller u7 u8 u9 u10 u11 u12 u13 u14 u15 u16 u17 u18 ++ t))) := Ct.ofR (by decide +kernel) rfl (Nat.le_of_ble_eq_true rfl) (rt_M_aTeller h ⟨rfl, rfl⟩)
set_option maxRecDepth 20000 in
set_option maxHeartbeats 4000000 in
theorem rt_M_newClaim {g : GG} {am : Nat → Nat} {ap : Nat → Nat} {pm : Nat} {t : va_W} {m0 m1 m2 m3 m4 m5 m6 m7 m8 m9 m10 m11 m12 u0 u1 u3 u4 : Int32} {m13 m14 m15 m16 m18 m19 m20 m21 u7 u8 u9 u10 u11 u12 u13 u14 u15 u16 u17 u18 : Nat → Int32} {m17 u5 u6 : Nat → Int64} {P_claims : Int32} {o : Int32 × Int32} {Q : Rs → va_W → Prop} (h : f_M_newClaim P_claims = some o) (hq : Q (.inl (some (.int o.1))) (wlM g am pm m0 m1 m2 m3 m4 m5 m6 m7 m8 m9 m10 m11 m12 m13 m14 m15 m16 m17 m18 m19 m20 m21 ++ (wlP g ap u0 u1 o.2 u3 u4 u5 u6 u7 u8 u9 u10 u11 u12 u13 u14 u15 u16 u17 u18 ++ t))) : R g mX11_newClaim 1 0 0 0 [(0, .ref (am 0)), (1, .ref (ap 0))] [] (wlM g am pm m0 m1 m2 m3 m4 m5 m6 m7 m8 m9 m10 m11 m12 m13 m14 m15 m16 m17 m18 m19 m20 m21 ++ (wlP g ap u0 u1 P_claims u3 u4 u5 u6 u7 u8 u9 u10 u11 u12 u13 u14 u15 u16 u17 u18 ++ t)) Q := by
  unfold f_M_newClaim at h
  refine r_aload_n 1 dX11_newClaim_0 rfl ?_
  refine r_getf (v := .int P_claims) _ dX11_newClaim_1 fl_X11_65 lP_0 rfl ?_
  refine r_bipush (v := (40 : Int32)) dX11_newClaim_4 (by decide) ?_
  refine r_icmp_ne (tgt := 11) dX11_newClaim_6 (by decide) (fun hc2012 => ?_) (fun hc2012 => ?_)
  · have h := iq (fun z9 => z9) hc2012 h
    refine r_aload_n 1 dX11_newClaim_11 rfl ?_
    refine r_dup dX11_newClaim_12 rfl ?_
    refine r_getf (v := .int P_claims) _ dX11_newClaim_13 fl_X11_65 lP_0 rfl ?_
    refine r_iconst (v := (1 : Int32)) dX11_newClaim_16 (by decide) ?_
    refine r_iadd dX11_newClaim_17 ?_
    refine r_putf _ dX11_newClaim_18 fl_X11_65 lP_0 (Nat.le_of_ble_eq_true rfl) rfl rfl (sP_2 _) ?_
    refine r_iconst (v := (0 : Int32)) dX11_newClaim_21 (by decide) ?_
    refine r_iret dX11_newClaim_22 rfl ?_
    have h := Option.some.inj (show some _ = some o from h)
    subst h
    exact hq
  · have h := ip (fun z9 => z9) hc2012 h
    refine r_iconst (v := (4 : Int32)) dX11_newClaim_9 (by decide) ?_
    refine r_iret dX11_newClaim_10 rfl ?_
    have h := Option.some.inj (show some _ = some o from h)
    subst h
    exact hq
theorem ct_M_newClaim {g : GG} {am : Nat → Nat} {ap : Nat → Nat} {pm : Nat} {t : va_W} {m0 m1 m2 m3 m4 m5 m6 m7 m8 m9 m10 m11 m12 u0 u1 u3 u4 : Int32} {m13 m14 m15 m16 m18 m19 m20 m21 u7 u8 u9 u10 u11 u12 u13 u14 u15 u16 u17 u18 : Nat → Int32} {m17 u5 u6 : Nat → Int64} {P_claims : Int32} {o : Int32 × Int32} (h : f_M_newClaim P_claims = some o) : Ct g mX11_newClaim 1 0 0 [.ref (am 0), .ref (ap 0)] (wlM g am pm m0 m1 m2 m3 m4 m5 m6 m7 m8 m9 m10 m11 m12 m13 m14 m15 m16 m17 m18 m19 m20 m21 ++ (wlP g ap u0 u1 P_claims u3 u4 u5 u6 u7 u8 u9 u10 u11 u12 u13 u14 u15 u16 u17 u18 ++ t)) (Dv (some (.int o.1)) (wlM g am pm m0 m1 m2 m3 m4 m5 m6 m7 m8 m9 m10 m11 m12 m13 m14 m15 m16 m17 m18 m19 m20 m21 ++ (wlP g ap u0 u1 o.2 u3 u4 u5 u6 u7 u8 u9 u10 u11 u12 u13 u14 u15 u16 u17 u18 ++ t))) := Ct.ofR (by decide +kernel) rfl (Nat.le_of_ble_eq_true rfl) (rt_M_newClaim h ⟨rfl, rfl⟩)
set_option maxRecDepth 20000 in
set_option maxHeartbeats 4000000 in
theorem rt_M_newOrder {g : GG} {am : Nat → Nat} {ap : Nat → Nat} {pm : Nat} {t : va_W} {m0 m1 m2 m3 m4 m5 m6 m7 m8 m9 m10 m11 m12 u0 u1 u2 u4 : Int32} {m13 m14 m15 m16 m18 m19 m20 m21 u7 u8 u9 u10 u11 u12 u13 u14 u15 u16 u17 u18 : Nat → Int32} {m17 u5 u6 : Nat → Int64} {P_orders : Int32} {o : Int32 × Int32} {Q : Rs → va_W → Prop} (h : f_M_newOrder P_orders = some o) (hq : Q (.inl (some (.int o.1))) (wlM g am pm m0 m1 m2 m3 m4 m5 m6 m7 m8 m9 m10 m11 m12 m13 m14 m15 m16 m17 m18 m19 m20 m21 ++ (wlP g ap u0 u1 u2 o.2 u4 u5 u6 u7 u8 u9 u10 u11 u12 u13 u14 u15 u16 u17 u18 ++ t))) : R g mX11_newOrder 1 0 0 0 [(0, .ref (am 0)), (1, .ref (ap 0))] [] (wlM g am pm m0 m1 m2 m3 m4 m5 m6 m7 m8 m9 m10 m11 m12 m13 m14 m15 m16 m17 m18 m19 m20 m21 ++ (wlP g ap u0 u1 u2 P_orders u4 u5 u6 u7 u8 u9 u10 u11 u12 u13 u14 u15 u16 u17 u18 ++ t)) Q := by
  unfold f_M_newOrder at h
  refine r_aload_n 1 dX11_newOrder_0 rfl ?_
  refine r_getf (v := .int P_orders) _ dX11_newOrder_1 fl_X11_144 lP_0 rfl ?_
  refine r_bipush (v := (16 : Int32)) dX11_newOrder_4 (by decide) ?_
  refine r_icmp_ne (tgt := 11) dX11_newOrder_6 (by decide) (fun hc2013 => ?_) (fun hc2013 => ?_)
  · have h := iq (fun z9 => z9) hc2013 h
    refine r_aload_n 1 dX11_newOrder_11 rfl ?_
    refine r_dup dX11_newOrder_12 rfl ?_
    refine r_getf (v := .int P_orders) _ dX11_newOrder_13 fl_X11_144 lP_0 rfl ?_
    refine r_iconst (v := (1 : Int32)) dX11_newOrder_16 (by decide) ?_
    refine r_iadd dX11_newOrder_17 ?_
    refine r_putf _ dX11_newOrder_18 fl_X11_144 lP_0 (Nat.le_of_ble_eq_true rfl) rfl rfl (sP_3 _) ?_
    refine r_iconst (v := (0 : Int32)) dX11_newOrder_21 (by decide) ?_
    refine r_iret dX11_newOrder_22 rfl ?_
    have h := Option.some.inj (show some _ = some o from h)
    subst h
    exact hq
  · have h := ip (fun z9 => z9) hc2013 h
    refine r_iconst (v := (4 : Int32)) dX11_newOrder_9 (by decide) ?_
    refine r_iret dX11_newOrder_10 rfl ?_
    have h := Option.some.inj (show some _ = some o from h)
    subst h
    exact hq
theorem ct_M_newOrder {g : GG} {am : Nat → Nat} {ap : Nat → Nat} {pm : Nat} {t : va_W} {m0 m1 m2 m3 m4 m5 m6 m7 m8 m9 m10 m11 m12 u0 u1 u2 u4 : Int32} {m13 m14 m15 m16 m18 m19 m20 m21 u7 u8 u9 u10 u11 u12 u13 u14 u15 u16 u17 u18 : Nat → Int32} {m17 u5 u6 : Nat → Int64} {P_orders : Int32} {o : Int32 × Int32} (h : f_M_newOrder P_orders = some o) : Ct g mX11_newOrder 1 0 0 [.ref (am 0), .ref (ap 0)] (wlM g am pm m0 m1 m2 m3 m4 m5 m6 m7 m8 m9 m10 m11 m12 m13 m14 m15 m16 m17 m18 m19 m20 m21 ++ (wlP g ap u0 u1 u2 P_orders u4 u5 u6 u7 u8 u9 u10 u11 u12 u13 u14 u15 u16 u17 u18 ++ t)) (Dv (some (.int o.1)) (wlM g am pm m0 m1 m2 m3 m4 m5 m6 m7 m8 m9 m10 m11 m12 m13 m14 m15 m16 m17 m18 m19 m20 m21 ++ (wlP g ap u0 u1 u2 o.2 u4 u5 u6 u7 u8 u9 u10 u11 u12 u13 u14 u15 u16 u17 u18 ++ t))) := Ct.ofR (by decide +kernel) rfl (Nat.le_of_ble_eq_true rfl) (rt_M_newOrder h ⟨rfl, rfl⟩)
set_option maxRecDepth 20000 in
set_option maxHeartbeats 4000000 in
theorem rt_M_ofClaim {g : GG} {am : Nat → Nat} {ap : Nat → Nat} {pm : Nat} {t : va_W} {m0 m1 m2 m3 m4 m5 m6 m7 m8 m9 m10 m11 m12 u3 u4 : Int32} {m13 m15 m19 m20 m21 u12 u13 u14 u15 u16 u17 u18 : Nat → Int32} {N : Nat} {M_kind : Nat → Int32} {M_means : Nat → Int32} {M_value : Nat → Int64} {M_who : Nat → Int32} {P_events : Int32} {P_tellers : Int32} {P_claims : Int32} {P_event : Nat → Int64} {P_teller : Nat → Int64} {P_kind : Nat → Int32} {P_by : Nat → Int32} {P_of : Nat → Int32} {P_other : Nat → Int32} {P_last : Nat → Int32} {p2 : Int32} {o : Int32 × (Nat → Int32) × (Nat → Int32) × (Nat → Int32) × (Nat → Int32) × (Nat → Int32) × (Nat → Int32)} {Q : Rs → va_W → Prop} (h : f_M_ofClaim N M_kind M_means M_value M_who P_events P_tellers P_claims P_event P_teller P_kind P_by P_of P_other P_last p2 = some o) (hq : Q (.inl (some (.int o.1))) (wlM g am pm m0 m1 m2 m3 m4 m5 m6 m7 m8 m9 m10 m11 m12 m13 M_kind m15 M_means M_value o.2.1 m19 m20 m21 ++ (wlP g ap P_events P_tellers P_claims u3 u4 P_event P_teller o.2.2.1 o.2.2.2.1 o.2.2.2.2.1 o.2.2.2.2.2.1 o.2.2.2.2.2.2 u12 u13 u14 u15 u16 u17 u18 ++ t))) : R g mX11_ofClaim 3 0 0 0 [(0, .ref (am 0)), (1, .ref (ap 0)), (2, .int p2)] [] (wlM g am pm m0 m1 m2 m3 m4 m5 m6 m7 m8 m9 m10 m11 m12 m13 M_kind m15 M_means M_value M_who m19 m20 m21 ++ (wlP g ap P_events P_tellers P_claims u3 u4 P_event P_teller P_kind P_by P_of P_other P_last u12 u13 u14 u15 u16 u17 u18 ++ t)) Q := by
  unfold f_M_ofClaim at h
  refine r_aload_n 1 dX11_ofClaim_0 rfl ?_
  refine r_getf (v := .int P_claims) _ dX11_ofClaim_1 fl_X11_65 lP_0 rfl ?_
  refine r_iconst (v := (1 : Int32)) dX11_ofClaim_4 (by decide) ?_
  refine r_isub dX11_ofClaim_5 ?_
  refine r_istore_n [(3, .int (P_claims - (1 : Int32))), (0, .ref (am 0)), (1, .ref (ap 0)), (2, .int p2)] dX11_ofClaim_6 (by decide) rfl ?_
  refine r_aload_n 1 dX11_ofClaim_7 rfl ?_
  refine r_getf (v := .ref (am 5)) _ dX11_ofClaim_8 fl_X11_33 lM_0 rfl ?_
  refine r_iload_n 3 dX11_ofClaim_11 rfl ?_
  obtain ⟨hb2014, h⟩ := gd (fun z9 => z9) rfl h
  refine r_lald _ dX11_ofClaim_12 lM_5 hb2014 ?_
  refine r_l2i dX11_ofClaim_13 ?_
  refine r_istore [(4, .int (M_value p2.toNatClampNeg).toInt32), (3, .int (P_claims - (1 : Int32))), (0, .ref (am 0)), (1, .ref (ap 0)), (2, .int p2)] dX11_ofClaim_14 (by decide) rfl ?_
  refine r_iconst (v := (0 : Int32)) dX11_ofClaim_16 (by decide) ?_
  refine r_istore [(5, .int (0 : Int32)), (4, .int (M_value p2.toNatClampNeg).toInt32), (3, .int (P_claims - (1 : Int32))), (0, .ref (am 0)), (1, .ref (ap 0)), (2, .int p2)] dX11_ofClaim_17 (by decide) rfl ?_
  refine r_aload_n 3 dX11_ofClaim_19 rfl ?_
  refine r_getf (v := .ref (am 4)) _ dX11_ofClaim_20 fl_X11_30 lM_0 rfl ?_
  refine r_iload_n 5 dX11_ofClaim_23 rfl ?_
  obtain ⟨hb2015, h⟩ := gd (fun z9 => z9) rfl h
  refine r_iald _ dX11_ofClaim_24 lM_4 hb2015 ?_
  refine r_iconst (v := (4 : Int32)) dX11_ofClaim_25 (by decide) ?_
  refine r_icmp_ne (tgt := 52) dX11_ofClaim_26 (by decide) (fun hc2016 => ?_) (fun hc2016 => ?_)
  · have h := iq (fun z9 => z9) hc2016 h
    refine r_aload_n 3 dX11_ofClaim_52 rfl ?_
    refine r_getf (v := .ref (am 4)) _ dX11_ofClaim_53 fl_X11_30 lM_0 rfl ?_
    refine r_iload_n 5 dX11_ofClaim_56 rfl ?_
    obtain ⟨hb2017, h⟩ := gd (fun z9 => z9) rfl h
    refine r_iald _ dX11_ofClaim_57 lM_4 hb2017 ?_
    refine r_iconst (v := (5 : Int32)) dX11_ofClaim_58 (by decide) ?_
    refine r_icmp_ne (tgt := 124) dX11_ofClaim_59 (by decide) (fun hc2018 => ?_) (fun hc2018 => ?_)
    · have h := iq (fun z9 => z9) hc2018 h
      refine r_aload_n 3 dX11_ofClaim_124 rfl ?_
      refine r_getf (v := .ref (am 4)) _ dX11_ofClaim_125 fl_X11_30 lM_0 rfl ?_
      refine r_iload_n 5 dX11_ofClaim_128 rfl ?_
      obtain ⟨hb2019, h⟩ := gd (fun z9 => z9) rfl h
      refine r_iald _ dX11_ofClaim_129 lM_4 hb2019 ?_
      refine r_bipush (v := (6 : Int32)) dX11_ofClaim_130 (by decide) ?_
      refine r_icmp_ne (tgt := 181) dX11_ofClaim_132 (by decide) (fun hc2020 => ?_) (fun hc2020 => ?_)
      · have h := iq (fun z9 => z9) hc2020 h
        refine r_iload 1 dX11_ofClaim_181 rfl ?_
        refine r_bipush (v := (99 : Int32)) dX11_ofClaim_183 (by decide) ?_
        refine r_icmp_gt (tgt := 210) dX11_ofClaim_185 (by decide) (fun hc2021 => ?_) (fun hc2021 => ?_)
        · have h := ip (fun z9 => z9) hc2021 h
          refine r_iconst (v := (5 : Int32)) dX11_ofClaim_210 (by decide) ?_
          refine r_goto (tgt := 215) dX11_ofClaim_211 (by decide) ?_
          refine r_istore [(5, .int (5 : Int32)), (4, .int (M_value p2.toNatClampNeg).toInt32), (3, .int (P_claims - (1 : Int32))), (0, .ref (am 0)), (1, .ref (ap 0)), (2, .int p2)] dX11_ofClaim_215 (by decide) rfl ?_
          refine r_aload_n 3 dX11_ofClaim_217 rfl ?_
          refine r_getf (v := .ref (am 4)) _ dX11_ofClaim_218 fl_X11_30 lM_0 rfl ?_
          refine r_iload_n 5 dX11_ofClaim_221 rfl ?_
          obtain ⟨hb2022, h⟩ := gd (fun z9 => z9) rfl h
          refine r_iald _ dX11_ofClaim_222 lM_4 hb2022 ?_
          refine r_bipush (v := (7 : Int32)) dX11_ofClaim_223 (by decide) ?_
          refine r_icmp_ne (tgt := 236) dX11_ofClaim_225 (by decide) (fun hc2023 => ?_) (fun hc2023 => ?_)
          · have h := iq (fun z9 => z9) hc2023 h
            refine r_aload_n 4 dX11_ofClaim_236 rfl ?_
            refine r_getf (v := .ref (ap 7)) _ dX11_ofClaim_237 fl_X11_76 lP_0 rfl ?_
            refine r_iload_n 2 dX11_ofClaim_240 rfl ?_
            refine r_iload 1 dX11_ofClaim_241 rfl ?_
            obtain ⟨hb2024, h⟩ := gd (fun z9 => z9) rfl h
            refine r_iast _ dX11_ofClaim_243 lP_7 hb2024 (sP_11 _) ?_
            refine r_iload 0 dX11_ofClaim_244 rfl ?_
            refine r_iret dX11_ofClaim_246 rfl ?_
            have h := Option.some.inj (show some _ = some o from h)
            subst h
            exact hq
          · have h := ip (fun z9 => z9) hc2023 h
            refine r_aload_n 4 dX11_ofClaim_228 rfl ?_
            refine r_getf (v := .ref (ap 6)) _ dX11_ofClaim_229 fl_X11_79 lP_0 rfl ?_
            refine r_iload_n 2 dX11_ofClaim_232 rfl ?_
            refine r_iload 1 dX11_ofClaim_233 rfl ?_
            obtain ⟨hb2025, h⟩ := gd (fun z9 => z9) rfl h
            refine r_iast _ dX11_ofClaim_235 lP_6 hb2025 (sP_10 _) ?_
            refine r_aload_n 4 dX11_ofClaim_236 rfl ?_
            refine r_getf (v := .ref (ap 7)) _ dX11_ofClaim_237 fl_X11_76 lP_0 rfl ?_
            refine r_iload_n 2 dX11_ofClaim_240 rfl ?_
            refine r_iload 1 dX11_ofClaim_241 rfl ?_
            obtain ⟨hb2026, h⟩ := gd (fun z9 => z9) rfl h
            refine r_iast _ dX11_ofClaim_243 lP_7 hb2026 (sP_11 _) ?_
            refine r_iload 0 dX11_ofClaim_244 rfl ?_
            refine r_iret dX11_ofClaim_246 rfl ?_
            have h := Option.some.inj (show some _ = some o from h)
            subst h
            exact hq
        · have h := iq (fun z9 => z9) hc2021 h
          refine r_aload_n 3 dX11_ofClaim_188 rfl ?_
          refine r_getf (v := .ref (am 4)) _ dX11_ofClaim_189 fl_X11_30 lM_0 rfl ?_
          refine r_iload_n 5 dX11_ofClaim_192 rfl ?_
          obtain ⟨hb2027, h⟩ := gd (fun z9 => z9) rfl h
          refine r_iald _ dX11_ofClaim_193 lM_4 hb2027 ?_
          refine r_bipush (v := (8 : Int32)) dX11_ofClaim_194 (by decide) ?_
          refine r_icmp_ne (tgt := 214) dX11_ofClaim_196 (by decide) (fun hc2028 => ?_) (fun hc2028 => ?_)
          · have h := iq (fun z9 => z9) hc2028 h
            refine r_iconst (v := (0 : Int32)) dX11_ofClaim_214 (by decide) ?_
            refine r_istore [(5, .int (0 : Int32)), (4, .int (M_value p2.toNatClampNeg).toInt32), (3, .int (P_claims - (1 : Int32))), (0, .ref (am 0)), (1, .ref (ap 0)), (2, .int p2)] dX11_ofClaim_215 (by decide) rfl ?_
            refine r_aload_n 3 dX11_ofClaim_217 rfl ?_
            refine r_getf (v := .ref (am 4)) _ dX11_ofClaim_218 fl_X11_30 lM_0 rfl ?_
            refine r_iload_n 5 dX11_ofClaim_221 rfl ?_
            obtain ⟨hb2029, h⟩ := gd (fun z9 => z9) rfl h
            refine r_iald _ dX11_ofClaim_222 lM_4 hb2029 ?_
            refine r_bipush (v := (7 : Int32)) dX11_ofClaim_223 (by decide) ?_
            refine r_icmp_ne (tgt := 236) dX11_ofClaim_225 (by decide) (fun hc2030 => ?_) (fun hc2030 => ?_)
            · have h := iq (fun z9 => z9) hc2030 h
              refine r_aload_n 4 dX11_ofClaim_236 rfl ?_
              refine r_getf (v := .ref (ap 7)) _ dX11_ofClaim_237 fl_X11_76 lP_0 rfl ?_
              refine r_iload_n 2 dX11_ofClaim_240 rfl ?_
              refine r_iload 1 dX11_ofClaim_241 rfl ?_
              obtain ⟨hb2031, h⟩ := gd (fun z9 => z9) rfl h
              refine r_iast _ dX11_ofClaim_243 lP_7 hb2031 (sP_11 _) ?_
              refine r_iload 0 dX11_ofClaim_244 rfl ?_
              refine r_iret dX11_ofClaim_246 rfl ?_
              have h := Option.some.inj (show some _ = some o from h)
              subst h
              exact hq
            · have h := ip (fun z9 => z9) hc2030 h
              refine r_aload_n 4 dX11_ofClaim_228 rfl ?_
              refine r_getf (v := .ref (ap 6)) _ dX11_ofClaim_229 fl_X11_79 lP_0 rfl ?_
              refine r_iload_n 2 dX11_ofClaim_232 rfl ?_
              refine r_iload 1 dX11_ofClaim_233 rfl ?_
              obtain ⟨hb2032, h⟩ := gd (fun z9 => z9) rfl h
              refine r_iast _ dX11_ofClaim_235 lP_6 hb2032 (sP_10 _) ?_
              refine r_aload_n 4 dX11_ofClaim_236 rfl ?_
              refine r_getf (v := .ref (ap 7)) _ dX11_ofClaim_237 fl_X11_76 lP_0 rfl ?_
              refine r_iload_n 2 dX11_ofClaim_240 rfl ?_
              refine r_iload 1 dX11_ofClaim_241 rfl ?_
              obtain ⟨hb2033, h⟩ := gd (fun z9 => z9) rfl h
              refine r_iast _ dX11_ofClaim_243 lP_7 hb2033 (sP_11 _) ?_
              refine r_iload 0 dX11_ofClaim_244 rfl ?_
              refine r_iret dX11_ofClaim_246 rfl ?_
              have h := Option.some.inj (show some _ = some o from h)
              subst h
              exact hq
          · have h := ip (fun z9 => z9) hc2028 h
            refine r_iload 1 dX11_ofClaim_199 rfl ?_
            refine r_aload_n 4 dX11_ofClaim_201 rfl ?_
            refine r_getf (v := .ref (ap 6)) _ dX11_ofClaim_202 fl_X11_79 lP_0 rfl ?_
            refine r_iload_n 2 dX11_ofClaim_205 rfl ?_
            obtain ⟨hb2034, h⟩ := gd (fun z9 => z9) rfl h
            refine r_iald _ dX11_ofClaim_206 lP_6 hb2034 ?_
            refine r_icmp_ge (tgt := 214) dX11_ofClaim_207 (by decide) (fun hc2035 => ?_) (fun hc2035 => ?_)
            · have h := ip (fun z9 => z9) hc2035 h
              refine r_iconst (v := (0 : Int32)) dX11_ofClaim_214 (by decide) ?_
              refine r_istore [(5, .int (0 : Int32)), (4, .int (M_value p2.toNatClampNeg).toInt32), (3, .int (P_claims - (1 : Int32))), (0, .ref (am 0)), (1, .ref (ap 0)), (2, .int p2)] dX11_ofClaim_215 (by decide) rfl ?_
              refine r_aload_n 3 dX11_ofClaim_217 rfl ?_
              refine r_getf (v := .ref (am 4)) _ dX11_ofClaim_218 fl_X11_30 lM_0 rfl ?_
              refine r_iload_n 5 dX11_ofClaim_221 rfl ?_
              obtain ⟨hb2036, h⟩ := gd (fun z9 => z9) rfl h
              refine r_iald _ dX11_ofClaim_222 lM_4 hb2036 ?_
              refine r_bipush (v := (7 : Int32)) dX11_ofClaim_223 (by decide) ?_
              refine r_icmp_ne (tgt := 236) dX11_ofClaim_225 (by decide) (fun hc2037 => ?_) (fun hc2037 => ?_)
              · have h := iq (fun z9 => z9) hc2037 h
                refine r_aload_n 4 dX11_ofClaim_236 rfl ?_
                refine r_getf (v := .ref (ap 7)) _ dX11_ofClaim_237 fl_X11_76 lP_0 rfl ?_
                refine r_iload_n 2 dX11_ofClaim_240 rfl ?_
                refine r_iload 1 dX11_ofClaim_241 rfl ?_
                obtain ⟨hb2038, h⟩ := gd (fun z9 => z9) rfl h
                refine r_iast _ dX11_ofClaim_243 lP_7 hb2038 (sP_11 _) ?_
                refine r_iload 0 dX11_ofClaim_244 rfl ?_
                refine r_iret dX11_ofClaim_246 rfl ?_
                have h := Option.some.inj (show some _ = some o from h)
                subst h
                exact hq
              · have h := ip (fun z9 => z9) hc2037 h
                refine r_aload_n 4 dX11_ofClaim_228 rfl ?_
                refine r_getf (v := .ref (ap 6)) _ dX11_ofClaim_229 fl_X11_79 lP_0 rfl ?_
                refine r_iload_n 2 dX11_ofClaim_232 rfl ?_
                refine r_iload 1 dX11_ofClaim_233 rfl ?_
                obtain ⟨hb2039, h⟩ := gd (fun z9 => z9) rfl h
                refine r_iast _ dX11_ofClaim_235 lP_6 hb2039 (sP_10 _) ?_
                refine r_aload_n 4 dX11_ofClaim_236 rfl ?_
                refine r_getf (v := .ref (ap 7)) _ dX11_ofClaim_237 fl_X11_76 lP_0 rfl ?_
                refine r_iload_n 2 dX11_ofClaim_240 rfl ?_
                refine r_iload 1 dX11_ofClaim_241 rfl ?_
                obtain ⟨hb2040, h⟩ := gd (fun z9 => z9) rfl h
                refine r_iast _ dX11_ofClaim_243 lP_7 hb2040 (sP_11 _) ?_
                refine r_iload 0 dX11_ofClaim_244 rfl ?_
                refine r_iret dX11_ofClaim_246 rfl ?_
                have h := Option.some.inj (show some _ = some o from h)
                subst h
                exact hq
            · have h := iq (fun z9 => z9) hc2035 h
              refine r_iconst (v := (5 : Int32)) dX11_ofClaim_210 (by decide) ?_
              refine r_goto (tgt := 215) dX11_ofClaim_211 (by decide) ?_
              refine r_istore [(5, .int (5 : Int32)), (4, .int (M_value p2.toNatClampNeg).toInt32), (3, .int (P_claims - (1 : Int32))), (0, .ref (am 0)), (1, .ref (ap 0)), (2, .int p2)] dX11_ofClaim_215 (by decide) rfl ?_
              refine r_aload_n 3 dX11_ofClaim_217 rfl ?_
              refine r_getf (v := .ref (am 4)) _ dX11_ofClaim_218 fl_X11_30 lM_0 rfl ?_
              refine r_iload_n 5 dX11_ofClaim_221 rfl ?_
              obtain ⟨hb2041, h⟩ := gd (fun z9 => z9) rfl h
              refine r_iald _ dX11_ofClaim_222 lM_4 hb2041 ?_
              refine r_bipush (v := (7 : Int32)) dX11_ofClaim_223 (by decide) ?_
              refine r_icmp_ne (tgt := 236) dX11_ofClaim_225 (by decide) (fun hc2042 => ?_) (fun hc2042 => ?_)
              · have h := iq (fun z9 => z9) hc2042 h
                refine r_aload_n 4 dX11_ofClaim_236 rfl ?_
                refine r_getf (v := .ref (ap 7)) _ dX11_ofClaim_237 fl_X11_76 lP_0 rfl ?_
                refine r_iload_n 2 dX11_ofClaim_240 rfl ?_
                refine r_iload 1 dX11_ofClaim_241 rfl ?_
                obtain ⟨hb2043, h⟩ := gd (fun z9 => z9) rfl h
                refine r_iast _ dX11_ofClaim_243 lP_7 hb2043 (sP_11 _) ?_
                refine r_iload 0 dX11_ofClaim_244 rfl ?_
                refine r_iret dX11_ofClaim_246 rfl ?_
                have h := Option.some.inj (show some _ = some o from h)
                subst h
                exact hq
              · have h := ip (fun z9 => z9) hc2042 h
                refine r_aload_n 4 dX11_ofClaim_228 rfl ?_
                refine r_getf (v := .ref (ap 6)) _ dX11_ofClaim_229 fl_X11_79 lP_0 rfl ?_
                refine r_iload_n 2 dX11_ofClaim_232 rfl ?_
                refine r_iload 1 dX11_ofClaim_233 rfl ?_
                obtain ⟨hb2044, h⟩ := gd (fun z9 => z9) rfl h
                refine r_iast _ dX11_ofClaim_235 lP_6 hb2044 (sP_10 _) ?_
                refine r_aload_n 4 dX11_ofClaim_236 rfl ?_
                refine r_getf (v := .ref (ap 7)) _ dX11_ofClaim_237 fl_X11_76 lP_0 rfl ?_
                refine r_iload_n 2 dX11_ofClaim_240 rfl ?_
                refine r_iload 1 dX11_ofClaim_241 rfl ?_
                obtain ⟨hb2045, h⟩ := gd (fun z9 => z9) rfl h
                refine r_iast _ dX11_ofClaim_243 lP_7 hb2045 (sP_11 _) ?_
                refine r_iload 0 dX11_ofClaim_244 rfl ?_
                refine r_iret dX11_ofClaim_246 rfl ?_
                have h := Option.some.inj (show some _ = some o from h)
                subst h
                exact hq
      · have h := ip (fun z9 => z9) hc2020 h
        refine r_aload_n 3 dX11_ofClaim_135 rfl ?_
        refine r_aload_n 4 dX11_ofClaim_136 rfl ?_
        refine r_iload_n 5 dX11_ofClaim_137 rfl ?_
        obtain ⟨r2046, hc2047, h⟩ := ob (fun z9 => z9) rfl h
        refine c_V (rest := []) 0 0 _ dX11_ofClaim_138 kv_X11_334 (ct_M_anEvent hc2047) rfl rfl lM_0 rfl (Nat.le_of_ble_eq_true rfl) (by decide) (by decide) ?_
        refine r_istore [(5, .int r2046.1), (4, .int (M_value p2.toNatClampNeg).toInt32), (3, .int (P_claims - (1 : Int32))), (0, .ref (am 0)), (1, .ref (ap 0)), (2, .int p2)] dX11_ofClaim_141 (by decide) rfl ?_
        refine r_aload_n 4 dX11_ofClaim_143 rfl ?_
        refine r_getf (v := .ref (ap 6)) _ dX11_ofClaim_144 fl_X11_79 lP_0 rfl ?_
        refine r_iload_n 2 dX11_ofClaim_147 rfl ?_
        refine r_aload_n 3 dX11_ofClaim_148 rfl ?_
        refine r_getf (v := .ref (am 6)) _ dX11_ofClaim_149 fl_X11_37 lM_0 rfl ?_
        refine r_iload_n 5 dX11_ofClaim_152 rfl ?_
        obtain ⟨hb2048, h⟩ := gd (fun z9 => z9) rfl h
        refine r_iald _ dX11_ofClaim_153 lM_6 hb2048 ?_
        obtain ⟨hb2049, h⟩ := gd (fun z9 => z9) rfl h
        refine r_iast _ dX11_ofClaim_154 lP_6 hb2049 (sP_10 _) ?_
        refine r_iload 0 dX11_ofClaim_155 rfl ?_
        refine r_if_ne (tgt := 244) dX11_ofClaim_157 (by decide) (fun hc2050 => ?_) (fun hc2050 => ?_)
        · have h := iq (fun z9 => z9) hc2050 h
          refine r_iload 0 dX11_ofClaim_244 rfl ?_
          refine r_iret dX11_ofClaim_246 rfl ?_
          have h := Option.some.inj (show some _ = some o from h)
          subst h
          exact hq
        · have h := ip (fun z9 => z9) hc2050 h
          refine r_aload_n 3 dX11_ofClaim_160 rfl ?_
          refine r_getf (v := .ref (am 6)) _ dX11_ofClaim_161 fl_X11_37 lM_0 rfl ?_
          refine r_iload_n 5 dX11_ofClaim_164 rfl ?_
          obtain ⟨hb2051, h⟩ := gd (fun z9 => z9) rfl h
          refine r_iald _ dX11_ofClaim_165 lM_6 hb2051 ?_
          refine r_aload_n 4 dX11_ofClaim_166 rfl ?_
          refine r_getf (v := .ref (ap 5)) _ dX11_ofClaim_167 fl_X11_73 lP_0 rfl ?_
          refine r_iload_n 2 dX11_ofClaim_170 rfl ?_
          obtain ⟨hb2052, h⟩ := gd (fun z9 => z9) rfl h
          refine r_iald _ dX11_ofClaim_171 lP_5 hb2052 ?_
          refine r_icmp_ne (tgt := 244) dX11_ofClaim_172 (by decide) (fun hc2053 => ?_) (fun hc2053 => ?_)
          · have h := iq (fun z9 => z9) hc2053 h
            refine r_iload 0 dX11_ofClaim_244 rfl ?_
            refine r_iret dX11_ofClaim_246 rfl ?_
            have h := Option.some.inj (show some _ = some o from h)
            subst h
            exact hq
          · have h := ip (fun z9 => z9) hc2053 h
            refine r_iconst (v := (5 : Int32)) dX11_ofClaim_175 (by decide) ?_
            refine r_istore [(5, .int (5 : Int32)), (4, .int (M_value p2.toNatClampNeg).toInt32), (3, .int (P_claims - (1 : Int32))), (0, .ref (am 0)), (1, .ref (ap 0)), (2, .int p2)] dX11_ofClaim_176 (by decide) rfl ?_
            refine r_goto (tgt := 244) dX11_ofClaim_178 (by decide) ?_
            refine r_iload 0 dX11_ofClaim_244 rfl ?_
            refine r_iret dX11_ofClaim_246 rfl ?_
            have h := Option.some.inj (show some _ = some o from h)
            subst h
            exact hq
    · have h := ip (fun z9 => z9) hc2018 h
      refine r_aload_n 3 dX11_ofClaim_62 rfl ?_
      refine r_aload_n 4 dX11_ofClaim_63 rfl ?_
      refine r_iload_n 5 dX11_ofClaim_64 rfl ?_
      obtain ⟨r2054, hc2055, h⟩ := ob (fun z9 => z9) rfl h
      refine c_V (rest := []) 0 0 _ dX11_ofClaim_65 kv_X11_334 (ct_M_anEvent hc2055) rfl rfl lM_0 rfl (Nat.le_of_ble_eq_true rfl) (by decide) (by decide) ?_
      refine r_istore [(5, .int r2054.1), (4, .int (M_value p2.toNatClampNeg).toInt32), (3, .int (P_claims - (1 : Int32))), (0, .ref (am 0)), (1, .ref (ap 0)), (2, .int p2)] dX11_ofClaim_68 (by decide) rfl ?_
      refine r_aload_n 4 dX11_ofClaim_70 rfl ?_
      refine r_getf (v := .ref (ap 5)) _ dX11_ofClaim_71 fl_X11_73 lP_0 rfl ?_
      refine r_iload_n 2 dX11_ofClaim_74 rfl ?_
      refine r_aload_n 3 dX11_ofClaim_75 rfl ?_
      refine r_getf (v := .ref (am 6)) _ dX11_ofClaim_76 fl_X11_37 lM_0 rfl ?_
      refine r_iload_n 5 dX11_ofClaim_79 rfl ?_
      obtain ⟨hb2056, h⟩ := gd (fun z9 => z9) rfl h
      refine r_iald _ dX11_ofClaim_80 lM_6 hb2056 ?_
      obtain ⟨hb2057, h⟩ := gd (fun z9 => z9) rfl h
      refine r_iast _ dX11_ofClaim_81 lP_5 hb2057 (sP_9 _) ?_
      refine r_aload_n 4 dX11_ofClaim_82 rfl ?_
      refine r_getf (v := .ref (ap 3)) _ dX11_ofClaim_83 fl_X11_68 lP_0 rfl ?_
      refine r_iload_n 2 dX11_ofClaim_86 rfl ?_
      refine r_aload_n 3 dX11_ofClaim_87 rfl ?_
      refine r_getf (v := .ref (am 2)) _ dX11_ofClaim_88 fl_X11_24 lM_0 rfl ?_
      refine r_iload_n 5 dX11_ofClaim_91 rfl ?_
      refine r_iconst (v := (1 : Int32)) dX11_ofClaim_92 (by decide) ?_
      refine r_iadd dX11_ofClaim_93 ?_
      obtain ⟨hb2058, h⟩ := gd (fun z9 => z9) rfl h
      refine r_iald _ dX11_ofClaim_94 lM_2 hb2058 ?_
      refine r_iconst (v := (3 : Int32)) dX11_ofClaim_95 (by decide) ?_
      refine r_icmp_ne (tgt := 103) dX11_ofClaim_96 (by decide) (fun hc2059 => ?_) (fun hc2059 => ?_)
      · have h := iq (fun z9 => z9) hc2059 h
        refine r_aload_n 3 dX11_ofClaim_103 rfl ?_
        refine r_getf (v := .ref (am 2)) _ dX11_ofClaim_104 fl_X11_24 lM_0 rfl ?_
        refine r_iload_n 5 dX11_ofClaim_107 rfl ?_
        refine r_iconst (v := (1 : Int32)) dX11_ofClaim_108 (by decide) ?_
        refine r_iadd dX11_ofClaim_109 ?_
        obtain ⟨hb2060, h⟩ := gd (fun z9 => z9) rfl h
        refine r_iald _ dX11_ofClaim_110 lM_2 hb2060 ?_
        refine r_iconst (v := (5 : Int32)) dX11_ofClaim_111 (by decide) ?_
        refine r_icmp_ne (tgt := 119) dX11_ofClaim_112 (by decide) (fun hc2061 => ?_) (fun hc2061 => ?_)
        · have h := iq (fun z9 => z9) hc2061 h
          refine r_iconst (v := (2 : Int32)) dX11_ofClaim_119 (by decide) ?_
          obtain ⟨hb2062, h⟩ := gd (fun z9 => z9) rfl h
          refine r_iast _ dX11_ofClaim_120 lP_3 hb2062 (sP_7 _) ?_
          refine r_goto (tgt := 244) dX11_ofClaim_121 (by decide) ?_
          refine r_iload 0 dX11_ofClaim_244 rfl ?_
          refine r_iret dX11_ofClaim_246 rfl ?_
          have h := Option.some.inj (show some _ = some o from h)
          subst h
          exact hq
        · have h := ip (fun z9 => z9) hc2061 h
          refine r_iconst (v := (1 : Int32)) dX11_ofClaim_115 (by decide) ?_
          refine r_goto (tgt := 120) dX11_ofClaim_116 (by decide) ?_
          obtain ⟨hb2063, h⟩ := gd (fun z9 => z9) rfl h
          refine r_iast _ dX11_ofClaim_120 lP_3 hb2063 (sP_7 _) ?_
          refine r_goto (tgt := 244) dX11_ofClaim_121 (by decide) ?_
          refine r_iload 0 dX11_ofClaim_244 rfl ?_
          refine r_iret dX11_ofClaim_246 rfl ?_
          have h := Option.some.inj (show some _ = some o from h)
          subst h
          exact hq
      · have h := ip (fun z9 => z9) hc2059 h
        refine r_iconst (v := (0 : Int32)) dX11_ofClaim_99 (by decide) ?_
        refine r_goto (tgt := 120) dX11_ofClaim_100 (by decide) ?_
        obtain ⟨hb2064, h⟩ := gd (fun z9 => z9) rfl h
        refine r_iast _ dX11_ofClaim_120 lP_3 hb2064 (sP_7 _) ?_
        refine r_goto (tgt := 244) dX11_ofClaim_121 (by decide) ?_
        refine r_iload 0 dX11_ofClaim_244 rfl ?_
        refine r_iret dX11_ofClaim_246 rfl ?_
        have h := Option.some.inj (show some _ = some o from h)
        subst h
        exact hq
  · have h := ip (fun z9 => z9) hc2016 h
    refine r_aload_n 3 dX11_ofClaim_29 rfl ?_
    refine r_aload_n 4 dX11_ofClaim_30 rfl ?_
    refine r_iload_n 5 dX11_ofClaim_31 rfl ?_
    obtain ⟨r2065, hc2066, h⟩ := ob (fun z9 => z9) rfl h
    refine c_V (rest := []) 0 0 _ dX11_ofClaim_32 kv_X11_330 (ct_M_aTeller hc2066) rfl rfl lM_0 rfl (Nat.le_of_ble_eq_true rfl) (by decide) (by decide) ?_
    refine r_istore [(5, .int r2065.1), (4, .int (M_value p2.toNatClampNeg).toInt32), (3, .int (P_claims - (1 : Int32))), (0, .ref (am 0)), (1, .ref (ap 0)), (2, .int p2)] dX11_ofClaim_35 (by decide) rfl ?_
    refine r_aload_n 4 dX11_ofClaim_37 rfl ?_
    refine r_getf (v := .ref (ap 4)) _ dX11_ofClaim_38 fl_X11_82 lP_0 rfl ?_
    refine r_iload_n 2 dX11_ofClaim_41 rfl ?_
    refine r_aload_n 3 dX11_ofClaim_42 rfl ?_
    refine r_getf (v := .ref (am 6)) _ dX11_ofClaim_43 fl_X11_37 lM_0 rfl ?_
    refine r_iload_n 5 dX11_ofClaim_46 rfl ?_
    obtain ⟨hb2067, h⟩ := gd (fun z9 => z9) rfl h
    refine r_iald _ dX11_ofClaim_47 lM_6 hb2067 ?_
    obtain ⟨hb2068, h⟩ := gd (fun z9 => z9) rfl h
    refine r_iast _ dX11_ofClaim_48 lP_4 hb2068 (sP_8 _) ?_
    refine r_goto (tgt := 244) dX11_ofClaim_49 (by decide) ?_
    refine r_iload 0 dX11_ofClaim_244 rfl ?_
    refine r_iret dX11_ofClaim_246 rfl ?_
    have h := Option.some.inj (show some _ = some o from h)
    subst h
    exact hq
theorem ct_M_ofClaim {g : GG} {am : Nat → Nat} {ap : Nat → Nat} {pm : Nat} {t : va_W} {m0 m1 m2 m3 m4 m5 m6 m7 m8 m9 m10 m11 m12 u3 u4 : Int32} {m13 m15 m19 m20 m21 u12 u13 u14 u15 u16 u17 u18 : Nat → Int32} {N : Nat} {M_kind : Nat → Int32} {M_means : Nat → Int32} {M_value : Nat → Int64} {M_who : Nat → Int32} {P_events : Int32} {P_tellers : Int32} {P_claims : Int32} {P_event : Nat → Int64} {P_teller : Nat → Int64} {P_kind : Nat → Int32} {P_by : Nat → Int32} {P_of : Nat → Int32} {P_other : Nat → Int32} {P_last : Nat → Int32} {p2 : Int32} {o : Int32 × (Nat → Int32) × (Nat → Int32) × (Nat → Int32) × (Nat → Int32) × (Nat → Int32) × (Nat → Int32)} (h : f_M_ofClaim N M_kind M_means M_value M_who P_events P_tellers P_claims P_event P_teller P_kind P_by P_of P_other P_last p2 = some o) : Ct g mX11_ofClaim 3 0 0 [.ref (am 0), .ref (ap 0), .int p2] (wlM g am pm m0 m1 m2 m3 m4 m5 m6 m7 m8 m9 m10 m11 m12 m13 M_kind m15 M_means M_value M_who m19 m20 m21 ++ (wlP g ap P_events P_tellers P_claims u3 u4 P_event P_teller P_kind P_by P_of P_other P_last u12 u13 u14 u15 u16 u17 u18 ++ t)) (Dv (some (.int o.1)) (wlM g am pm m0 m1 m2 m3 m4 m5 m6 m7 m8 m9 m10 m11 m12 m13 M_kind m15 M_means M_value o.2.1 m19 m20 m21 ++ (wlP g ap P_events P_tellers P_claims u3 u4 P_event P_teller o.2.2.1 o.2.2.2.1 o.2.2.2.2.1 o.2.2.2.2.2.1 o.2.2.2.2.2.2 u12 u13 u14 u15 u16 u17 u18 ++ t))) := Ct.ofR (by decide +kernel) rfl (Nat.le_of_ble_eq_true rfl) (rt_M_ofClaim h ⟨rfl, rfl⟩)
