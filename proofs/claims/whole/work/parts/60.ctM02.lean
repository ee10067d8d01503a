set_option maxRecDepth 20000 in
set_option maxHeartbeats 4000000 in
theorem rt_M_thrown {g : GG} {am : Nat → Nat} {pm : Nat} {t : va_W} {m1 m2 m3 m4 m5 m6 m7 m8 m9 m10 m11 m12 : Int32} {m13 m14 m15 m16 m18 m19 m20 m21 : Nat → Int32} {m17 : Nat → Int64} {M_thrown : Int32} {o : Int32} {Q : Rs → va_W → Prop} (h : f_M_thrown M_thrown = o) (hq : Q (.inl (some (.int o))) (wlM g am pm M_thrown m1 m2 m3 m4 m5 m6 m7 m8 m9 m10 m11 m12 m13 m14 m15 m16 m17 m18 m19 m20 m21 ++ t)) : R g mX11_thrown 1 0 0 0 [(0, .ref (am 0))] [] (wlM g am pm M_thrown m1 m2 m3 m4 m5 m6 m7 m8 m9 m10 m11 m12 m13 m14 m15 m16 m17 m18 m19 m20 m21 ++ t) Q := by
  unfold f_M_thrown at h
  refine r_aload_n 0 dX11_thrown_0 rfl ?_
  refine r_getf (v := .int M_thrown) _ dX11_thrown_1 fl_X11_52 lM_0 rfl ?_
  refine r_iret dX11_thrown_4 rfl ?_
  have h : _ = o := h
  subst h
  exact hq
theorem ct_M_thrown {g : GG} {am : Nat → Nat} {pm : Nat} {t : va_W} {m1 m2 m3 m4 m5 m6 m7 m8 m9 m10 m11 m12 : Int32} {m13 m14 m15 m16 m18 m19 m20 m21 : Nat → Int32} {m17 : Nat → Int64} {M_thrown : Int32} {o : Int32} (h : f_M_thrown M_thrown = o) : Ct g mX11_thrown 1 0 0 [.ref (am 0)] (wlM g am pm M_thrown m1 m2 m3 m4 m5 m6 m7 m8 m9 m10 m11 m12 m13 m14 m15 m16 m17 m18 m19 m20 m21 ++ t) (Dv (some (.int o)) (wlM g am pm M_thrown m1 m2 m3 m4 m5 m6 m7 m8 m9 m10 m11 m12 m13 m14 m15 m16 m17 m18 m19 m20 m21 ++ t)) := Ct.ofR (by decide +kernel) rfl (Nat.le_of_ble_eq_true rfl) (rt_M_thrown h ⟨rfl, rfl⟩)
set_option maxRecDepth 20000 in
set_option maxHeartbeats 4000000 in
theorem rt_M_no {g : GG} {am : Nat → Nat} {pm : Nat} {t : va_W} {m1 m2 m3 m4 m5 m6 m7 m8 m9 m10 m11 m12 : Int32} {m13 m14 m15 m16 m18 m19 m20 m21 : Nat → Int32} {m17 : Nat → Int64} {M_thrown : Int32} {p1 : Int32} {o : Int32 × Int32} {Q : Rs → va_W → Prop} (h : f_M_no M_thrown p1 = some o) (hq : Q (.inl (some (.int o.1))) (wlM g am pm o.2 m1 m2 m3 m4 m5 m6 m7 m8 m9 m10 m11 m12 m13 m14 m15 m16 m17 m18 m19 m20 m21 ++ t)) : R g mX11_no 1 0 0 0 [(0, .ref (am 0)), (1, .int p1)] [] (wlM g am pm M_thrown m1 m2 m3 m4 m5 m6 m7 m8 m9 m10 m11 m12 m13 m14 m15 m16 m17 m18 m19 m20 m21 ++ t) Q := by
  unfold f_M_no at h
  refine r_aload_n 0 dX11_no_0 rfl ?_
  refine r_iload_n 1 dX11_no_1 rfl ?_
  refine r_putf _ dX11_no_2 fl_X11_52 lM_0 (Nat.le_of_ble_eq_true rfl) rfl rfl (sM_0 _) ?_
  refine r_iconst (v := (0 : Int32)) dX11_no_5 (by decide) ?_
  refine r_iret dX11_no_6 rfl ?_
  have h := Option.some.inj (show some _ = some o from h)
  subst h
  exact hq
theorem ct_M_no {g : GG} {am : Nat → Nat} {pm : Nat} {t : va_W} {m1 m2 m3 m4 m5 m6 m7 m8 m9 m10 m11 m12 : Int32} {m13 m14 m15 m16 m18 m19 m20 m21 : Nat → Int32} {m17 : Nat → Int64} {M_thrown : Int32} {p1 : Int32} {o : Int32 × Int32} (h : f_M_no M_thrown p1 = some o) : Ct g mX11_no 1 0 0 [.ref (am 0), .int p1] (wlM g am pm M_thrown m1 m2 m3 m4 m5 m6 m7 m8 m9 m10 m11 m12 m13 m14 m15 m16 m17 m18 m19 m20 m21 ++ t) (Dv (some (.int o.1)) (wlM g am pm o.2 m1 m2 m3 m4 m5 m6 m7 m8 m9 m10 m11 m12 m13 m14 m15 m16 m17 m18 m19 m20 m21 ++ t)) := Ct.ofR (by decide +kernel) rfl (Nat.le_of_ble_eq_true rfl) (rt_M_no h ⟨rfl, rfl⟩)
set_option maxRecDepth 20000 in
set_option maxHeartbeats 4000000 in
theorem rt_M_isNot {g : GG} {am : Nat → Nat} {pm : Nat} {t : va_W} {m1 m2 m3 m4 m5 m6 m7 m8 m9 m10 m11 m12 : Int32} {m13 m14 m15 m16 m18 m19 m20 m21 : Nat → Int32} {m17 : Nat → Int64} {M_thrown : Int32} {p1 : Int32} {o : Int32 × Int32} {Q : Rs → va_W → Prop} (h : f_M_isNot M_thrown p1 = some o) (hq : Q (.inl (some (.int o.1))) (wlM g am pm o.2 m1 m2 m3 m4 m5 m6 m7 m8 m9 m10 m11 m12 m13 m14 m15 m16 m17 m18 m19 m20 m21 ++ t)) : R g mX11_isNot 1 0 0 0 [(0, .ref (am 0)), (1, .int p1)] [] (wlM g am pm M_thrown m1 m2 m3 m4 m5 m6 m7 m8 m9 m10 m11 m12 m13 m14 m15 m16 m17 m18 m19 m20 m21 ++ t) Q := by
  unfold f_M_isNot at h
  refine r_aload_n 0 dX11_isNot_0 rfl ?_
  refine r_iload_n 1 dX11_isNot_1 rfl ?_
  refine r_putf _ dX11_isNot_2 fl_X11_52 lM_0 (Nat.le_of_ble_eq_true rfl) rfl rfl (sM_0 _) ?_
  refine r_iconst (v := (0 : Int32)) dX11_isNot_5 (by decide) ?_
  refine r_zret dX11_isNot_6 rfl (by decide) ?_
  have h := Option.some.inj (show some _ = some o from h)
  subst h
  exact hq
theorem ct_M_isNot {g : GG} {am : Nat → Nat} {pm : Nat} {t : va_W} {m1 m2 m3 m4 m5 m6 m7 m8 m9 m10 m11 m12 : Int32} {m13 m14 m15 m16 m18 m19 m20 m21 : Nat → Int32} {m17 : Nat → Int64} {M_thrown : Int32} {p1 : Int32} {o : Int32 × Int32} (h : f_M_isNot M_thrown p1 = some o) : Ct g mX11_isNot 1 0 0 [.ref (am 0), .int p1] (wlM g am pm M_thrown m1 m2 m3 m4 m5 m6 m7 m8 m9 m10 m11 m12 m13 m14 m15 m16 m17 m18 m19 m20 m21 ++ t) (Dv (some (.int o.1)) (wlM g am pm o.2 m1 m2 m3 m4 m5 m6 m7 m8 m9 m10 m11 m12 m13 m14 m15 m16 m17 m18 m19 m20 m21 ++ t)) := Ct.ofR (by decide +kernel) rfl (Nat.le_of_ble_eq_true rfl) (rt_M_isNot h ⟨rfl, rfl⟩)
set_option maxRecDepth 20000 in
set_option maxHeartbeats 4000000 in
theorem rt_M_ok {g : GG} {am : Nat → Nat} {pm : Nat} {t : va_W} {m1 m2 m3 m4 m5 m6 m7 m8 m9 m10 m11 m12 : Int32} {m13 m14 m15 m16 m18 m19 m20 m21 : Nat → Int32} {m17 : Nat → Int64} {M_thrown : Int32} {p1 : Int32} {o : Int32 × Int32} {Q : Rs → va_W → Prop} (h : f_M_ok M_thrown p1 = some o) (hq : Q (.inl (some (.int o.1))) (wlM g am pm o.2 m1 m2 m3 m4 m5 m6 m7 m8 m9 m10 m11 m12 m13 m14 m15 m16 m17 m18 m19 m20 m21 ++ t)) : R g mX11_ok 1 0 0 0 [(0, .ref (am 0)), (1, .int p1)] [] (wlM g am pm M_thrown m1 m2 m3 m4 m5 m6 m7 m8 m9 m10 m11 m12 m13 m14 m15 m16 m17 m18 m19 m20 m21 ++ t) Q := by
  unfold f_M_ok at h
  refine r_aload_n 0 dX11_ok_0 rfl ?_
  refine r_iconst (v := (0 : Int32)) dX11_ok_1 (by decide) ?_
  refine r_putf _ dX11_ok_2 fl_X11_52 lM_0 (Nat.le_of_ble_eq_true rfl) rfl rfl (sM_0 _) ?_
  refine r_iload_n 1 dX11_ok_5 rfl ?_
  refine r_iret dX11_ok_6 rfl ?_
  have h := Option.some.inj (show some _ = some o from h)
  subst h
  exact hq
theorem ct_M_ok {g : GG} {am : Nat → Nat} {pm : Nat} {t : va_W} {m1 m2 m3 m4 m5 m6 m7 m8 m9 m10 m11 m12 : Int32} {m13 m14 m15 m16 m18 m19 m20 m21 : Nat → Int32} {m17 : Nat → Int64} {M_thrown : Int32} {p1 : Int32} {o : Int32 × Int32} (h : f_M_ok M_thrown p1 = some o) : Ct g mX11_ok 1 0 0 [.ref (am 0), .int p1] (wlM g am pm M_thrown m1 m2 m3 m4 m5 m6 m7 m8 m9 m10 m11 m12 m13 m14 m15 m16 m17 m18 m19 m20 m21 ++ t) (Dv (some (.int o.1)) (wlM g am pm o.2 m1 m2 m3 m4 m5 m6 m7 m8 m9 m10 m11 m12 m13 m14 m15 m16 m17 m18 m19 m20 m21 ++ t)) := Ct.ofR (by decide +kernel) rfl (Nat.le_of_ble_eq_true rfl) (rt_M_ok h ⟨rfl, rfl⟩)
set_option maxRecDepth 20000 in
set_option maxHeartbeats 4000000 in
theorem rt_M_has {g : GG}  {t : va_W}  {p0 : Int32} {p1 : Int32} {o : Int32} {Q : Rs → va_W → Prop} (h : f_M_has p0 p1 = o) (hq : Q (.inl (some (.int o))) t) : R g mX11_has 1 0 0 0 [(0, .int p0), (1, .int p1)] [] t Q := by
  unfold f_M_has at h
  refine r_iload_n 0 dX11_has_0 rfl ?_
  refine r_iload_n 1 dX11_has_1 rfl ?_
  refine r_ishr dX11_has_2 ?_
  refine r_iconst (v := (1 : Int32)) dX11_has_3 (by decide) ?_
  refine r_iand dX11_has_4 ?_
  refine r_iconst (v := (1 : Int32)) dX11_has_5 (by decide) ?_
  refine r_icmp_ne (tgt := 13) dX11_has_6 (by decide) (fun hc1583 => ?_) (fun hc1583 => ?_)
  · have h := iq (fun z9 => z9) hc1583 h
    refine r_iconst (v := (0 : Int32)) dX11_has_13 (by decide) ?_
    refine r_zret dX11_has_14 rfl (by decide) ?_
    have h : _ = o := h
    subst h
    exact hq
  · have h := ip (fun z9 => z9) hc1583 h
    refine r_iconst (v := (1 : Int32)) dX11_has_9 (by decide) ?_
    refine r_goto (tgt := 14) dX11_has_10 (by decide) ?_
    refine r_zret dX11_has_14 rfl (by decide) ?_
    have h : _ = o := h
    subst h
    exact hq
theorem ct_M_has {g : GG}  {t : va_W}  {p0 : Int32} {p1 : Int32} {o : Int32} (h : f_M_has p0 p1 = o) : Ct g mX11_has 1 0 0 [.int p0, .int p1] t (Dv (some (.int o)) t) := Ct.ofR (by decide +kernel) rfl (Nat.le_of_ble_eq_true rfl) (rt_M_has h ⟨rfl, rfl⟩)
set_option maxRecDepth 20000 in
set_option maxHeartbeats 4000000 in
theorem rt_M_isEvent {g : GG} {am : Nat → Nat} {ap : Nat → Nat} {t : va_W} {m0 m1 m2 m3 m4 m5 m6 m7 m8 m9 m10 m11 m12 u1 u2 u3 u4 : Int32} {m13 m14 m15 m16 m18 m19 m20 m21 u7 u8 u9 u10 u11 u12 u13 u14 u15 u16 u17 u18 : Nat → Int32} {m17 u5 u6 : Nat → Int64} {P_events : Int32} {p1 : Int32} {o : Int32} {Q : Rs → va_W → Prop} (h : f_M_isEvent P_events p1 = o) (hq : Q (.inl (some (.int o))) (wlM g am (ap 0) m0 m1 m2 m3 m4 m5 m6 m7 m8 m9 m10 m11 m12 m13 m14 m15 m16 m17 m18 m19 m20 m21 ++ (wlP g ap P_events u1 u2 u3 u4 u5 u6 u7 u8 u9 u10 u11 u12 u13 u14 u15 u16 u17 u18 ++ t))) : R g mX11_isEvent 2 0 0 0 [(0, .ref (am 0)), (1, .int p1)] [] (wlM g am (ap 0) m0 m1 m2 m3 m4 m5 m6 m7 m8 m9 m10 m11 m12 m13 m14 m15 m16 m17 m18 m19 m20 m21 ++ (wlP g ap P_events u1 u2 u3 u4 u5 u6 u7 u8 u9 u10 u11 u12 u13 u14 u15 u16 u17 u18 ++ t)) Q := by
  unfold f_M_isEvent at h
  refine r_iload_n 1 dX11_isEvent_0 rfl ?_
  refine r_iconst (v := (0 : Int32)) dX11_isEvent_1 (by decide) ?_
  refine r_aload_n 0 dX11_isEvent_2 rfl ?_
  refine r_getf (v := .ref (ap 0)) _ dX11_isEvent_3 fl_X11_20 lM_0 rfl ?_
  refine r_getf (v := .int P_events) _ dX11_isEvent_6 fl_X11_55 lP_0 rfl ?_
  refine r_iconst (v := (1 : Int32)) dX11_isEvent_9 (by decide) ?_
  refine r_isub dX11_isEvent_10 ?_
  refine c_S (rest := []) 0 0 dX11_isEvent_11 ks_X11_58 (ct_M_isIn rfl) rfl rfl (Nat.le_of_ble_eq_true rfl) (by decide) (by decide) ?_
  refine r_zret dX11_isEvent_14 rfl (zO_n (zb_M_isIn _ _ _)) ?_
  have h : _ = o := h
  subst h
  exact hq
theorem ct_M_isEvent {g : GG} {am : Nat → Nat} {ap : Nat → Nat} {t : va_W} {m0 m1 m2 m3 m4 m5 m6 m7 m8 m9 m10 m11 m12 u1 u2 u3 u4 : Int32} {m13 m14 m15 m16 m18 m19 m20 m21 u7 u8 u9 u10 u11 u12 u13 u14 u15 u16 u17 u18 : Nat → Int32} {m17 u5 u6 : Nat → Int64} {P_events : Int32} {p1 : Int32} {o : Int32} (h : f_M_isEvent P_events p1 = o) : Ct g mX11_isEvent 2 0 0 [.ref (am 0), .int p1] (wlM g am (ap 0) m0 m1 m2 m3 m4 m5 m6 m7 m8 m9 m10 m11 m12 m13 m14 m15 m16 m17 m18 m19 m20 m21 ++ (wlP g ap P_events u1 u2 u3 u4 u5 u6 u7 u8 u9 u10 u11 u12 u13 u14 u15 u16 u17 u18 ++ t)) (Dv (some (.int o)) (wlM g am (ap 0) m0 m1 m2 m3 m4 m5 m6 m7 m8 m9 m10 m11 m12 m13 m14 m15 m16 m17 m18 m19 m20 m21 ++ (wlP g ap P_events u1 u2 u3 u4 u5 u6 u7 u8 u9 u10 u11 u12 u13 u14 u15 u16 u17 u18 ++ t))) := Ct.ofR (by decide +kernel) rfl (Nat.le_of_ble_eq_true rfl) (rt_M_isEvent h ⟨rfl, rfl⟩)
set_option maxRecDepth 20000 in
set_option maxHeartbeats 4000000 in
theorem rt_M_isTeller {g : GG} {am : Nat → Nat} {ap : Nat → Nat} {t : va_W} {m0 m1 m2 m3 m4 m5 m6 m7 m8 m9 m10 m11 m12 u0 u2 u3 u4 : Int32} {m13 m14 m15 m16 m18 m19 m20 m21 u7 u8 u9 u10 u11 u12 u13 u14 u15 u16 u17 u18 : Nat → Int32} {m17 u5 u6 : Nat → Int64} {P_tellers : Int32} {p1 : Int32} {o : Int32} {Q : Rs → va_W → Prop} (h : f_M_isTeller P_tellers p1 = o) (hq : Q (.inl (some (.int o))) (wlM g am (ap 0) m0 m1 m2 m3 m4 m5 m6 m7 m8 m9 m10 m11 m12 m13 m14 m15 m16 m17 m18 m19 m20 m21 ++ (wlP g ap u0 P_tellers u2 u3 u4 u5 u6 u7 u8 u9 u10 u11 u12 u13 u14 u15 u16 u17 u18 ++ t))) : R g mX11_isTeller 2 0 0 0 [(0, .ref (am 0)), (1, .int p1)] [] (wlM g am (ap 0) m0 m1 m2 m3 m4 m5 m6 m7 m8 m9 m10 m11 m12 m13 m14 m15 m16 m17 m18 m19 m20 m21 ++ (wlP g ap u0 P_tellers u2 u3 u4 u5 u6 u7 u8 u9 u10 u11 u12 u13 u14 u15 u16 u17 u18 ++ t)) Q := by
  unfold f_M_isTeller at h
  refine r_iload_n 1 dX11_isTeller_0 rfl ?_
  refine r_iconst (v := (0 : Int32)) dX11_isTeller_1 (by decide) ?_
  refine r_aload_n 0 dX11_isTeller_2 rfl ?_
  refine r_getf (v := .ref (ap 0)) _ dX11_isTeller_3 fl_X11_20 lM_0 rfl ?_
  refine r_getf (v := .int P_tellers) _ dX11_isTeller_6 fl_X11_62 lP_0 rfl ?_
  refine r_iconst (v := (1 : Int32)) dX11_isTeller_9 (by decide) ?_
  refine r_isub dX11_isTeller_10 ?_
  refine c_S (rest := []) 0 0 dX11_isTeller_11 ks_X11_58 (ct_M_isIn rfl) rfl rfl (Nat.le_of_ble_eq_true rfl) (by decide) (by decide) ?_
  refine r_zret dX11_isTeller_14 rfl (zO_n (zb_M_isIn _ _ _)) ?_
  have h : _ = o := h
  subst h
  exact hq
theorem ct_M_isTeller {g : GG} {am : Nat → Nat} {ap : Nat → Nat} {t : va_W} {m0 m1 m2 m3 m4 m5 m6 m7 m8 m9 m10 m11 m12 u0 u2 u3 u4 : Int32} {m13 m14 m15 m16 m18 m19 m20 m21 u7 u8 u9 u10 u11 u12 u13 u14 u15 u16 u17 u18 : Nat → Int32} {m17 u5 u6 : Nat → Int64} {P_tellers : Int32} {p1 : Int32} {o : Int32} (h : f_M_isTeller P_tellers p1 = o) : Ct g mX11_isTeller 2 0 0 [.ref (am 0), .int p1] (wlM g am (ap 0) m0 m1 m2 m3 m4 m5 m6 m7 m8 m9 m10 m11 m12 m13 m14 m15 m16 m17 m18 m19 m20 m21 ++ (wlP g ap u0 P_tellers u2 u3 u4 u5 u6 u7 u8 u9 u10 u11 u12 u13 u14 u15 u16 u17 u18 ++ t)) (Dv (some (.int o)) (wlM g am (ap 0) m0 m1 m2 m3 m4 m5 m6 m7 m8 m9 m10 m11 m12 m13 m14 m15 m16 m17 m18 m19 m20 m21 ++ (wlP g ap u0 P_tellers u2 u3 u4 u5 u6 u7 u8 u9 u10 u11 u12 u13 u14 u15 u16 u17 u18 ++ t))) := Ct.ofR (by decide +kernel) rfl (Nat.le_of_ble_eq_true rfl) (rt_M_isTeller h ⟨rfl, rfl⟩)
set_option maxRecDepth 20000 in
set_option maxHeartbeats 4000000 in
theorem rt_M_isClaim {g : GG} {am : Nat → Nat} {ap : Nat → Nat} {t : va_W} {m0 m1 m2 m3 m4 m5 m6 m7 m8 m9 m10 m11 m12 u0 u1 u3 u4 : Int32} {m13 m14 m15 m16 m18 m19 m20 m21 u7 u8 u9 u10 u11 u12 u13 u14 u15 u16 u17 u18 : Nat → Int32} {m17 u5 u6 : Nat → Int64} {P_claims : Int32} {p1 : Int32} {o : Int32} {Q : Rs → va_W → Prop} (h : f_M_isClaim P_claims p1 = o) (hq : Q (.inl (some (.int o))) (wlM g am (ap 0) m0 m1 m2 m3 m4 m5 m6 m7 m8 m9 m10 m11 m12 m13 m14 m15 m16 m17 m18 m19 m20 m21 ++ (wlP g ap u0 u1 P_claims u3 u4 u5 u6 u7 u8 u9 u10 u11 u12 u13 u14 u15 u16 u17 u18 ++ t))) : R g mX11_isClaim 2 0 0 0 [(0, .ref (am 0)), (1, .int p1)] [] (wlM g am (ap 0) m0 m1 m2 m3 m4 m5 m6 m7 m8 m9 m10 m11 m12 m13 m14 m15 m16 m17 m18 m19 m20 m21 ++ (wlP g ap u0 u1 P_claims u3 u4 u5 u6 u7 u8 u9 u10 u11 u12 u13 u14 u15 u16 u17 u18 ++ t)) Q := by
  unfold f_M_isClaim at h
  refine r_iload_n 1 dX11_isClaim_0 rfl ?_
  refine r_iconst (v := (0 : Int32)) dX11_isClaim_1 (by decide) ?_
  refine r_aload_n 0 dX11_isClaim_2 rfl ?_
  refine r_getf (v := .ref (ap 0)) _ dX11_isClaim_3 fl_X11_20 lM_0 rfl ?_
  refine r_getf (v := .int P_claims) _ dX11_isClaim_6 fl_X11_65 lP_0 rfl ?_
  refine r_iconst (v := (1 : Int32)) dX11_isClaim_9 (by decide) ?_
  refine r_isub dX11_isClaim_10 ?_
  refine c_S (rest := []) 0 0 dX11_isClaim_11 ks_X11_58 (ct_M_isIn rfl) rfl rfl (Nat.le_of_ble_eq_true rfl) (by decide) (by decide) ?_
  refine r_zret dX11_isClaim_14 rfl (zO_n (zb_M_isIn _ _ _)) ?_
  have h : _ = o := h
  subst h
  exact hq
theorem ct_M_isClaim {g : GG} {am : Nat → Nat} {ap : Nat → Nat} {t : va_W} {m0 m1 m2 m3 m4 m5 m6 m7 m8 m9 m10 m11 m12 u0 u1 u3 u4 : Int32} {m13 m14 m15 m16 m18 m19 m20 m21 u7 u8 u9 u10 u11 u12 u13 u14 u15 u16 u17 u18 : Nat → Int32} {m17 u5 u6 : Nat → Int64} {P_claims : Int32} {p1 : Int32} {o : Int32} (h : f_M_isClaim P_claims p1 = o) : Ct g mX11_isClaim 2 0 0 [.ref (am 0), .int p1] (wlM g am (ap 0) m0 m1 m2 m3 m4 m5 m6 m7 m8 m9 m10 m11 m12 m13 m14 m15 m16 m17 m18 m19 m20 m21 ++ (wlP g ap u0 u1 P_claims u3 u4 u5 u6 u7 u8 u9 u10 u11 u12 u13 u14 u15 u16 u17 u18 ++ t)) (Dv (some (.int o)) (wlM g am (ap 0) m0 m1 m2 m3 m4 m5 m6 m7 m8 m9 m10 m11 m12 m13 m14 m15 m16 m17 m18 m19 m20 m21 ++ (wlP g ap u0 u1 P_claims u3 u4 u5 u6 u7 u8 u9 u10 u11 u12 u13 u14 u15 u16 u17 u18 ++ t))) := Ct.ofR (by decide +kernel) rfl (Nat.le_of_ble_eq_true rfl) (rt_M_isClaim h ⟨rfl, rfl⟩)
set_option maxRecDepth 20000 in
set_option maxHeartbeats 4000000 in
theorem rt_M_weave {g : GG} {am : Nat → Nat} {ap : Nat → Nat} {t : va_W} {m0 m1 m2 m3 m4 m5 m6 m7 m8 m10 m11 m12 u0 u1 u3 u4 : Int32} {m13 m14 m15 m16 m18 m20 m21 u12 u13 u14 u15 u16 u17 u18 : Nat → Int32} {m17 u5 u6 : Nat → Int64} {N : Nat} {M_looked : Int32} {M_against : Nat → Int32} {P_claims : Int32} {P_kind : Nat → Int32} {P_by : Nat → Int32} {P_of : Nat → Int32} {P_other : Nat → Int32} {P_last : Nat → Int32} {o : Int32 × (Nat → Int32)} {Q : Rs → va_W → Prop} (h : f_M_weave N M_looked M_against P_claims P_kind P_by P_of P_other P_last = some o) (hq : Q (.inl (none)) (wlM g am (ap 0) m0 m1 m2 m3 m4 m5 m6 m7 m8 o.1 m10 m11 m12 m13 m14 m15 m16 m17 m18 o.2 m20 m21 ++ (wlP g ap u0 u1 P_claims u3 u4 u5 u6 P_kind P_by P_of P_other P_last u12 u13 u14 u15 u16 u17 u18 ++ t))) : R g mX11_weave 5 0 0 0 [(0, .ref (am 0))] [] (wlM g am (ap 0) m0 m1 m2 m3 m4 m5 m6 m7 m8 M_looked m10 m11 m12 m13 m14 m15 m16 m17 m18 M_against m20 m21 ++ (wlP g ap u0 u1 P_claims u3 u4 u5 u6 P_kind P_by P_of P_other P_last u12 u13 u14 u15 u16 u17 u18 ++ t)) Q := by
  unfold f_M_weave at h
  refine r_aload_n 0 dX11_weave_0 rfl ?_
  refine r_iconst (v := (-1 : Int32)) dX11_weave_1 (by decide) ?_
  refine r_putf _ dX11_weave_2 fl_X11_43 lM_0 (Nat.le_of_ble_eq_true rfl) rfl rfl (sM_9 _) ?_
  refine r_iconst (v := (0 : Int32)) dX11_weave_5 (by decide) ?_
  refine r_istore_n [(1, .int (0 : Int32)), (0, .ref (am 0))] dX11_weave_6 (by decide) rfl ?_
  refine r_ls [1, 0] (ls2 := [(0, .ref (am 0)), (1, .int (0 : Int32))]) rfl ?_
  have L1 : ∀ (n1 : Nat) (l1_1 : Int32) (M_against_1 : Nat → Int32), (fun z9 => z9) (lpS (f_M_weave_L7 N P_claims P_kind P_by P_of P_other P_last) none n1 (l1_1, M_against_1)) = some o → R g mX11_weave 5 0 0 7 [(0, .ref (am 0)), (1, .int l1_1)] [] (wlM g am (ap 0) m0 m1 m2 m3 m4 m5 m6 m7 m8 (-1 : Int32) m10 m11 m12 m13 m14 m15 m16 m17 m18 M_against_1 m20 m21 ++ (wlP g ap u0 u1 P_claims u3 u4 u5 u6 P_kind P_by P_of P_other P_last u12 u13 u14 u15 u16 u17 u18 ++ t)) Q := by
    intro n1
    induction n1 with
    | zero => intro l1_1 M_against_1 h; exact nomatch (show (none : Option _) = some _ from h)
    | succ n1 ih1 =>
      intro l1_1 M_against_1 h
      have h : (fun z9 => (lC (f_M_weave_L7 N P_claims P_kind P_by P_of P_other P_last) none n1 z9)) (f_M_weave_L7 N P_claims P_kind P_by P_of P_other P_last (l1_1, M_against_1)) = some o := h
      unfold f_M_weave_L7 at h
      try dsimp only at h
      refine r_iload_n 1 dX11_weave_7 rfl ?_
      refine r_bipush (v := (10 : Int32)) dX11_weave_8 (by decide) ?_
      refine r_icmp_ge (tgt := 26) dX11_weave_10 (by decide) (fun hc1584 => ?_) (fun hc1584 => ?_)
      · have h := ip (fun z9 => (lC (f_M_weave_L7 N P_claims P_kind P_by P_of P_other P_last) none n1 z9)) hc1584 h
        refine r_iconst (v := (0 : Int32)) dX11_weave_26 (by decide) ?_
        refine r_istore_n [(1, .int (0 : Int32)), (0, .ref (am 0))] dX11_weave_27 (by decide) rfl ?_
        refine r_ls [1, 0] (ls2 := [(0, .ref (am 0)), (1, .int (0 : Int32))]) rfl ?_
        have L2 : ∀ (n2 : Nat) (l1_2 : Int32) (M_against_2 : Nat → Int32), (fun z9 => (lC (f_M_weave_L7 N P_claims P_kind P_by P_of P_other P_last) none n1 z9)) (lpS (f_M_weave_L28 N P_claims P_kind P_by P_of P_other P_last) (.inr none) n2 (l1_2, M_against_2)) = some o → R g mX11_weave 5 0 0 28 [(0, .ref (am 0)), (1, .int l1_2)] [] (wlM g am (ap 0) m0 m1 m2 m3 m4 m5 m6 m7 m8 (-1 : Int32) m10 m11 m12 m13 m14 m15 m16 m17 m18 M_against_2 m20 m21 ++ (wlP g ap u0 u1 P_claims u3 u4 u5 u6 P_kind P_by P_of P_other P_last u12 u13 u14 u15 u16 u17 u18 ++ t)) Q := by
          intro n2
          induction n2 with
          | zero => intro l1_2 M_against_2 h; exact nomatch (show (none : Option _) = some _ from h)
          | succ n2 ih2 =>
            intro l1_2 M_against_2 h
            have h : (fun z9 => (lC (f_M_weave_L7 N P_claims P_kind P_by P_of P_other P_last) none n1 (lC (f_M_weave_L28 N P_claims P_kind P_by P_of P_other P_last) (.inr none) n2 z9))) (f_M_weave_L28 N P_claims P_kind P_by P_of P_other P_last (l1_2, M_against_2)) = some o := h
            unfold f_M_weave_L28 at h
            try dsimp only at h
            refine r_iload_n 1 dX11_weave_28 rfl ?_
            refine r_aload_n 0 dX11_weave_29 rfl ?_
            refine r_getf (v := .ref (ap 0)) _ dX11_weave_30 fl_X11_20 lM_0 rfl ?_
            refine r_getf (v := .int P_claims) _ dX11_weave_33 fl_X11_65 lP_0 rfl ?_
            refine r_icmp_ge (tgt := 126) dX11_weave_36 (by decide) (fun hc1585 => ?_) (fun hc1585 => ?_)
            · have h := ip (fun z9 => (lC (f_M_weave_L7 N P_claims P_kind P_by P_of P_other P_last) none n1 (lC (f_M_weave_L28 N P_claims P_kind P_by P_of P_other P_last) (.inr none) n2 z9))) hc1585 h
              refine r_vret dX11_weave_126 rfl ?_
              have h := Option.some.inj (show some _ = some o from h)
              subst h
              exact hq
            · have h := iq (fun z9 => (lC (f_M_weave_L7 N P_claims P_kind P_by P_of P_other P_last) none n1 (lC (f_M_weave_L28 N P_claims P_kind P_by P_of P_other P_last) (.inr none) n2 z9))) hc1585 h
              refine r_iconst (v := (0 : Int32)) dX11_weave_39 (by decide) ?_
              refine r_istore_n [(2, .int (0 : Int32)), (0, .ref (am 0)), (1, .int l1_2)] dX11_weave_40 (by decide) rfl ?_
              refine r_ls [1, 2, 0] (ls2 := [(0, .ref (am 0)), (1, .int l1_2), (2, .int (0 : Int32))]) rfl ?_
              have L3 : ∀ (n3 : Nat) (l2_3 : Int32) (M_against_3 : Nat → Int32), (fun z9 => (lC (f_M_weave_L7 N P_claims P_kind P_by P_of P_other P_last) none n1 (lC (f_M_weave_L28 N P_claims P_kind P_by P_of P_other P_last) (.inr none) n2 z9))) (lpS (f_M_weave_L41 N P_kind P_by P_of P_other P_last l1_2) (.inr (.inr none)) n3 (l2_3, M_against_3)) = some o → R g mX11_weave 5 0 0 41 [(0, .ref (am 0)), (1, .int l1_2), (2, .int l2_3)] [] (wlM g am (ap 0) m0 m1 m2 m3 m4 m5 m6 m7 m8 (-1 : Int32) m10 m11 m12 m13 m14 m15 m16 m17 m18 M_against_3 m20 m21 ++ (wlP g ap u0 u1 P_claims u3 u4 u5 u6 P_kind P_by P_of P_other P_last u12 u13 u14 u15 u16 u17 u18 ++ t)) Q := by
                intro n3
                induction n3 with
                | zero => intro l2_3 M_against_3 h; exact nomatch (show (none : Option _) = some _ from h)
                | succ n3 ih3 =>
                  intro l2_3 M_against_3 h
                  have h : (fun z9 => (lC (f_M_weave_L7 N P_claims P_kind P_by P_of P_other P_last) none n1 (lC (f_M_weave_L28 N P_claims P_kind P_by P_of P_other P_last) (.inr none) n2 (lC (f_M_weave_L41 N P_kind P_by P_of P_other P_last l1_2) (.inr (.inr none)) n3 z9)))) (f_M_weave_L41 N P_kind P_by P_of P_other P_last l1_2 (l2_3, M_against_3)) = some o := h
                  unfold f_M_weave_L41 at h
                  try dsimp only at h
                  refine r_iload_n 2 dX11_weave_41 rfl ?_
                  refine r_iload_n 1 dX11_weave_42 rfl ?_
                  refine r_icmp_ge (tgt := 120) dX11_weave_43 (by decide) (fun hc1586 => ?_) (fun hc1586 => ?_)
                  · have h := ip (fun z9 => (lC (f_M_weave_L7 N P_claims P_kind P_by P_of P_other P_last) none n1 (lC (f_M_weave_L28 N P_claims P_kind P_by P_of P_other P_last) (.inr none) n2 (lC (f_M_weave_L41 N P_kind P_by P_of P_other P_last l1_2) (.inr (.inr none)) n3 z9)))) hc1586 h
                    refine r_iinc (v2 := (l1_2 + (1 : Int32))) 1 [(1, .int (l1_2 + (1 : Int32))), (0, .ref (am 0)), (2, .int l2_3)] dX11_weave_120 rfl rfl (by decide) rfl ?_
                    refine r_goto (tgt := 28) dX11_weave_123 (by decide) ?_
                    refine r_ls [1, 0] (ls2 := [(0, .ref (am 0)), (1, .int (l1_2 + (1 : Int32)))]) rfl ?_
                    exact ih2 (l1_2 + (1 : Int32)) M_against_3 h
                  · have h := iq (fun z9 => (lC (f_M_weave_L7 N P_claims P_kind P_by P_of P_other P_last) none n1 (lC (f_M_weave_L28 N P_claims P_kind P_by P_of P_other P_last) (.inr none) n2 (lC (f_M_weave_L41 N P_kind P_by P_of P_other P_last l1_2) (.inr (.inr none)) n3 z9)))) hc1586 h
                    refine r_aload_n 0 dX11_weave_46 rfl ?_
                    refine r_iload_n 1 dX11_weave_47 rfl ?_
                    refine r_iload_n 2 dX11_weave_48 rfl ?_
                    obtain ⟨r1587, hc1588, h⟩ := ob (fun z9 => (lC (f_M_weave_L7 N P_claims P_kind P_by P_of P_other P_last) none n1 (lC (f_M_weave_L28 N P_claims P_kind P_by P_of P_other P_last) (.inr none) n2 (lC (f_M_weave_L41 N P_kind P_by P_of P_other P_last l1_2) (.inr (.inr none)) n3 z9)))) rfl h
                    refine c_V (rest := []) 0 0 _ dX11_weave_49 kv_X11_69 (ct_M_contraryR_0 hc1588) rfl rfl lM_0 rfl (Nat.le_of_ble_eq_true rfl) (by decide) (by decide) ?_
                    refine r_if_ne (tgt := 58) dX11_weave_52 (by decide) (fun hc1589 => ?_) (fun hc1589 => ?_)
                    · have h := iq (fun z9 => (lC (f_M_weave_L7 N P_claims P_kind P_by P_of P_other P_last) none n1 (lC (f_M_weave_L28 N P_claims P_kind P_by P_of P_other P_last) (.inr none) n2 (lC (f_M_weave_L41 N P_kind P_by P_of P_other P_last l1_2) (.inr (.inr none)) n3 z9)))) hc1589 h
                      refine r_aload_n 0 dX11_weave_58 rfl ?_
                      refine r_getf (v := .ref (am 7)) _ dX11_weave_59 fl_X11_40 lM_0 rfl ?_
                      refine r_aload_n 0 dX11_weave_62 rfl ?_
                      refine r_getf (v := .ref (ap 0)) _ dX11_weave_63 fl_X11_20 lM_0 rfl ?_
                      refine r_getf (v := .ref (ap 4)) _ dX11_weave_66 fl_X11_82 lP_0 rfl ?_
                      refine r_iload_n 1 dX11_weave_69 rfl ?_
                      obtain ⟨hb1590, h⟩ := gd (fun z9 => (lC (f_M_weave_L7 N P_claims P_kind P_by P_of P_other P_last) none n1 (lC (f_M_weave_L28 N P_claims P_kind P_by P_of P_other P_last) (.inr none) n2 (lC (f_M_weave_L41 N P_kind P_by P_of P_other P_last l1_2) (.inr (.inr none)) n3 z9)))) rfl h
                      refine r_iald _ dX11_weave_70 lP_4 hb1590 ?_
                      refine r_dup2 dX11_weave_71 rfl rfl ?_
                      obtain ⟨hb1591, h⟩ := gd (fun z9 => (lC (f_M_weave_L7 N P_claims P_kind P_by P_of P_other P_last) none n1 (lC (f_M_weave_L28 N P_claims P_kind P_by P_of P_other P_last) (.inr none) n2 (lC (f_M_weave_L41 N P_kind P_by P_of P_other P_last l1_2) (.inr (.inr none)) n3 z9)))) rfl h
                      refine r_iald _ dX11_weave_72 lM_7 hb1591 ?_
                      refine r_iconst (v := (1 : Int32)) dX11_weave_73 (by decide) ?_
                      refine r_aload_n 0 dX11_weave_74 rfl ?_
                      refine r_getf (v := .ref (ap 0)) _ dX11_weave_75 fl_X11_20 lM_0 rfl ?_
                      refine r_getf (v := .ref (ap 4)) _ dX11_weave_78 fl_X11_82 lP_0 rfl ?_
                      refine r_iload_n 2 dX11_weave_81 rfl ?_
                      obtain ⟨hb1592, h⟩ := gd (fun z9 => (lC (f_M_weave_L7 N P_claims P_kind P_by P_of P_other P_last) none n1 (lC (f_M_weave_L28 N P_claims P_kind P_by P_of P_other P_last) (.inr none) n2 (lC (f_M_weave_L41 N P_kind P_by P_of P_other P_last l1_2) (.inr (.inr none)) n3 z9)))) rfl h
                      refine r_iald _ dX11_weave_82 lP_4 hb1592 ?_
                      refine r_ishl dX11_weave_83 ?_
                      refine r_ior dX11_weave_84 ?_
                      obtain ⟨hb1593, h⟩ := gd (fun z9 => (lC (f_M_weave_L7 N P_claims P_kind P_by P_of P_other P_last) none n1 (lC (f_M_weave_L28 N P_claims P_kind P_by P_of P_other P_last) (.inr none) n2 (lC (f_M_weave_L41 N P_kind P_by P_of P_other P_last l1_2) (.inr (.inr none)) n3 z9)))) rfl h
                      refine r_iast _ dX11_weave_85 lM_7 hb1593 (sM_19 _) ?_
                      refine r_aload_n 0 dX11_weave_86 rfl ?_
                      refine r_getf (v := .ref (am 7)) _ dX11_weave_87 fl_X11_40 lM_0 rfl ?_
                      refine r_aload_n 0 dX11_weave_90 rfl ?_
                      refine r_getf (v := .ref (ap 0)) _ dX11_weave_91 fl_X11_20 lM_0 rfl ?_
                      refine r_getf (v := .ref (ap 4)) _ dX11_weave_94 fl_X11_82 lP_0 rfl ?_
                      refine r_iload_n 2 dX11_weave_97 rfl ?_
                      obtain ⟨hb1594, h⟩ := gd (fun z9 => (lC (f_M_weave_L7 N P_claims P_kind P_by P_of P_other P_last) none n1 (lC (f_M_weave_L28 N P_claims P_kind P_by P_of P_other P_last) (.inr none) n2 (lC (f_M_weave_L41 N P_kind P_by P_of P_other P_last l1_2) (.inr (.inr none)) n3 z9)))) rfl h
                      refine r_iald _ dX11_weave_98 lP_4 hb1594 ?_
                      refine r_dup2 dX11_weave_99 rfl rfl ?_
                      obtain ⟨hb1595, h⟩ := gd (fun z9 => (lC (f_M_weave_L7 N P_claims P_kind P_by P_of P_other P_last) none n1 (lC (f_M_weave_L28 N P_claims P_kind P_by P_of P_other P_last) (.inr none) n2 (lC (f_M_weave_L41 N P_kind P_by P_of P_other P_last l1_2) (.inr (.inr none)) n3 z9)))) rfl h
                      refine r_iald _ dX11_weave_100 lM_7 hb1595 ?_
                      refine r_iconst (v := (1 : Int32)) dX11_weave_101 (by decide) ?_
                      refine r_aload_n 0 dX11_weave_102 rfl ?_
                      refine r_getf (v := .ref (ap 0)) _ dX11_weave_103 fl_X11_20 lM_0 rfl ?_
                      refine r_getf (v := .ref (ap 4)) _ dX11_weave_106 fl_X11_82 lP_0 rfl ?_
                      refine r_iload_n 1 dX11_weave_109 rfl ?_
                      obtain ⟨hb1596, h⟩ := gd (fun z9 => (lC (f_M_weave_L7 N P_claims P_kind P_by P_of P_other P_last) none n1 (lC (f_M_weave_L28 N P_claims P_kind P_by P_of P_other P_last) (.inr none) n2 (lC (f_M_weave_L41 N P_kind P_by P_of P_other P_last l1_2) (.inr (.inr none)) n3 z9)))) rfl h
                      refine r_iald _ dX11_weave_110 lP_4 hb1596 ?_
                      refine r_ishl dX11_weave_111 ?_
                      refine r_ior dX11_weave_112 ?_
                      obtain ⟨hb1597, h⟩ := gd (fun z9 => (lC (f_M_weave_L7 N P_claims P_kind P_by P_of P_other P_last) none n1 (lC (f_M_weave_L28 N P_claims P_kind P_by P_of P_other P_last) (.inr none) n2 (lC (f_M_weave_L41 N P_kind P_by P_of P_other P_last l1_2) (.inr (.inr none)) n3 z9)))) rfl h
                      refine r_iast _ dX11_weave_113 lM_7 hb1597 (sM_19 _) ?_
                      refine r_iinc (v2 := (l2_3 + (1 : Int32))) 2 [(2, .int (l2_3 + (1 : Int32))), (0, .ref (am 0)), (1, .int l1_2)] dX11_weave_114 rfl rfl (by decide) rfl ?_
                      refine r_goto (tgt := 41) dX11_weave_117 (by decide) ?_
                      refine r_ls [1, 2, 0] (ls2 := [(0, .ref (am 0)), (1, .int l1_2), (2, .int (l2_3 + (1 : Int32)))]) rfl ?_
                      exact ih3 (l2_3 + (1 : Int32)) (upd (upd M_against_3 (P_by l1_2.toNatClampNeg).toNatClampNeg ((M_against_3 (P_by l1_2.toNatClampNeg).toNatClampNeg) ||| ((1 : Int32) <<< ((P_by l2_3.toNatClampNeg) &&& 31)))) (P_by l2_3.toNatClampNeg).toNatClampNeg (((upd M_against_3 (P_by l1_2.toNatClampNeg).toNatClampNeg ((M_against_3 (P_by l1_2.toNatClampNeg).toNatClampNeg) ||| ((1 : Int32) <<< ((P_by l2_3.toNatClampNeg) &&& 31)))) (P_by l2_3.toNatClampNeg).toNatClampNeg) ||| ((1 : Int32) <<< ((P_by l1_2.toNatClampNeg) &&& 31)))) h
                    · have h := ip (fun z9 => (lC (f_M_weave_L7 N P_claims P_kind P_by P_of P_other P_last) none n1 (lC (f_M_weave_L28 N P_claims P_kind P_by P_of P_other P_last) (.inr none) n2 (lC (f_M_weave_L41 N P_kind P_by P_of P_other P_last l1_2) (.inr (.inr none)) n3 z9)))) hc1589 h
                      refine r_goto (tgt := 114) dX11_weave_55 (by decide) ?_
                      refine r_iinc (v2 := (l2_3 + (1 : Int32))) 2 [(2, .int (l2_3 + (1 : Int32))), (0, .ref (am 0)), (1, .int l1_2)] dX11_weave_114 rfl rfl (by decide) rfl ?_
                      refine r_goto (tgt := 41) dX11_weave_117 (by decide) ?_
                      refine r_ls [1, 2, 0] (ls2 := [(0, .ref (am 0)), (1, .int l1_2), (2, .int (l2_3 + (1 : Int32)))]) rfl ?_
                      exact ih3 (l2_3 + (1 : Int32)) M_against_3 h
              exact L3 _ (0 : Int32) M_against_2 h
        exact L2 _ (0 : Int32) M_against_1 h
      · have h := iq (fun z9 => (lC (f_M_weave_L7 N P_claims P_kind P_by P_of P_other P_last) none n1 z9)) hc1584 h
        refine r_aload_n 0 dX11_weave_13 rfl ?_
        refine r_getf (v := .ref (am 7)) _ dX11_weave_14 fl_X11_40 lM_0 rfl ?_
        refine r_iload_n 1 dX11_weave_17 rfl ?_
        refine r_iconst (v := (0 : Int32)) dX11_weave_18 (by decide) ?_
        obtain ⟨hb1598, h⟩ := gd (fun z9 => (lC (f_M_weave_L7 N P_claims P_kind P_by P_of P_other P_last) none n1 z9)) rfl h
        refine r_iast _ dX11_weave_19 lM_7 hb1598 (sM_19 _) ?_
        refine r_iinc (v2 := (l1_1 + (1 : Int32))) 1 [(1, .int (l1_1 + (1 : Int32))), (0, .ref (am 0))] dX11_weave_20 rfl rfl (by decide) rfl ?_
        refine r_goto (tgt := 7) dX11_weave_23 (by decide) ?_
        refine r_ls [1, 0] (ls2 := [(0, .ref (am 0)), (1, .int (l1_1 + (1 : Int32)))]) rfl ?_
        exact ih1 (l1_1 + (1 : Int32)) (upd M_against_1 l1_1.toNatClampNeg (0 : Int32)) h
  exact L1 _ (0 : Int32) M_against h
theorem ct_M_weave {g : GG} {am : Nat → Nat} {ap : Nat → Nat} {t : va_W} {m0 m1 m2 m3 m4 m5 m6 m7 m8 m10 m11 m12 u0 u1 u3 u4 : Int32} {m13 m14 m15 m16 m18 m20 m21 u12 u13 u14 u15 u16 u17 u18 : Nat → Int32} {m17 u5 u6 : Nat → Int64} {N : Nat} {M_looked : Int32} {M_against : Nat → Int32} {P_claims : Int32} {P_kind : Nat → Int32} {P_by : Nat → Int32} {P_of : Nat → Int32} {P_other : Nat → Int32} {P_last : Nat → Int32} {o : Int32 × (Nat → Int32)} (h : f_M_weave N M_looked M_against P_claims P_kind P_by P_of P_other P_last = some o) : Ct g mX11_weave 5 0 0 [.ref (am 0)] (wlM g am (ap 0) m0 m1 m2 m3 m4 m5 m6 m7 m8 M_looked m10 m11 m12 m13 m14 m15 m16 m17 m18 M_against m20 m21 ++ (wlP g ap u0 u1 P_claims u3 u4 u5 u6 P_kind P_by P_of P_other P_last u12 u13 u14 u15 u16 u17 u18 ++ t)) (Dv (none) (wlM g am (ap 0) m0 m1 m2 m3 m4 m5 m6 m7 m8 o.1 m10 m11 m12 m13 m14 m15 m16 m17 m18 o.2 m20 m21 ++ (wlP g ap u0 u1 P_claims u3 u4 u5 u6 P_kind P_by P_of P_other P_last u12 u13 u14 u15 u16 u17 u18 ++ t))) := Ct.ofR (by decide +kernel) rfl (Nat.le_of_ble_eq_true rfl) (rt_M_weave h ⟨rfl, rfl⟩)
set_option maxRecDepth 20000 in
set_option maxHeartbeats 4000000 in
theorem rt_M_believed {g : GG} {am : Nat → Nat} {ap : Nat → Nat} {t : va_W} {m0 m1 m2 m3 m4 m5 m7 m8 m9 m10 m11 m12 u0 u2 u3 u4 : Int32} {m13 m14 m15 m16 m18 m19 m20 m21 u7 u8 u9 u10 u11 u12 u13 u14 u15 u16 u17 u18 : Nat → Int32} {m17 u5 u6 : Nat → Int64} {M_doubted : Int32} {P_tellers : Int32} {o : Int32} {Q : Rs → va_W → Prop} (h : f_M_believed M_doubted P_tellers = o) (hq : Q (.inl (some (.int o))) (wlM g am (ap 0) m0 m1 m2 m3 m4 m5 M_doubted m7 m8 m9 m10 m11 m12 m13 m14 m15 m16 m17 m18 m19 m20 m21 ++ (wlP g ap u0 P_tellers u2 u3 u4 u5 u6 u7 u8 u9 u10 u11 u12 u13 u14 u15 u16 u17 u18 ++ t))) : R g mX11_believed 1 0 0 0 [(0, .ref (am 0))] [] (wlM g am (ap 0) m0 m1 m2 m3 m4 m5 M_doubted m7 m8 m9 m10 m11 m12 m13 m14 m15 m16 m17 m18 m19 m20 m21 ++ (wlP g ap u0 P_tellers u2 u3 u4 u5 u6 u7 u8 u9 u10 u11 u12 u13 u14 u15 u16 u17 u18 ++ t)) Q := by
  unfold f_M_believed at h
  refine r_iconst (v := (1 : Int32)) dX11_believed_0 (by decide) ?_
  refine r_aload_n 0 dX11_believed_1 rfl ?_
  refine r_getf (v := .ref (ap 0)) _ dX11_believed_2 fl_X11_20 lM_0 rfl ?_
  refine r_getf (v := .int P_tellers) _ dX11_believed_5 fl_X11_62 lP_0 rfl ?_
  refine r_ishl dX11_believed_8 ?_
  refine r_iconst (v := (1 : Int32)) dX11_believed_9 (by decide) ?_
  refine r_isub dX11_believed_10 ?_
  refine r_aload_n 0 dX11_believed_11 rfl ?_
  refine r_getf (v := .int M_doubted) _ dX11_believed_12 fl_X11_85 lM_0 rfl ?_
  refine r_iconst (v := (-1 : Int32)) dX11_believed_15 (by decide) ?_
  refine r_ixor dX11_believed_16 ?_
  refine r_iand dX11_believed_17 ?_
  refine r_iret dX11_believed_18 rfl ?_
  have h : _ = o := h
  subst h
  exact hq
theorem ct_M_believed {g : GG} {am : Nat → Nat} {ap : Nat → Nat} {t : va_W} {m0 m1 m2 m3 m4 m5 m7 m8 m9 m10 m11 m12 u0 u2 u3 u4 : Int32} {m13 m14 m15 m16 m18 m19 m20 m21 u7 u8 u9 u10 u11 u12 u13 u14 u15 u16 u17 u18 : Nat → Int32} {m17 u5 u6 : Nat → Int64} {M_doubted : Int32} {P_tellers : Int32} {o : Int32} (h : f_M_believed M_doubted P_tellers = o) : Ct g mX11_believed 1 0 0 [.ref (am 0)] (wlM g am (ap 0) m0 m1 m2 m3 m4 m5 M_doubted m7 m8 m9 m10 m11 m12 m13 m14 m15 m16 m17 m18 m19 m20 m21 ++ (wlP g ap u0 P_tellers u2 u3 u4 u5 u6 u7 u8 u9 u10 u11 u12 u13 u14 u15 u16 u17 u18 ++ t)) (Dv (some (.int o)) (wlM g am (ap 0) m0 m1 m2 m3 m4 m5 M_doubted m7 m8 m9 m10 m11 m12 m13 m14 m15 m16 m17 m18 m19 m20 m21 ++ (wlP g ap u0 P_tellers u2 u3 u4 u5 u6 u7 u8 u9 u10 u11 u12 u13 u14 u15 u16 u17 u18 ++ t))) := Ct.ofR (by decide +kernel) rfl (Nat.le_of_ble_eq_true rfl) (rt_M_believed h ⟨rfl, rfl⟩)
set_option maxRecDepth 20000 in
set_option maxHeartbeats 4000000 in
theorem rt_M_doContradictNow {g : GG} {am : Nat → Nat} {pm : Nat} {t : va_W} {m0 m1 m2 m3 m4 m5 m7 m8 m9 m10 m11 m12 : Int32} {m13 m14 m15 m16 m18 m20 m21 : Nat → Int32} {m17 : Nat → Int64} {M_doubted : Int32} {M_against : Nat → Int32} {p1 : Int32} {p2 : Int32} {o : Int32} {Q : Rs → va_W → Prop} (h : f_M_doContradictNow M_doubted M_against p1 p2 = some o) (hq : Q (.inl (some (.int o))) (wlM g am pm m0 m1 m2 m3 m4 m5 M_doubted m7 m8 m9 m10 m11 m12 m13 m14 m15 m16 m17 m18 M_against m20 m21 ++ t)) : R g mX11_doContradictNow 2 0 0 0 [(0, .ref (am 0)), (1, .int p1), (2, .int p2)] [] (wlM g am pm m0 m1 m2 m3 m4 m5 M_doubted m7 m8 m9 m10 m11 m12 m13 m14 m15 m16 m17 m18 M_against m20 m21 ++ t) Q := by
  unfold f_M_doContradictNow at h
  refine r_aload_n 0 dX11_doContradictNow_0 rfl ?_
  refine r_getf (v := .int M_doubted) _ dX11_doContradictNow_1 fl_X11_85 lM_0 rfl ?_
  refine r_iload_n 1 dX11_doContradictNow_4 rfl ?_
  refine c_S (rest := []) 0 0 dX11_doContradictNow_5 ks_X11_88 (ct_M_has rfl) rfl rfl (Nat.le_of_ble_eq_true rfl) (by decide) (by decide) ?_
  refine r_if_ne (tgt := 39) dX11_doContradictNow_8 (by decide) (fun hc1599 => ?_) (fun hc1599 => ?_)
  · have h := iq (fun z9 => z9) hc1599 h
    refine r_iconst (v := (0 : Int32)) dX11_doContradictNow_39 (by decide) ?_
    refine r_zret dX11_doContradictNow_40 rfl (by decide) ?_
    have h := Option.some.inj (show some _ = some o from h)
    subst h
    exact hq
  · have h := ip (fun z9 => z9) hc1599 h
    refine r_aload_n 0 dX11_doContradictNow_11 rfl ?_
    refine r_getf (v := .int M_doubted) _ dX11_doContradictNow_12 fl_X11_85 lM_0 rfl ?_
    refine r_iload_n 2 dX11_doContradictNow_15 rfl ?_
    refine c_S (rest := []) 0 0 dX11_doContradictNow_16 ks_X11_88 (ct_M_has rfl) rfl rfl (Nat.le_of_ble_eq_true rfl) (by decide) (by decide) ?_
    refine r_if_ne (tgt := 39) dX11_doContradictNow_19 (by decide) (fun hc1600 => ?_) (fun hc1600 => ?_)
    · have h := iq (fun z9 => z9) hc1600 h
      refine r_iconst (v := (0 : Int32)) dX11_doContradictNow_39 (by decide) ?_
      refine r_zret dX11_doContradictNow_40 rfl (by decide) ?_
      have h := Option.some.inj (show some _ = some o from h)
      subst h
      exact hq
    · have h := ip (fun z9 => z9) hc1600 h
      refine r_aload_n 0 dX11_doContradictNow_22 rfl ?_
      refine r_getf (v := .ref (am 7)) _ dX11_doContradictNow_23 fl_X11_40 lM_0 rfl ?_
      refine r_iload_n 1 dX11_doContradictNow_26 rfl ?_
      obtain ⟨hb1601, h⟩ := gd (fun z9 => z9) rfl h
      refine r_iald _ dX11_doContradictNow_27 lM_7 hb1601 ?_
      refine r_iload_n 2 dX11_doContradictNow_28 rfl ?_
      refine c_S (rest := []) 0 0 dX11_doContradictNow_29 ks_X11_88 (ct_M_has rfl) rfl rfl (Nat.le_of_ble_eq_true rfl) (by decide) (by decide) ?_
      refine r_if_eq (tgt := 39) dX11_doContradictNow_32 (by decide) (fun hc1602 => ?_) (fun hc1602 => ?_)
      · have h := ip (fun z9 => z9) hc1602 h
        refine r_iconst (v := (0 : Int32)) dX11_doContradictNow_39 (by decide) ?_
        refine r_zret dX11_doContradictNow_40 rfl (by decide) ?_
        have h := Option.some.inj (show some _ = some o from h)
        subst h
        exact hq
      · have h := iq (fun z9 => z9) hc1602 h
        refine r_iconst (v := (1 : Int32)) dX11_doContradictNow_35 (by decide) ?_
        refine r_goto (tgt := 40) dX11_doContradictNow_36 (by decide) ?_
        refine r_zret dX11_doContradictNow_40 rfl (by decide) ?_
        have h := Option.some.inj (show some _ = some o from h)
        subst h
        exact hq
theorem ct_M_doContradictNow {g : GG} {am : Nat → Nat} {pm : Nat} {t : va_W} {m0 m1 m2 m3 m4 m5 m7 m8 m9 m10 m11 m12 : Int32} {m13 m14 m15 m16 m18 m20 m21 : Nat → Int32} {m17 : Nat → Int64} {M_doubted : Int32} {M_against : Nat → Int32} {p1 : Int32} {p2 : Int32} {o : Int32} (h : f_M_doContradictNow M_doubted M_against p1 p2 = some o) : Ct g mX11_doContradictNow 2 0 0 [.ref (am 0), .int p1, .int p2] (wlM g am pm m0 m1 m2 m3 m4 m5 M_doubted m7 m8 m9 m10 m11 m12 m13 m14 m15 m16 m17 m18 M_against m20 m21 ++ t) (Dv (some (.int o)) (wlM g am pm m0 m1 m2 m3 m4 m5 M_doubted m7 m8 m9 m10 m11 m12 m13 m14 m15 m16 m17 m18 M_against m20 m21 ++ t)) := Ct.ofR (by decide +kernel) rfl (Nat.le_of_ble_eq_true rfl) (rt_M_doContradictNow h ⟨rfl, rfl⟩)
set_option maxRecDepth 20000 in
set_option maxHeartbeats 4000000 in
theorem rt_M_pairsNow {g : GG} {am : Nat → Nat} {ap : Nat → Nat} {t : va_W} {m0 m1 m2 m3 m4 m5 m6 m7 m8 m9 m10 m11 m12 u0 u2 u3 u4 : Int32} {m13 m14 m15 m16 m18 m20 m21 u7 u8 u9 u10 u11 u12 u13 u14 u15 u16 u17 u18 : Nat → Int32} {m17 u5 u6 : Nat → Int64} {N : Nat} {M_against : Nat → Int32} {P_tellers : Int32} {p1 : Int32} {o : Int32} {Q : Rs → va_W → Prop} (h : f_M_pairsNow N M_against P_tellers p1 = some o) (hq : Q (.inl (some (.int o))) (wlM g am (ap 0) m0 m1 m2 m3 m4 m5 m6 m7 m8 m9 m10 m11 m12 m13 m14 m15 m16 m17 m18 M_against m20 m21 ++ (wlP g ap u0 P_tellers u2 u3 u4 u5 u6 u7 u8 u9 u10 u11 u12 u13 u14 u15 u16 u17 u18 ++ t))) : R g mX11_pairsNow 2 0 0 0 [(0, .ref (am 0)), (1, .int p1)] [] (wlM g am (ap 0) m0 m1 m2 m3 m4 m5 m6 m7 m8 m9 m10 m11 m12 m13 m14 m15 m16 m17 m18 M_against m20 m21 ++ (wlP g ap u0 P_tellers u2 u3 u4 u5 u6 u7 u8 u9 u10 u11 u12 u13 u14 u15 u16 u17 u18 ++ t)) Q := by
  unfold f_M_pairsNow at h
  refine r_iconst (v := (0 : Int32)) dX11_pairsNow_0 (by decide) ?_
  refine r_istore_n [(2, .int (0 : Int32)), (0, .ref (am 0)), (1, .int p1)] dX11_pairsNow_1 (by decide) rfl ?_
  refine r_iconst (v := (0 : Int32)) dX11_pairsNow_2 (by decide) ?_
  refine r_istore_n [(3, .int (0 : Int32)), (2, .int (0 : Int32)), (0, .ref (am 0)), (1, .int p1)] dX11_pairsNow_3 (by decide) rfl ?_
  refine r_ls [2, 3, 1, 0] (ls2 := [(0, .ref (am 0)), (1, .int p1), (2, .int (0 : Int32)), (3, .int (0 : Int32))]) rfl ?_
  have L1 : ∀ (n1 : Nat) (l2_1 : Int32) (l3_1 : Int32), (fun z9 => z9) (lpS (f_M_pairsNow_L4 N M_against P_tellers p1) none n1 (l2_1, l3_1)) = some o → R g mX11_pairsNow 2 0 0 4 [(0, .ref (am 0)), (1, .int p1), (2, .int l2_1), (3, .int l3_1)] [] (wlM g am (ap 0) m0 m1 m2 m3 m4 m5 m6 m7 m8 m9 m10 m11 m12 m13 m14 m15 m16 m17 m18 M_against m20 m21 ++ (wlP g ap u0 P_tellers u2 u3 u4 u5 u6 u7 u8 u9 u10 u11 u12 u13 u14 u15 u16 u17 u18 ++ t)) Q := by
    intro n1
    induction n1 with
    | zero => intro l2_1 l3_1 h; exact nomatch (show (none : Option _) = some _ from h)
    | succ n1 ih1 =>
      intro l2_1 l3_1 h
      have h : (fun z9 => (lC (f_M_pairsNow_L4 N M_against P_tellers p1) none n1 z9)) (f_M_pairsNow_L4 N M_against P_tellers p1 (l2_1, l3_1)) = some o := h
      unfold f_M_pairsNow_L4 at h
      try dsimp only at h
      refine r_iload_n 3 dX11_pairsNow_4 rfl ?_
      refine r_aload_n 0 dX11_pairsNow_5 rfl ?_
      refine r_getf (v := .ref (ap 0)) _ dX11_pairsNow_6 fl_X11_20 lM_0 rfl ?_
      refine r_getf (v := .int P_tellers) _ dX11_pairsNow_9 fl_X11_62 lP_0 rfl ?_
      refine r_icmp_ge (tgt := 75) dX11_pairsNow_12 (by decide) (fun hc1603 => ?_) (fun hc1603 => ?_)
      · have h := ip (fun z9 => (lC (f_M_pairsNow_L4 N M_against P_tellers p1) none n1 z9)) hc1603 h
        refine r_iload_n 2 dX11_pairsNow_75 rfl ?_
        refine r_iret dX11_pairsNow_76 rfl ?_
        have h := Option.some.inj (show some _ = some o from h)
        subst h
        exact hq
      · have h := iq (fun z9 => (lC (f_M_pairsNow_L4 N M_against P_tellers p1) none n1 z9)) hc1603 h
        refine r_iconst (v := (0 : Int32)) dX11_pairsNow_15 (by decide) ?_
        refine r_istore [(4, .int (0 : Int32)), (0, .ref (am 0)), (1, .int p1), (2, .int l2_1), (3, .int l3_1)] dX11_pairsNow_16 (by decide) rfl ?_
        refine r_ls [1, 2, 3, 4, 0] (ls2 := [(0, .ref (am 0)), (1, .int p1), (2, .int l2_1), (3, .int l3_1), (4, .int (0 : Int32))]) rfl ?_
        have L2 : ∀ (n2 : Nat) (l2_2 : Int32) (l4_2 : Int32), (fun z9 => (lC (f_M_pairsNow_L4 N M_against P_tellers p1) none n1 z9)) (lpS (f_M_pairsNow_L18 M_against p1 l3_1) (.inr none) n2 (l2_2, l4_2)) = some o → R g mX11_pairsNow 2 0 0 18 [(0, .ref (am 0)), (1, .int p1), (2, .int l2_2), (3, .int l3_1), (4, .int l4_2)] [] (wlM g am (ap 0) m0 m1 m2 m3 m4 m5 m6 m7 m8 m9 m10 m11 m12 m13 m14 m15 m16 m17 m18 M_against m20 m21 ++ (wlP g ap u0 P_tellers u2 u3 u4 u5 u6 u7 u8 u9 u10 u11 u12 u13 u14 u15 u16 u17 u18 ++ t)) Q := by
          intro n2
          induction n2 with
          | zero => intro l2_2 l4_2 h; exact nomatch (show (none : Option _) = some _ from h)
          | succ n2 ih2 =>
            intro l2_2 l4_2 h
            have h : (fun z9 => (lC (f_M_pairsNow_L4 N M_against P_tellers p1) none n1 (lC (f_M_pairsNow_L18 M_against p1 l3_1) (.inr none) n2 z9))) (f_M_pairsNow_L18 M_against p1 l3_1 (l2_2, l4_2)) = some o := h
            unfold f_M_pairsNow_L18 at h
            try dsimp only at h
            refine r_iload 4 dX11_pairsNow_18 rfl ?_
            refine r_iload_n 3 dX11_pairsNow_20 rfl ?_
            refine r_icmp_ge (tgt := 69) dX11_pairsNow_21 (by decide) (fun hc1604 => ?_) (fun hc1604 => ?_)
            · have h := ip (fun z9 => (lC (f_M_pairsNow_L4 N M_against P_tellers p1) none n1 (lC (f_M_pairsNow_L18 M_against p1 l3_1) (.inr none) n2 z9))) hc1604 h
              refine r_iinc (v2 := (l3_1 + (1 : Int32))) 3 [(3, .int (l3_1 + (1 : Int32))), (0, .ref (am 0)), (1, .int p1), (2, .int l2_2), (4, .int l4_2)] dX11_pairsNow_69 rfl rfl (by decide) rfl ?_
              refine r_goto (tgt := 4) dX11_pairsNow_72 (by decide) ?_
              refine r_ls [1, 2, 3, 0] (ls2 := [(0, .ref (am 0)), (1, .int p1), (2, .int l2_2), (3, .int (l3_1 + (1 : Int32)))]) rfl ?_
              exact ih1 l2_2 (l3_1 + (1 : Int32)) h
            · have h := iq (fun z9 => (lC (f_M_pairsNow_L4 N M_against P_tellers p1) none n1 (lC (f_M_pairsNow_L18 M_against p1 l3_1) (.inr none) n2 z9))) hc1604 h
              refine r_iload_n 2 dX11_pairsNow_24 rfl ?_
              refine r_iload_n 1 dX11_pairsNow_25 rfl ?_
              refine r_iload_n 3 dX11_pairsNow_26 rfl ?_
              refine c_S (rest := [.int l2_2]) 0 0 dX11_pairsNow_27 ks_X11_88 (ct_M_has rfl) rfl rfl (Nat.le_of_ble_eq_true rfl) (by decide) (by decide) ?_
              refine r_if_eq (tgt := 60) dX11_pairsNow_30 (by decide) (fun hc1605 => ?_) (fun hc1605 => ?_)
              · have h := ip (fun z9 => (lC (f_M_pairsNow_L4 N M_against P_tellers p1) none n1 (lC (f_M_pairsNow_L18 M_against p1 l3_1) (.inr none) n2 z9))) hc1605 h
                refine r_iconst (v := (0 : Int32)) dX11_pairsNow_60 (by decide) ?_
                refine r_iadd dX11_pairsNow_61 ?_
                refine r_istore_n [(2, .int (l2_2 + (0 : Int32))), (0, .ref (am 0)), (1, .int p1), (3, .int l3_1), (4, .int l4_2)] dX11_pairsNow_62 (by decide) rfl ?_
                refine r_iinc (v2 := (l4_2 + (1 : Int32))) 4 [(4, .int (l4_2 + (1 : Int32))), (2, .int (l2_2 + (0 : Int32))), (0, .ref (am 0)), (1, .int p1), (3, .int l3_1)] dX11_pairsNow_63 rfl rfl (by decide) rfl ?_
                refine r_goto (tgt := 18) dX11_pairsNow_66 (by decide) ?_
                refine r_ls [2, 3, 1, 4, 0] (ls2 := [(0, .ref (am 0)), (1, .int p1), (2, .int (l2_2 + (0 : Int32))), (3, .int l3_1), (4, .int (l4_2 + (1 : Int32)))]) rfl ?_
                exact ih2 (l2_2 + (0 : Int32)) (l4_2 + (1 : Int32)) h
              · have h := iq (fun z9 => (lC (f_M_pairsNow_L4 N M_against P_tellers p1) none n1 (lC (f_M_pairsNow_L18 M_against p1 l3_1) (.inr none) n2 z9))) hc1605 h
                refine r_iload_n 1 dX11_pairsNow_33 rfl ?_
                refine r_iload 4 dX11_pairsNow_34 rfl ?_
                refine c_S (rest := [.int l2_2]) 0 0 dX11_pairsNow_36 ks_X11_88 (ct_M_has rfl) rfl rfl (Nat.le_of_ble_eq_true rfl) (by decide) (by decide) ?_
                refine r_if_eq (tgt := 60) dX11_pairsNow_39 (by decide) (fun hc1606 => ?_) (fun hc1606 => ?_)
                · have h := ip (fun z9 => (lC (f_M_pairsNow_L4 N M_against P_tellers p1) none n1 (lC (f_M_pairsNow_L18 M_against p1 l3_1) (.inr none) n2 z9))) hc1606 h
                  refine r_iconst (v := (0 : Int32)) dX11_pairsNow_60 (by decide) ?_
                  refine r_iadd dX11_pairsNow_61 ?_
                  refine r_istore_n [(2, .int (l2_2 + (0 : Int32))), (0, .ref (am 0)), (1, .int p1), (3, .int l3_1), (4, .int l4_2)] dX11_pairsNow_62 (by decide) rfl ?_
                  refine r_iinc (v2 := (l4_2 + (1 : Int32))) 4 [(4, .int (l4_2 + (1 : Int32))), (2, .int (l2_2 + (0 : Int32))), (0, .ref (am 0)), (1, .int p1), (3, .int l3_1)] dX11_pairsNow_63 rfl rfl (by decide) rfl ?_
                  refine r_goto (tgt := 18) dX11_pairsNow_66 (by decide) ?_
                  refine r_ls [2, 3, 1, 4, 0] (ls2 := [(0, .ref (am 0)), (1, .int p1), (2, .int (l2_2 + (0 : Int32))), (3, .int l3_1), (4, .int (l4_2 + (1 : Int32)))]) rfl ?_
                  exact ih2 (l2_2 + (0 : Int32)) (l4_2 + (1 : Int32)) h
                · have h := iq (fun z9 => (lC (f_M_pairsNow_L4 N M_against P_tellers p1) none n1 (lC (f_M_pairsNow_L18 M_against p1 l3_1) (.inr none) n2 z9))) hc1606 h
                  refine r_aload_n 0 dX11_pairsNow_42 rfl ?_
                  refine r_getf (v := .ref (am 7)) _ dX11_pairsNow_43 fl_X11_40 lM_0 rfl ?_
                  refine r_iload_n 3 dX11_pairsNow_46 rfl ?_
                  obtain ⟨hb1607, h⟩ := gd (fun z9 => (lC (f_M_pairsNow_L4 N M_against P_tellers p1) none n1 (lC (f_M_pairsNow_L18 M_against p1 l3_1) (.inr none) n2 z9))) rfl h
                  refine r_iald _ dX11_pairsNow_47 lM_7 hb1607 ?_
                  refine r_iload 4 dX11_pairsNow_48 rfl ?_
                  refine c_S (rest := [.int l2_2]) 0 0 dX11_pairsNow_50 ks_X11_88 (ct_M_has rfl) rfl rfl (Nat.le_of_ble_eq_true rfl) (by decide) (by decide) ?_
                  refine r_if_eq (tgt := 60) dX11_pairsNow_53 (by decide) (fun hc1608 => ?_) (fun hc1608 => ?_)
                  · have h := ip (fun z9 => (lC (f_M_pairsNow_L4 N M_against P_tellers p1) none n1 (lC (f_M_pairsNow_L18 M_against p1 l3_1) (.inr none) n2 z9))) hc1608 h
                    refine r_iconst (v := (0 : Int32)) dX11_pairsNow_60 (by decide) ?_
                    refine r_iadd dX11_pairsNow_61 ?_
                    refine r_istore_n [(2, .int (l2_2 + (0 : Int32))), (0, .ref (am 0)), (1, .int p1), (3, .int l3_1), (4, .int l4_2)] dX11_pairsNow_62 (by decide) rfl ?_
                    refine r_iinc (v2 := (l4_2 + (1 : Int32))) 4 [(4, .int (l4_2 + (1 : Int32))), (2, .int (l2_2 + (0 : Int32))), (0, .ref (am 0)), (1, .int p1), (3, .int l3_1)] dX11_pairsNow_63 rfl rfl (by decide) rfl ?_
                    refine r_goto (tgt := 18) dX11_pairsNow_66 (by decide) ?_
                    refine r_ls [2, 3, 1, 4, 0] (ls2 := [(0, .ref (am 0)), (1, .int p1), (2, .int (l2_2 + (0 : Int32))), (3, .int l3_1), (4, .int (l4_2 + (1 : Int32)))]) rfl ?_
                    exact ih2 (l2_2 + (0 : Int32)) (l4_2 + (1 : Int32)) h
                  · have h := iq (fun z9 => (lC (f_M_pairsNow_L4 N M_against P_tellers p1) none n1 (lC (f_M_pairsNow_L18 M_against p1 l3_1) (.inr none) n2 z9))) hc1608 h
                    refine r_iconst (v := (1 : Int32)) dX11_pairsNow_56 (by decide) ?_
                    refine r_goto (tgt := 61) dX11_pairsNow_57 (by decide) ?_
                    refine r_iadd dX11_pairsNow_61 ?_
                    refine r_istore_n [(2, .int (l2_2 + (1 : Int32))), (0, .ref (am 0)), (1, .int p1), (3, .int l3_1), (4, .int l4_2)] dX11_pairsNow_62 (by decide) rfl ?_
                    refine r_iinc (v2 := (l4_2 + (1 : Int32))) 4 [(4, .int (l4_2 + (1 : Int32))), (2, .int (l2_2 + (1 : Int32))), (0, .ref (am 0)), (1, .int p1), (3, .int l3_1)] dX11_pairsNow_63 rfl rfl (by decide) rfl ?_
                    refine r_goto (tgt := 18) dX11_pairsNow_66 (by decide) ?_
                    refine r_ls [2, 3, 1, 4, 0] (ls2 := [(0, .ref (am 0)), (1, .int p1), (2, .int (l2_2 + (1 : Int32))), (3, .int l3_1), (4, .int (l4_2 + (1 : Int32)))]) rfl ?_
                    exact ih2 (l2_2 + (1 : Int32)) (l4_2 + (1 : Int32)) h
        exact L2 _ l2_1 (0 : Int32) h
  exact L1 _ (0 : Int32) (0 : Int32) h
theorem ct_M_pairsNow {g : GG} {am : Nat → Nat} {ap : Nat → Nat} {t : va_W} {m0 m1 m2 m3 m4 m5 m6 m7 m8 m9 m10 m11 m12 u0 u2 u3 u4 : Int32} {m13 m14 m15 m16 m18 m20 m21 u7 u8 u9 u10 u11 u12 u13 u14 u15 u16 u17 u18 : Nat → Int32} {m17 u5 u6 : Nat → Int64} {N : Nat} {M_against : Nat → Int32} {P_tellers : Int32} {p1 : Int32} {o : Int32} (h : f_M_pairsNow N M_against P_tellers p1 = some o) : Ct g mX11_pairsNow 2 0 0 [.ref (am 0), .int p1] (wlM g am (ap 0) m0 m1 m2 m3 m4 m5 m6 m7 m8 m9 m10 m11 m12 m13 m14 m15 m16 m17 m18 M_against m20 m21 ++ (wlP g ap u0 P_tellers u2 u3 u4 u5 u6 u7 u8 u9 u10 u11 u12 u13 u14 u15 u16 u17 u18 ++ t)) (Dv (some (.int o)) (wlM g am (ap 0) m0 m1 m2 m3 m4 m5 m6 m7 m8 m9 m10 m11 m12 m13 m14 m15 m16 m17 m18 M_against m20 m21 ++ (wlP g ap u0 P_tellers u2 u3 u4 u5 u6 u7 u8 u9 u10 u11 u12 u13 u14 u15 u16 u17 u18 ++ t))) := Ct.ofR (by decide +kernel) rfl (Nat.le_of_ble_eq_true rfl) (rt_M_pairsNow h ⟨rfl, rfl⟩)
