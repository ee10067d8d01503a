set_option maxRecDepth 20000 in
set_option maxHeartbeats 4000000 in
theorem rt_M_put {g : GG} {am : Nat → Nat} {ap : Nat → Nat} {pm : Nat} {t : va_W} {m0 m1 m2 m3 m4 m5 m6 m7 m8 m9 m10 m11 m12 u0 u1 u2 u3 : Int32} {m13 m14 m15 m16 m18 m19 m20 m21 u7 u8 u9 u10 u11 u12 u13 u14 u15 u18 : Nat → Int32} {m17 u5 u6 : Nat → Int64} {P_many : Int32} {P_order : Nat → Int32} {P_with : Nat → Int32} {p2 : Int32} {p3 : Int32} {o : Int32 × (Nat → Int32) × (Nat → Int32)} {Q : Rs → va_W → Prop} (h : f_M_put P_many P_order P_with p2 p3 = some o) (hq : Q (.inl (none)) (wlM g am pm m0 m1 m2 m3 m4 m5 m6 m7 m8 m9 m10 m11 m12 m13 m14 m15 m16 m17 m18 m19 m20 m21 ++ (wlP g ap u0 u1 u2 u3 o.1 u5 u6 u7 u8 u9 u10 u11 u12 u13 u14 u15 o.2.1 o.2.2 u18 ++ t))) : R g mX11_put 1 0 0 0 [(0, .ref (am 0)), (1, .ref (ap 0)), (2, .int p2), (3, .int p3)] [] (wlM g am pm m0 m1 m2 m3 m4 m5 m6 m7 m8 m9 m10 m11 m12 m13 m14 m15 m16 m17 m18 m19 m20 m21 ++ (wlP g ap u0 u1 u2 u3 P_many u5 u6 u7 u8 u9 u10 u11 u12 u13 u14 u15 P_order P_with u18 ++ t)) Q := by
  unfold f_M_put at h
  refine r_aload_n 1 dX11_put_0 rfl ?_
  refine r_getf (v := .ref (ap 12)) _ dX11_put_1 fl_X11_187 lP_0 rfl ?_
  refine r_aload_n 1 dX11_put_4 rfl ?_
  refine r_getf (v := .int P_many) _ dX11_put_5 fl_X11_261 lP_0 rfl ?_
  refine r_iload_n 2 dX11_put_8 rfl ?_
  obtain ⟨hb1307, h⟩ := gd (fun z9 => z9) rfl h
  refine r_iast _ dX11_put_9 lP_12 hb1307 (sP_16 _) ?_
  refine r_aload_n 1 dX11_put_10 rfl ?_
  refine r_getf (v := .ref (ap 13)) _ dX11_put_11 fl_X11_193 lP_0 rfl ?_
  refine r_aload_n 1 dX11_put_14 rfl ?_
  refine r_getf (v := .int P_many) _ dX11_put_15 fl_X11_261 lP_0 rfl ?_
  refine r_iload_n 3 dX11_put_18 rfl ?_
  obtain ⟨hb1308, h⟩ := gd (fun z9 => z9) rfl h
  refine r_iast _ dX11_put_19 lP_13 hb1308 (sP_17 _) ?_
  refine r_aload_n 1 dX11_put_20 rfl ?_
  refine r_dup dX11_put_21 rfl ?_
  refine r_getf (v := .int P_many) _ dX11_put_22 fl_X11_261 lP_0 rfl ?_
  refine r_iconst (v := (1 : Int32)) dX11_put_25 (by decide) ?_
  refine r_iadd dX11_put_26 ?_
  refine r_putf _ dX11_put_27 fl_X11_261 lP_0 (Nat.le_of_ble_eq_true rfl) rfl rfl (sP_4 _) ?_
  refine r_vret dX11_put_30 rfl ?_
  have h := Option.some.inj (show some _ = some o from h)
  subst h
  exact hq
theorem ct_M_put {g : GG} {am : Nat → Nat} {ap : Nat → Nat} {pm : Nat} {t : va_W} {m0 m1 m2 m3 m4 m5 m6 m7 m8 m9 m10 m11 m12 u0 u1 u2 u3 : Int32} {m13 m14 m15 m16 m18 m19 m20 m21 u7 u8 u9 u10 u11 u12 u13 u14 u15 u18 : Nat → Int32} {m17 u5 u6 : Nat → Int64} {P_many : Int32} {P_order : Nat → Int32} {P_with : Nat → Int32} {p2 : Int32} {p3 : Int32} {o : Int32 × (Nat → Int32) × (Nat → Int32)} (h : f_M_put P_many P_order P_with p2 p3 = some o) : Ct g mX11_put 1 0 0 [.ref (am 0), .ref (ap 0), .int p2, .int p3] (wlM g am pm m0 m1 m2 m3 m4 m5 m6 m7 m8 m9 m10 m11 m12 m13 m14 m15 m16 m17 m18 m19 m20 m21 ++ (wlP g ap u0 u1 u2 u3 P_many u5 u6 u7 u8 u9 u10 u11 u12 u13 u14 u15 P_order P_with u18 ++ t)) (Dv (none) (wlM g am pm m0 m1 m2 m3 m4 m5 m6 m7 m8 m9 m10 m11 m12 m13 m14 m15 m16 m17 m18 m19 m20 m21 ++ (wlP g ap u0 u1 u2 u3 o.1 u5 u6 u7 u8 u9 u10 u11 u12 u13 u14 u15 o.2.1 o.2.2 u18 ++ t))) := Ct.ofR (by decide +kernel) rfl (Nat.le_of_ble_eq_true rfl) (rt_M_put h ⟨rfl, rfl⟩)
set_option maxRecDepth 20000 in
set_option maxHeartbeats 4000000 in
theorem rt_M_eatAs {g : GG} {am : Nat → Nat} {pm : Nat} {t : va_W} {m0 m1 m2 m4 m5 m6 m7 m8 m9 m10 m11 m12 : Int32} {m13 m15 m18 m19 m20 m21 : Nat → Int32} {m17 : Nat → Int64} {M_token : Int32} {M_kind : Nat → Int32} {M_means : Nat → Int32} {p1 : Int32} {p2 : Int32} {o : Int32 × Int32 × (Nat → Int32)} {Q : Rs → va_W → Prop} (h : f_M_eatAs M_token M_kind M_means p1 p2 = some o) (hq : Q (.inl (some (.int o.1))) (wlM g am pm m0 m1 m2 o.2.1 m4 m5 m6 m7 m8 m9 m10 m11 m12 m13 M_kind m15 o.2.2 m17 m18 m19 m20 m21 ++ t)) : R g mX11_eatAs 2 0 0 0 [(0, .ref (am 0)), (1, .int p1), (2, .int p2)] [] (wlM g am pm m0 m1 m2 M_token m4 m5 m6 m7 m8 m9 m10 m11 m12 m13 M_kind m15 M_means m17 m18 m19 m20 m21 ++ t) Q := by
  unfold f_M_eatAs at h
  refine r_aload_n 0 dX11_eatAs_0 rfl ?_
  refine r_getf (v := .ref (am 4)) _ dX11_eatAs_1 fl_X11_30 lM_0 rfl ?_
  refine r_aload_n 0 dX11_eatAs_4 rfl ?_
  refine r_getf (v := .int M_token) _ dX11_eatAs_5 fl_X11_252 lM_0 rfl ?_
  refine r_iload_n 2 dX11_eatAs_8 rfl ?_
  obtain ⟨hb1309, h⟩ := gd (fun z9 => z9) rfl h
  refine r_iast _ dX11_eatAs_9 lM_4 hb1309 (sM_16 _) ?_
  refine r_aload_n 0 dX11_eatAs_10 rfl ?_
  refine r_iload_n 1 dX11_eatAs_11 rfl ?_
  obtain ⟨r1310, hc1311, h⟩ := ob (fun z9 => z9) rfl h
  refine c_V (rest := []) 0 0 _ dX11_eatAs_12 kv_X11_255 (ct_M_eat hc1311) rfl rfl lM_0 rfl (Nat.le_of_ble_eq_true rfl) (by decide) (by decide) ?_
  obtain ⟨hb1312, h⟩ := gd (fun z9 => z9) rfl h
  refine r_zret dX11_eatAs_15 rfl (zB_n hb1312) ?_
  have h := Option.some.inj (show some _ = some o from h)
  subst h
  exact hq
theorem ct_M_eatAs {g : GG} {am : Nat → Nat} {pm : Nat} {t : va_W} {m0 m1 m2 m4 m5 m6 m7 m8 m9 m10 m11 m12 : Int32} {m13 m15 m18 m19 m20 m21 : Nat → Int32} {m17 : Nat → Int64} {M_token : Int32} {M_kind : Nat → Int32} {M_means : Nat → Int32} {p1 : Int32} {p2 : Int32} {o : Int32 × Int32 × (Nat → Int32)} (h : f_M_eatAs M_token M_kind M_means p1 p2 = some o) : Ct g mX11_eatAs 2 0 0 [.ref (am 0), .int p1, .int p2] (wlM g am pm m0 m1 m2 M_token m4 m5 m6 m7 m8 m9 m10 m11 m12 m13 M_kind m15 M_means m17 m18 m19 m20 m21 ++ t) (Dv (some (.int o.1)) (wlM g am pm m0 m1 m2 o.2.1 m4 m5 m6 m7 m8 m9 m10 m11 m12 m13 M_kind m15 o.2.2 m17 m18 m19 m20 m21 ++ t)) := Ct.ofR (by decide +kernel) rfl (Nat.le_of_ble_eq_true rfl) (rt_M_eatAs h ⟨rfl, rfl⟩)
set_option maxRecDepth 20000 in
set_option maxHeartbeats 4000000 in
theorem rt_M_isAbout {g : GG} {am : Nat → Nat} {ap : Nat → Nat} {pm : Nat} {t : va_W} {m0 m1 m2 m4 m5 m6 m7 m8 m9 m10 m11 m12 u0 u1 u2 u3 : Int32} {m13 m15 m18 m19 m20 m21 u7 u8 u9 u10 u11 u12 u13 u14 u15 : Nat → Int32} {m17 u5 u6 : Nat → Int64} {M_token : Int32} {M_kind : Nat → Int32} {M_means : Nat → Int32} {P_many : Int32} {P_order : Nat → Int32} {P_with : Nat → Int32} {P_also : Nat → Int32} {p2 : Int32} {p3 : Int32} {p4 : Int32} {o : Int32 × Int32 × (Nat → Int32) × Int32 × (Nat → Int32) × (Nat → Int32) × (Nat → Int32)} {Q : Rs → va_W → Prop} (h : f_M_isAbout M_token M_kind M_means P_many P_order P_with P_also p2 p3 p4 = some o) (hq : Q (.inl (some (.int o.1))) (wlM g am pm m0 m1 m2 o.2.1 m4 m5 m6 m7 m8 m9 m10 m11 m12 m13 M_kind m15 o.2.2.1 m17 m18 m19 m20 m21 ++ (wlP g ap u0 u1 u2 u3 o.2.2.2.1 u5 u6 u7 u8 u9 u10 u11 u12 u13 u14 u15 o.2.2.2.2.1 o.2.2.2.2.2.1 o.2.2.2.2.2.2 ++ t))) : R g mX11_isAbout 3 0 0 0 [(0, .ref (am 0)), (1, .ref (ap 0)), (2, .int p2), (3, .int p3), (4, .int p4)] [] (wlM g am pm m0 m1 m2 M_token m4 m5 m6 m7 m8 m9 m10 m11 m12 m13 M_kind m15 M_means m17 m18 m19 m20 m21 ++ (wlP g ap u0 u1 u2 u3 P_many u5 u6 u7 u8 u9 u10 u11 u12 u13 u14 u15 P_order P_with P_also ++ t)) Q := by
  unfold f_M_isAbout at h
  refine r_aload_n 0 dX11_isAbout_0 rfl ?_
  refine r_dup dX11_isAbout_1 rfl ?_
  refine r_getf (v := .int M_token) _ dX11_isAbout_2 fl_X11_252 lM_0 rfl ?_
  refine r_iconst (v := (1 : Int32)) dX11_isAbout_5 (by decide) ?_
  refine r_iadd dX11_isAbout_6 ?_
  refine r_putf _ dX11_isAbout_7 fl_X11_252 lM_0 (Nat.le_of_ble_eq_true rfl) rfl rfl (sM_3 _) ?_
  refine r_iload_n 2 dX11_isAbout_10 rfl ?_
  refine r_bipush (v := (14 : Int32)) dX11_isAbout_11 (by decide) ?_
  refine r_icmp_eq (tgt := 22) dX11_isAbout_13 (by decide) (fun hc1313 => ?_) (fun hc1313 => ?_)
  · have h := ip (fun z9 => z9) hc1313 h
    refine r_aload_n 0 dX11_isAbout_22 rfl ?_
    refine r_bipush (v := (16 : Int32)) dX11_isAbout_23 (by decide) ?_
    obtain ⟨r1314, hc1315, h⟩ := ob (fun z9 => z9) rfl h
    refine c_V (rest := []) 0 0 _ dX11_isAbout_25 kv_X11_255 (ct_M_eat hc1315) rfl rfl lM_0 rfl (Nat.le_of_ble_eq_true rfl) (by decide) (by decide) ?_
    refine r_if_ne (tgt := 33) dX11_isAbout_28 (by decide) (fun hc1316 => ?_) (fun hc1316 => ?_)
    · have h := iq (fun z9 => z9) hc1316 h
      refine r_aload_n 0 dX11_isAbout_33 rfl ?_
      refine r_getf (v := .int r1314.2) _ dX11_isAbout_34 fl_X11_252 lM_0 rfl ?_
      refine r_istore [(5, .int r1314.2), (0, .ref (am 0)), (1, .ref (ap 0)), (2, .int p2), (3, .int p3), (4, .int p4)] dX11_isAbout_37 (by decide) rfl ?_
      refine r_aload_n 1 dX11_isAbout_39 rfl ?_
      refine r_bipush (v := (30 : Int32)) dX11_isAbout_40 (by decide) ?_
      refine r_iload_n 4 dX11_isAbout_42 rfl ?_
      obtain ⟨r1317, hc1318, h⟩ := ob (fun z9 => z9) rfl h
      refine c_V (rest := []) 0 0 _ dX11_isAbout_43 kv_X11_264 (ct_M_eatAs hc1318) rfl rfl lM_0 rfl (Nat.le_of_ble_eq_true rfl) (by decide) (by decide) ?_
      refine r_if_ne (tgt := 51) dX11_isAbout_46 (by decide) (fun hc1319 => ?_) (fun hc1319 => ?_)
      · have h := iq (fun z9 => z9) hc1319 h
        refine r_aload_n 2 dX11_isAbout_51 rfl ?_
        refine r_getf (v := .ref (ap 14)) _ dX11_isAbout_52 fl_X11_196 lP_0 rfl ?_
        refine r_aload_n 2 dX11_isAbout_55 rfl ?_
        refine r_getf (v := .int P_many) _ dX11_isAbout_56 fl_X11_261 lP_0 rfl ?_
        refine r_aload_n 1 dX11_isAbout_59 rfl ?_
        refine r_getf (v := .int r1317.2.1) _ dX11_isAbout_60 fl_X11_252 lM_0 rfl ?_
        obtain ⟨hb1320, h⟩ := gd (fun z9 => z9) rfl h
        refine r_iast _ dX11_isAbout_63 lP_14 hb1320 (sP_18 _) ?_
        refine r_iload 5 dX11_isAbout_64 rfl ?_
        refine r_if_eq (tgt := 81) dX11_isAbout_66 (by decide) (fun hc1321 => ?_) (fun hc1321 => ?_)
        · have h := ip (fun z9 => z9) hc1321 h
          refine r_aload_n 1 dX11_isAbout_81 rfl ?_
          refine r_aload_n 2 dX11_isAbout_82 rfl ?_
          refine r_iload_n 3 dX11_isAbout_83 rfl ?_
          refine r_iload 0 dX11_isAbout_84 rfl ?_
          obtain ⟨r1322, hc1323, h⟩ := ob (fun z9 => z9) rfl h
          refine c_Vv (rest := []) 0 0 _ dX11_isAbout_86 kv_X11_267 (ct_M_put hc1323) rfl rfl lM_0 rfl (Nat.le_of_ble_eq_true rfl) (by decide) (by decide) ?_
          refine r_iconst (v := (1 : Int32)) dX11_isAbout_89 (by decide) ?_
          refine r_zret dX11_isAbout_90 rfl (by decide) ?_
          have h := Option.some.inj (show some _ = some o from h)
          subst h
          exact hq
        · have h := iq (fun z9 => z9) hc1321 h
          refine r_aload_n 1 dX11_isAbout_69 rfl ?_
          refine r_bipush (v := (30 : Int32)) dX11_isAbout_70 (by decide) ?_
          refine r_iload_n 4 dX11_isAbout_72 rfl ?_
          obtain ⟨r1324, hc1325, h⟩ := ob (fun z9 => z9) rfl h
          refine c_V (rest := []) 0 0 _ dX11_isAbout_73 kv_X11_264 (ct_M_eatAs hc1325) rfl rfl lM_0 rfl (Nat.le_of_ble_eq_true rfl) (by decide) (by decide) ?_
          refine r_if_ne (tgt := 81) dX11_isAbout_76 (by decide) (fun hc1326 => ?_) (fun hc1326 => ?_)
          · have h := iq (fun z9 => z9) hc1326 h
            refine r_aload_n 1 dX11_isAbout_81 rfl ?_
            refine r_aload_n 2 dX11_isAbout_82 rfl ?_
            refine r_iload_n 3 dX11_isAbout_83 rfl ?_
            refine r_iload 0 dX11_isAbout_84 rfl ?_
            obtain ⟨r1327, hc1328, h⟩ := ob (fun z9 => z9) rfl h
            refine c_Vv (rest := []) 0 0 _ dX11_isAbout_86 kv_X11_267 (ct_M_put hc1328) rfl rfl lM_0 rfl (Nat.le_of_ble_eq_true rfl) (by decide) (by decide) ?_
            refine r_iconst (v := (1 : Int32)) dX11_isAbout_89 (by decide) ?_
            refine r_zret dX11_isAbout_90 rfl (by decide) ?_
            have h := Option.some.inj (show some _ = some o from h)
            subst h
            exact hq
          · have h := ip (fun z9 => z9) hc1326 h
            refine r_iconst (v := (0 : Int32)) dX11_isAbout_79 (by decide) ?_
            refine r_zret dX11_isAbout_80 rfl (by decide) ?_
            have h := Option.some.inj (show some _ = some o from h)
            subst h
            exact hq
      · have h := ip (fun z9 => z9) hc1319 h
        refine r_iconst (v := (0 : Int32)) dX11_isAbout_49 (by decide) ?_
        refine r_zret dX11_isAbout_50 rfl (by decide) ?_
        have h := Option.some.inj (show some _ = some o from h)
        subst h
        exact hq
    · have h := ip (fun z9 => z9) hc1316 h
      refine r_iconst (v := (0 : Int32)) dX11_isAbout_31 (by decide) ?_
      refine r_zret dX11_isAbout_32 rfl (by decide) ?_
      have h := Option.some.inj (show some _ = some o from h)
      subst h
      exact hq
  · have h := iq (fun z9 => z9) hc1313 h
    refine r_iload_n 2 dX11_isAbout_16 rfl ?_
    refine r_bipush (v := (15 : Int32)) dX11_isAbout_17 (by decide) ?_
    refine r_icmp_ne (tgt := 33) dX11_isAbout_19 (by decide) (fun hc1329 => ?_) (fun hc1329 => ?_)
    · have h := iq (fun z9 => z9) hc1329 h
      refine r_aload_n 0 dX11_isAbout_33 rfl ?_
      refine r_getf (v := .int (M_token + (1 : Int32))) _ dX11_isAbout_34 fl_X11_252 lM_0 rfl ?_
      refine r_istore [(5, .int (M_token + (1 : Int32))), (0, .ref (am 0)), (1, .ref (ap 0)), (2, .int p2), (3, .int p3), (4, .int p4)] dX11_isAbout_37 (by decide) rfl ?_
      refine r_aload_n 1 dX11_isAbout_39 rfl ?_
      refine r_bipush (v := (30 : Int32)) dX11_isAbout_40 (by decide) ?_
      refine r_iload_n 4 dX11_isAbout_42 rfl ?_
      obtain ⟨r1330, hc1331, h⟩ := ob (fun z9 => z9) rfl h
      refine c_V (rest := []) 0 0 _ dX11_isAbout_43 kv_X11_264 (ct_M_eatAs hc1331) rfl rfl lM_0 rfl (Nat.le_of_ble_eq_true rfl) (by decide) (by decide) ?_
      refine r_if_ne (tgt := 51) dX11_isAbout_46 (by decide) (fun hc1332 => ?_) (fun hc1332 => ?_)
      · have h := iq (fun z9 => z9) hc1332 h
        refine r_aload_n 2 dX11_isAbout_51 rfl ?_
        refine r_getf (v := .ref (ap 14)) _ dX11_isAbout_52 fl_X11_196 lP_0 rfl ?_
        refine r_aload_n 2 dX11_isAbout_55 rfl ?_
        refine r_getf (v := .int P_many) _ dX11_isAbout_56 fl_X11_261 lP_0 rfl ?_
        refine r_aload_n 1 dX11_isAbout_59 rfl ?_
        refine r_getf (v := .int r1330.2.1) _ dX11_isAbout_60 fl_X11_252 lM_0 rfl ?_
        obtain ⟨hb1333, h⟩ := gd (fun z9 => z9) rfl h
        refine r_iast _ dX11_isAbout_63 lP_14 hb1333 (sP_18 _) ?_
        refine r_iload 5 dX11_isAbout_64 rfl ?_
        refine r_if_eq (tgt := 81) dX11_isAbout_66 (by decide) (fun hc1334 => ?_) (fun hc1334 => ?_)
        · have h := ip (fun z9 => z9) hc1334 h
          refine r_aload_n 1 dX11_isAbout_81 rfl ?_
          refine r_aload_n 2 dX11_isAbout_82 rfl ?_
          refine r_iload_n 3 dX11_isAbout_83 rfl ?_
          refine r_iload 0 dX11_isAbout_84 rfl ?_
          obtain ⟨r1335, hc1336, h⟩ := ob (fun z9 => z9) rfl h
          refine c_Vv (rest := []) 0 0 _ dX11_isAbout_86 kv_X11_267 (ct_M_put hc1336) rfl rfl lM_0 rfl (Nat.le_of_ble_eq_true rfl) (by decide) (by decide) ?_
          refine r_iconst (v := (1 : Int32)) dX11_isAbout_89 (by decide) ?_
          refine r_zret dX11_isAbout_90 rfl (by decide) ?_
          have h := Option.some.inj (show some _ = some o from h)
          subst h
          exact hq
        · have h := iq (fun z9 => z9) hc1334 h
          refine r_aload_n 1 dX11_isAbout_69 rfl ?_
          refine r_bipush (v := (30 : Int32)) dX11_isAbout_70 (by decide) ?_
          refine r_iload_n 4 dX11_isAbout_72 rfl ?_
          obtain ⟨r1337, hc1338, h⟩ := ob (fun z9 => z9) rfl h
          refine c_V (rest := []) 0 0 _ dX11_isAbout_73 kv_X11_264 (ct_M_eatAs hc1338) rfl rfl lM_0 rfl (Nat.le_of_ble_eq_true rfl) (by decide) (by decide) ?_
          refine r_if_ne (tgt := 81) dX11_isAbout_76 (by decide) (fun hc1339 => ?_) (fun hc1339 => ?_)
          · have h := iq (fun z9 => z9) hc1339 h
            refine r_aload_n 1 dX11_isAbout_81 rfl ?_
            refine r_aload_n 2 dX11_isAbout_82 rfl ?_
            refine r_iload_n 3 dX11_isAbout_83 rfl ?_
            refine r_iload 0 dX11_isAbout_84 rfl ?_
            obtain ⟨r1340, hc1341, h⟩ := ob (fun z9 => z9) rfl h
            refine c_Vv (rest := []) 0 0 _ dX11_isAbout_86 kv_X11_267 (ct_M_put hc1341) rfl rfl lM_0 rfl (Nat.le_of_ble_eq_true rfl) (by decide) (by decide) ?_
            refine r_iconst (v := (1 : Int32)) dX11_isAbout_89 (by decide) ?_
            refine r_zret dX11_isAbout_90 rfl (by decide) ?_
            have h := Option.some.inj (show some _ = some o from h)
            subst h
            exact hq
          · have h := ip (fun z9 => z9) hc1339 h
            refine r_iconst (v := (0 : Int32)) dX11_isAbout_79 (by decide) ?_
            refine r_zret dX11_isAbout_80 rfl (by decide) ?_
            have h := Option.some.inj (show some _ = some o from h)
            subst h
            exact hq
      · have h := ip (fun z9 => z9) hc1332 h
        refine r_iconst (v := (0 : Int32)) dX11_isAbout_49 (by decide) ?_
        refine r_zret dX11_isAbout_50 rfl (by decide) ?_
        have h := Option.some.inj (show some _ = some o from h)
        subst h
        exact hq
    · have h := ip (fun z9 => z9) hc1329 h
      refine r_aload_n 0 dX11_isAbout_22 rfl ?_
      refine r_bipush (v := (16 : Int32)) dX11_isAbout_23 (by decide) ?_
      obtain ⟨r1342, hc1343, h⟩ := ob (fun z9 => z9) rfl h
      refine c_V (rest := []) 0 0 _ dX11_isAbout_25 kv_X11_255 (ct_M_eat hc1343) rfl rfl lM_0 rfl (Nat.le_of_ble_eq_true rfl) (by decide) (by decide) ?_
      refine r_if_ne (tgt := 33) dX11_isAbout_28 (by decide) (fun hc1344 => ?_) (fun hc1344 => ?_)
      · have h := iq (fun z9 => z9) hc1344 h
        refine r_aload_n 0 dX11_isAbout_33 rfl ?_
        refine r_getf (v := .int r1342.2) _ dX11_isAbout_34 fl_X11_252 lM_0 rfl ?_
        refine r_istore [(5, .int r1342.2), (0, .ref (am 0)), (1, .ref (ap 0)), (2, .int p2), (3, .int p3), (4, .int p4)] dX11_isAbout_37 (by decide) rfl ?_
        refine r_aload_n 1 dX11_isAbout_39 rfl ?_
        refine r_bipush (v := (30 : Int32)) dX11_isAbout_40 (by decide) ?_
        refine r_iload_n 4 dX11_isAbout_42 rfl ?_
        obtain ⟨r1345, hc1346, h⟩ := ob (fun z9 => z9) rfl h
        refine c_V (rest := []) 0 0 _ dX11_isAbout_43 kv_X11_264 (ct_M_eatAs hc1346) rfl rfl lM_0 rfl (Nat.le_of_ble_eq_true rfl) (by decide) (by decide) ?_
        refine r_if_ne (tgt := 51) dX11_isAbout_46 (by decide) (fun hc1347 => ?_) (fun hc1347 => ?_)
        · have h := iq (fun z9 => z9) hc1347 h
          refine r_aload_n 2 dX11_isAbout_51 rfl ?_
          refine r_getf (v := .ref (ap 14)) _ dX11_isAbout_52 fl_X11_196 lP_0 rfl ?_
          refine r_aload_n 2 dX11_isAbout_55 rfl ?_
          refine r_getf (v := .int P_many) _ dX11_isAbout_56 fl_X11_261 lP_0 rfl ?_
          refine r_aload_n 1 dX11_isAbout_59 rfl ?_
          refine r_getf (v := .int r1345.2.1) _ dX11_isAbout_60 fl_X11_252 lM_0 rfl ?_
          obtain ⟨hb1348, h⟩ := gd (fun z9 => z9) rfl h
          refine r_iast _ dX11_isAbout_63 lP_14 hb1348 (sP_18 _) ?_
          refine r_iload 5 dX11_isAbout_64 rfl ?_
          refine r_if_eq (tgt := 81) dX11_isAbout_66 (by decide) (fun hc1349 => ?_) (fun hc1349 => ?_)
          · have h := ip (fun z9 => z9) hc1349 h
            refine r_aload_n 1 dX11_isAbout_81 rfl ?_
            refine r_aload_n 2 dX11_isAbout_82 rfl ?_
            refine r_iload_n 3 dX11_isAbout_83 rfl ?_
            refine r_iload 0 dX11_isAbout_84 rfl ?_
            obtain ⟨r1350, hc1351, h⟩ := ob (fun z9 => z9) rfl h
            refine c_Vv (rest := []) 0 0 _ dX11_isAbout_86 kv_X11_267 (ct_M_put hc1351) rfl rfl lM_0 rfl (Nat.le_of_ble_eq_true rfl) (by decide) (by decide) ?_
            refine r_iconst (v := (1 : Int32)) dX11_isAbout_89 (by decide) ?_
            refine r_zret dX11_isAbout_90 rfl (by decide) ?_
            have h := Option.some.inj (show some _ = some o from h)
            subst h
            exact hq
          · have h := iq (fun z9 => z9) hc1349 h
            refine r_aload_n 1 dX11_isAbout_69 rfl ?_
            refine r_bipush (v := (30 : Int32)) dX11_isAbout_70 (by decide) ?_
            refine r_iload_n 4 dX11_isAbout_72 rfl ?_
            obtain ⟨r1352, hc1353, h⟩ := ob (fun z9 => z9) rfl h
            refine c_V (rest := []) 0 0 _ dX11_isAbout_73 kv_X11_264 (ct_M_eatAs hc1353) rfl rfl lM_0 rfl (Nat.le_of_ble_eq_true rfl) (by decide) (by decide) ?_
            refine r_if_ne (tgt := 81) dX11_isAbout_76 (by decide) (fun hc1354 => ?_) (fun hc1354 => ?_)
            · have h := iq (fun z9 => z9) hc1354 h
              refine r_aload_n 1 dX11_isAbout_81 rfl ?_
              refine r_aload_n 2 dX11_isAbout_82 rfl ?_
              refine r_iload_n 3 dX11_isAbout_83 rfl ?_
              refine r_iload 0 dX11_isAbout_84 rfl ?_
              obtain ⟨r1355, hc1356, h⟩ := ob (fun z9 => z9) rfl h
              refine c_Vv (rest := []) 0 0 _ dX11_isAbout_86 kv_X11_267 (ct_M_put hc1356) rfl rfl lM_0 rfl (Nat.le_of_ble_eq_true rfl) (by decide) (by decide) ?_
              refine r_iconst (v := (1 : Int32)) dX11_isAbout_89 (by decide) ?_
              refine r_zret dX11_isAbout_90 rfl (by decide) ?_
              have h := Option.some.inj (show some _ = some o from h)
              subst h
              exact hq
            · have h := ip (fun z9 => z9) hc1354 h
              refine r_iconst (v := (0 : Int32)) dX11_isAbout_79 (by decide) ?_
              refine r_zret dX11_isAbout_80 rfl (by decide) ?_
              have h := Option.some.inj (show some _ = some o from h)
              subst h
              exact hq
        · have h := ip (fun z9 => z9) hc1347 h
          refine r_iconst (v := (0 : Int32)) dX11_isAbout_49 (by decide) ?_
          refine r_zret dX11_isAbout_50 rfl (by decide) ?_
          have h := Option.some.inj (show some _ = some o from h)
          subst h
          exact hq
      · have h := ip (fun z9 => z9) hc1344 h
        refine r_iconst (v := (0 : Int32)) dX11_isAbout_31 (by decide) ?_
        refine r_zret dX11_isAbout_32 rfl (by decide) ?_
        have h := Option.some.inj (show some _ = some o from h)
        subst h
        exact hq
theorem ct_M_isAbout {g : GG} {am : Nat → Nat} {ap : Nat → Nat} {pm : Nat} {t : va_W} {m0 m1 m2 m4 m5 m6 m7 m8 m9 m10 m11 m12 u0 u1 u2 u3 : Int32} {m13 m15 m18 m19 m20 m21 u7 u8 u9 u10 u11 u12 u13 u14 u15 : Nat → Int32} {m17 u5 u6 : Nat → Int64} {M_token : Int32} {M_kind : Nat → Int32} {M_means : Nat → Int32} {P_many : Int32} {P_order : Nat → Int32} {P_with : Nat → Int32} {P_also : Nat → Int32} {p2 : Int32} {p3 : Int32} {p4 : Int32} {o : Int32 × Int32 × (Nat → Int32) × Int32 × (Nat → Int32) × (Nat → Int32) × (Nat → Int32)} (h : f_M_isAbout M_token M_kind M_means P_many P_order P_with P_also p2 p3 p4 = some o) : Ct g mX11_isAbout 3 0 0 [.ref (am 0), .ref (ap 0), .int p2, .int p3, .int p4] (wlM g am pm m0 m1 m2 M_token m4 m5 m6 m7 m8 m9 m10 m11 m12 m13 M_kind m15 M_means m17 m18 m19 m20 m21 ++ (wlP g ap u0 u1 u2 u3 P_many u5 u6 u7 u8 u9 u10 u11 u12 u13 u14 u15 P_order P_with P_also ++ t)) (Dv (some (.int o.1)) (wlM g am pm m0 m1 m2 o.2.1 m4 m5 m6 m7 m8 m9 m10 m11 m12 m13 M_kind m15 o.2.2.1 m17 m18 m19 m20 m21 ++ (wlP g ap u0 u1 u2 u3 o.2.2.2.1 u5 u6 u7 u8 u9 u10 u11 u12 u13 u14 u15 o.2.2.2.2.1 o.2.2.2.2.2.1 o.2.2.2.2.2.2 ++ t))) := Ct.ofR (by decide +kernel) rfl (Nat.le_of_ble_eq_true rfl) (rt_M_isAbout h ⟨rfl, rfl⟩)
set_option maxRecDepth 20000 in
set_option maxHeartbeats 4000000 in
theorem rt_M_deeper {g : GG} {am : Nat → Nat} {pm : Nat} {t : va_W} {m0 m1 m2 m5 m6 m7 m8 m9 m10 m11 m12 : Int32} {m13 m15 m16 m18 m19 m20 m21 : Nat → Int32} {m17 : Nat → Int64} {M_token : Int32} {M_depth : Int32} {M_kind : Nat → Int32} {p1 : Int32} {o : Int32 × Int32 × Int32} {Q : Rs → va_W → Prop} (h : f_M_deeper M_token M_depth M_kind p1 = some o) (hq : Q (.inl (some (.int o.1))) (wlM g am pm m0 m1 m2 o.2.1 o.2.2 m5 m6 m7 m8 m9 m10 m11 m12 m13 M_kind m15 m16 m17 m18 m19 m20 m21 ++ t)) : R g mX11_deeper 2 0 0 0 [(0, .ref (am 0)), (1, .int p1)] [] (wlM g am pm m0 m1 m2 M_token M_depth m5 m6 m7 m8 m9 m10 m11 m12 m13 M_kind m15 m16 m17 m18 m19 m20 m21 ++ t) Q := by
  unfold f_M_deeper at h
  refine r_aload_n 0 dX11_deeper_0 rfl ?_
  refine r_getf (v := .int M_depth) _ dX11_deeper_1 fl_X11_258 lM_0 rfl ?_
  refine r_bipush (v := (8 : Int32)) dX11_deeper_4 (by decide) ?_
  refine r_icmp_eq (tgt := 17) dX11_deeper_6 (by decide) (fun hc1357 => ?_) (fun hc1357 => ?_)
  · have h := ip (fun z9 => z9) hc1357 h
    refine r_iconst (v := (0 : Int32)) dX11_deeper_17 (by decide) ?_
    refine r_zret dX11_deeper_18 rfl (by decide) ?_
    have h := Option.some.inj (show some _ = some o from h)
    subst h
    exact hq
  · have h := iq (fun z9 => z9) hc1357 h
    refine r_aload_n 0 dX11_deeper_9 rfl ?_
    refine r_iload_n 1 dX11_deeper_10 rfl ?_
    obtain ⟨r1358, hc1359, h⟩ := ob (fun z9 => z9) rfl h
    refine c_V (rest := []) 0 0 _ dX11_deeper_11 kv_X11_255 (ct_M_eat hc1359) rfl rfl lM_0 rfl (Nat.le_of_ble_eq_true rfl) (by decide) (by decide) ?_
    refine r_if_ne (tgt := 19) dX11_deeper_14 (by decide) (fun hc1360 => ?_) (fun hc1360 => ?_)
    · have h := iq (fun z9 => z9) hc1360 h
      refine r_aload_n 0 dX11_deeper_19 rfl ?_
      refine r_dup dX11_deeper_20 rfl ?_
      refine r_getf (v := .int M_depth) _ dX11_deeper_21 fl_X11_258 lM_0 rfl ?_
      refine r_iconst (v := (1 : Int32)) dX11_deeper_24 (by decide) ?_
      refine r_iadd dX11_deeper_25 ?_
      refine r_putf _ dX11_deeper_26 fl_X11_258 lM_0 (Nat.le_of_ble_eq_true rfl) rfl rfl (sM_4 _) ?_
      refine r_iconst (v := (1 : Int32)) dX11_deeper_29 (by decide) ?_
      refine r_zret dX11_deeper_30 rfl (by decide) ?_
      have h := Option.some.inj (show some _ = some o from h)
      subst h
      exact hq
    · have h := ip (fun z9 => z9) hc1360 h
      refine r_iconst (v := (0 : Int32)) dX11_deeper_17 (by decide) ?_
      refine r_zret dX11_deeper_18 rfl (by decide) ?_
      have h := Option.some.inj (show some _ = some o from h)
      subst h
      exact hq
theorem ct_M_deeper {g : GG} {am : Nat → Nat} {pm : Nat} {t : va_W} {m0 m1 m2 m5 m6 m7 m8 m9 m10 m11 m12 : Int32} {m13 m15 m16 m18 m19 m20 m21 : Nat → Int32} {m17 : Nat → Int64} {M_token : Int32} {M_depth : Int32} {M_kind : Nat → Int32} {p1 : Int32} {o : Int32 × Int32 × Int32} (h : f_M_deeper M_token M_depth M_kind p1 = some o) : Ct g mX11_deeper 2 0 0 [.ref (am 0), .int p1] (wlM g am pm m0 m1 m2 M_token M_depth m5 m6 m7 m8 m9 m10 m11 m12 m13 M_kind m15 m16 m17 m18 m19 m20 m21 ++ t) (Dv (some (.int o.1)) (wlM g am pm m0 m1 m2 o.2.1 o.2.2 m5 m6 m7 m8 m9 m10 m11 m12 m13 M_kind m15 m16 m17 m18 m19 m20 m21 ++ t)) := Ct.ofR (by decide +kernel) rfl (Nat.le_of_ble_eq_true rfl) (rt_M_deeper h ⟨rfl, rfl⟩)
set_option maxRecDepth 20000 in
set_option maxHeartbeats 4000000 in
theorem rt_M_closes {g : GG} {am : Nat → Nat} {pm : Nat} {t : va_W} {m0 m1 m2 m5 m6 m7 m8 m9 m10 m11 m12 : Int32} {m13 m15 m16 m18 m19 m20 m21 : Nat → Int32} {m17 : Nat → Int64} {M_token : Int32} {M_depth : Int32} {M_kind : Nat → Int32} {p1 : Int32} {o : Int32 × Int32 × Int32} {Q : Rs → va_W → Prop} (h : f_M_closes M_token M_depth M_kind p1 = some o) (hq : Q (.inl (some (.int o.1))) (wlM g am pm m0 m1 m2 o.2.1 o.2.2 m5 m6 m7 m8 m9 m10 m11 m12 m13 M_kind m15 m16 m17 m18 m19 m20 m21 ++ t)) : R g mX11_closes 2 0 0 0 [(0, .ref (am 0)), (1, .int p1)] [] (wlM g am pm m0 m1 m2 M_token M_depth m5 m6 m7 m8 m9 m10 m11 m12 m13 M_kind m15 m16 m17 m18 m19 m20 m21 ++ t) Q := by
  unfold f_M_closes at h
  refine r_aload_n 0 dX11_closes_0 rfl ?_
  refine r_iload_n 1 dX11_closes_1 rfl ?_
  obtain ⟨r1361, hc1362, h⟩ := ob (fun z9 => z9) rfl h
  refine c_V (rest := []) 0 0 _ dX11_closes_2 kv_X11_255 (ct_M_eat hc1362) rfl rfl lM_0 rfl (Nat.le_of_ble_eq_true rfl) (by decide) (by decide) ?_
  refine r_if_ne (tgt := 10) dX11_closes_5 (by decide) (fun hc1363 => ?_) (fun hc1363 => ?_)
  · have h := iq (fun z9 => z9) hc1363 h
    refine r_aload_n 0 dX11_closes_10 rfl ?_
    refine r_dup dX11_closes_11 rfl ?_
    refine r_getf (v := .int M_depth) _ dX11_closes_12 fl_X11_258 lM_0 rfl ?_
    refine r_iconst (v := (1 : Int32)) dX11_closes_15 (by decide) ?_
    refine r_isub dX11_closes_16 ?_
    refine r_putf _ dX11_closes_17 fl_X11_258 lM_0 (Nat.le_of_ble_eq_true rfl) rfl rfl (sM_4 _) ?_
    refine r_iconst (v := (1 : Int32)) dX11_closes_20 (by decide) ?_
    refine r_zret dX11_closes_21 rfl (by decide) ?_
    have h := Option.some.inj (show some _ = some o from h)
    subst h
    exact hq
  · have h := ip (fun z9 => z9) hc1363 h
    refine r_iconst (v := (0 : Int32)) dX11_closes_8 (by decide) ?_
    refine r_zret dX11_closes_9 rfl (by decide) ?_
    have h := Option.some.inj (show some _ = some o from h)
    subst h
    exact hq
theorem ct_M_closes {g : GG} {am : Nat → Nat} {pm : Nat} {t : va_W} {m0 m1 m2 m5 m6 m7 m8 m9 m10 m11 m12 : Int32} {m13 m15 m16 m18 m19 m20 m21 : Nat → Int32} {m17 : Nat → Int64} {M_token : Int32} {M_depth : Int32} {M_kind : Nat → Int32} {p1 : Int32} {o : Int32 × Int32 × Int32} (h : f_M_closes M_token M_depth M_kind p1 = some o) : Ct g mX11_closes 2 0 0 [.ref (am 0), .int p1] (wlM g am pm m0 m1 m2 M_token M_depth m5 m6 m7 m8 m9 m10 m11 m12 m13 M_kind m15 m16 m17 m18 m19 m20 m21 ++ t) (Dv (some (.int o.1)) (wlM g am pm m0 m1 m2 o.2.1 o.2.2 m5 m6 m7 m8 m9 m10 m11 m12 m13 M_kind m15 m16 m17 m18 m19 m20 m21 ++ t)) := Ct.ofR (by decide +kernel) rfl (Nat.le_of_ble_eq_true rfl) (rt_M_closes h ⟨rfl, rfl⟩)
set_option maxRecDepth 20000 in
set_option maxHeartbeats 4000000 in
theorem rt_M_isIn {g : GG}  {t : va_W}  {p0 : Int32} {p1 : Int32} {p2 : Int32} {o : Int32} {Q : Rs → va_W → Prop} (h : f_M_isIn p0 p1 p2 = o) (hq : Q (.inl (some (.int o))) t) : R g mX11_isIn 1 0 0 0 [(0, .int p0), (1, .int p1), (2, .int p2)] [] t Q := by
  unfold f_M_isIn at h
  refine r_iload_n 0 dX11_isIn_0 rfl ?_
  refine r_iload_n 1 dX11_isIn_1 rfl ?_
  refine r_icmp_lt (tgt := 14) dX11_isIn_2 (by decide) (fun hc1364 => ?_) (fun hc1364 => ?_)
  · have h := ip (fun z9 => z9) hc1364 h
    refine r_iconst (v := (0 : Int32)) dX11_isIn_14 (by decide) ?_
    refine r_zret dX11_isIn_15 rfl (by decide) ?_
    have h : _ = o := h
    subst h
    exact hq
  · have h := iq (fun z9 => z9) hc1364 h
    refine r_iload_n 0 dX11_isIn_5 rfl ?_
    refine r_iload_n 2 dX11_isIn_6 rfl ?_
    refine r_icmp_gt (tgt := 14) dX11_isIn_7 (by decide) (fun hc1365 => ?_) (fun hc1365 => ?_)
    · have h := ip (fun z9 => z9) hc1365 h
      refine r_iconst (v := (0 : Int32)) dX11_isIn_14 (by decide) ?_
      refine r_zret dX11_isIn_15 rfl (by decide) ?_
      have h : _ = o := h
      subst h
      exact hq
    · have h := iq (fun z9 => z9) hc1365 h
      refine r_iconst (v := (1 : Int32)) dX11_isIn_10 (by decide) ?_
      refine r_goto (tgt := 15) dX11_isIn_11 (by decide) ?_
      refine r_zret dX11_isIn_15 rfl (by decide) ?_
      have h : _ = o := h
      subst h
      exact hq
theorem ct_M_isIn {g : GG}  {t : va_W}  {p0 : Int32} {p1 : Int32} {p2 : Int32} {o : Int32} (h : f_M_isIn p0 p1 p2 = o) : Ct g mX11_isIn 1 0 0 [.int p0, .int p1, .int p2] t (Dv (some (.int o)) t) := Ct.ofR (by decide +kernel) rfl (Nat.le_of_ble_eq_true rfl) (rt_M_isIn h ⟨rfl, rfl⟩)
set_option maxRecDepth 20000 in
set_option maxHeartbeats 4000000 in
theorem rt_M_isTest {g : GG} {am : Nat → Nat} {ap : Nat → Nat} {pm : Nat} {t : va_W} {m0 m1 m2 m5 m6 m7 m8 m9 m10 m11 m12 u0 u1 u2 u3 : Int32} {m13 m15 m18 m19 m20 m21 u7 u8 u9 u10 u11 u12 u13 u14 u15 : Nat → Int32} {u5 u6 : Nat → Int64} {N : Nat} {M_token : Int32} {M_depth : Int32} {M_kind : Nat → Int32} {M_means : Nat → Int32} {M_value : Nat → Int64} {P_many : Int32} {P_order : Nat → Int32} {P_with : Nat → Int32} {P_also : Nat → Int32} {D : Nat} {rec : Nat → Int32 → Int32 → (Int32 × Int32 × (Nat → Int32) × Int32 × (Nat → Int32) × (Nat → Int32) × (Nat → Int32)) → Option (Int32 × Int32 × Int32 × (Nat → Int32) × Int32 × (Nat → Int32) × (Nat → Int32) × (Nat → Int32))} (ih_0 : (∀ {w0 : Int32} {w1 : Int32} {w2 : Nat → Int32} {w3 : Int32} {w4 : Nat → Int32} {w5 : Nat → Int32} {w6 : Nat → Int32} {o : Int32 × Int32 × Int32 × (Nat → Int32) × Int32 × (Nat → Int32) × (Nat → Int32) × (Nat → Int32)} {t : va_W}, rec 0 0 0 (w0, w1, w2, w3, w4, w5, w6) = some o → Ct g mX11_isTest (5 + D) 0 0 [.ref (am 0), .ref (ap 0)] (wlM g am pm m0 m1 m2 w0 w1 m5 m6 m7 m8 m9 m10 m11 m12 m13 M_kind m15 w2 M_value m18 m19 m20 m21 ++ (wlP g ap u0 u1 u2 u3 w3 u5 u6 u7 u8 u9 u10 u11 u12 u13 u14 u15 w4 w5 w6 ++ t)) (Dv (some (.int o.1)) (wlM g am pm m0 m1 m2 o.2.1 o.2.2.1 m5 m6 m7 m8 m9 m10 m11 m12 m13 M_kind m15 o.2.2.2.1 M_value m18 m19 m20 m21 ++ (wlP g ap u0 u1 u2 u3 o.2.2.2.2.1 u5 u6 u7 u8 u9 u10 u11 u12 u13 u14 u15 o.2.2.2.2.2.1 o.2.2.2.2.2.2.1 o.2.2.2.2.2.2.2 ++ t))))) (ih_1 : (∀ {w0 : Int32} {w1 : Int32} {w2 : Nat → Int32} {w3 : Int32} {w4 : Nat → Int32} {w5 : Nat → Int32} {w6 : Nat → Int32} {o : Int32 × Int32 × Int32 × (Nat → Int32) × Int32 × (Nat → Int32) × (Nat → Int32) × (Nat → Int32)} {t : va_W}, rec 1 0 0 (w0, w1, w2, w3, w4, w5, w6) = some o → Ct g mX11_isBoth (5 + D) 0 0 [.ref (am 0), .ref (ap 0)] (wlM g am pm m0 m1 m2 w0 w1 m5 m6 m7 m8 m9 m10 m11 m12 m13 M_kind m15 w2 M_value m18 m19 m20 m21 ++ (wlP g ap u0 u1 u2 u3 w3 u5 u6 u7 u8 u9 u10 u11 u12 u13 u14 u15 w4 w5 w6 ++ t)) (Dv (some (.int o.1)) (wlM g am pm m0 m1 m2 o.2.1 o.2.2.1 m5 m6 m7 m8 m9 m10 m11 m12 m13 M_kind m15 o.2.2.2.1 M_value m18 m19 m20 m21 ++ (wlP g ap u0 u1 u2 u3 o.2.2.2.2.1 u5 u6 u7 u8 u9 u10 u11 u12 u13 u14 u15 o.2.2.2.2.2.1 o.2.2.2.2.2.2.1 o.2.2.2.2.2.2.2 ++ t))))) (ih_2 : (∀ {w0 : Int32} {w1 : Int32} {w2 : Nat → Int32} {w3 : Int32} {w4 : Nat → Int32} {w5 : Nat → Int32} {w6 : Nat → Int32} {o : Int32 × Int32 × Int32 × (Nat → Int32) × Int32 × (Nat → Int32) × (Nat → Int32) × (Nat → Int32)} {t : va_W}, rec 2 0 0 (w0, w1, w2, w3, w4, w5, w6) = some o → Ct g mX11_isSingle (5 + D) 0 0 [.ref (am 0), .ref (ap 0)] (wlM g am pm m0 m1 m2 w0 w1 m5 m6 m7 m8 m9 m10 m11 m12 m13 M_kind m15 w2 M_value m18 m19 m20 m21 ++ (wlP g ap u0 u1 u2 u3 w3 u5 u6 u7 u8 u9 u10 u11 u12 u13 u14 u15 w4 w5 w6 ++ t)) (Dv (some (.int o.1)) (wlM g am pm m0 m1 m2 o.2.1 o.2.2.1 m5 m6 m7 m8 m9 m10 m11 m12 m13 M_kind m15 o.2.2.2.1 M_value m18 m19 m20 m21 ++ (wlP g ap u0 u1 u2 u3 o.2.2.2.2.1 u5 u6 u7 u8 u9 u10 u11 u12 u13 u14 u15 o.2.2.2.2.2.1 o.2.2.2.2.2.2.1 o.2.2.2.2.2.2.2 ++ t))))) (ih_3 : (∀ {w0 : Int32} {w1 : Int32} {w2 : Nat → Int32} {w3 : Int32} {w4 : Nat → Int32} {w5 : Nat → Int32} {w6 : Nat → Int32} {o : Int32 × Int32 × Int32 × (Nat → Int32) × Int32 × (Nat → Int32) × (Nat → Int32) × (Nat → Int32)} {t : va_W}, rec 3 0 0 (w0, w1, w2, w3, w4, w5, w6) = some o → Ct g mX11_isCompare (5 + D) 0 0 [.ref (am 0), .ref (ap 0)] (wlM g am pm m0 m1 m2 w0 w1 m5 m6 m7 m8 m9 m10 m11 m12 m13 M_kind m15 w2 M_value m18 m19 m20 m21 ++ (wlP g ap u0 u1 u2 u3 w3 u5 u6 u7 u8 u9 u10 u11 u12 u13 u14 u15 w4 w5 w6 ++ t)) (Dv (some (.int o.1)) (wlM g am pm m0 m1 m2 o.2.1 o.2.2.1 m5 m6 m7 m8 m9 m10 m11 m12 m13 M_kind m15 o.2.2.2.1 M_value m18 m19 m20 m21 ++ (wlP g ap u0 u1 u2 u3 o.2.2.2.2.1 u5 u6 u7 u8 u9 u10 u11 u12 u13 u14 u15 o.2.2.2.2.2.1 o.2.2.2.2.2.2.1 o.2.2.2.2.2.2.2 ++ t))))) (ih_4 : (∀ {w0 : Int32} {w1 : Int32} {w2 : Nat → Int32} {w3 : Int32} {w4 : Nat → Int32} {w5 : Nat → Int32} {w6 : Nat → Int32} {o : Int32 × Int32 × Int32 × (Nat → Int32) × Int32 × (Nat → Int32) × (Nat → Int32) × (Nat → Int32)} {t : va_W}, rec 4 0 0 (w0, w1, w2, w3, w4, w5, w6) = some o → Ct g mX11_isSum (5 + D) 0 0 [.ref (am 0), .ref (ap 0)] (wlM g am pm m0 m1 m2 w0 w1 m5 m6 m7 m8 m9 m10 m11 m12 m13 M_kind m15 w2 M_value m18 m19 m20 m21 ++ (wlP g ap u0 u1 u2 u3 w3 u5 u6 u7 u8 u9 u10 u11 u12 u13 u14 u15 w4 w5 w6 ++ t)) (Dv (some (.int o.1)) (wlM g am pm m0 m1 m2 o.2.1 o.2.2.1 m5 m6 m7 m8 m9 m10 m11 m12 m13 M_kind m15 o.2.2.2.1 M_value m18 m19 m20 m21 ++ (wlP g ap u0 u1 u2 u3 o.2.2.2.2.1 u5 u6 u7 u8 u9 u10 u11 u12 u13 u14 u15 o.2.2.2.2.2.1 o.2.2.2.2.2.2.1 o.2.2.2.2.2.2.2 ++ t))))) (ih_5 : (∀ {w0 : Int32} {w1 : Int32} {w2 : Nat → Int32} {w3 : Int32} {w4 : Nat → Int32} {w5 : Nat → Int32} {w6 : Nat → Int32} {o : Int32 × Int32 × Int32 × (Nat → Int32) × Int32 × (Nat → Int32) × (Nat → Int32) × (Nat → Int32)} {t : va_W}, rec 5 0 0 (w0, w1, w2, w3, w4, w5, w6) = some o → Ct g mX11_isProduct (5 + D) 0 0 [.ref (am 0), .ref (ap 0)] (wlM g am pm m0 m1 m2 w0 w1 m5 m6 m7 m8 m9 m10 m11 m12 m13 M_kind m15 w2 M_value m18 m19 m20 m21 ++ (wlP g ap u0 u1 u2 u3 w3 u5 u6 u7 u8 u9 u10 u11 u12 u13 u14 u15 w4 w5 w6 ++ t)) (Dv (some (.int o.1)) (wlM g am pm m0 m1 m2 o.2.1 o.2.2.1 m5 m6 m7 m8 m9 m10 m11 m12 m13 M_kind m15 o.2.2.2.1 M_value m18 m19 m20 m21 ++ (wlP g ap u0 u1 u2 u3 o.2.2.2.2.1 u5 u6 u7 u8 u9 u10 u11 u12 u13 u14 u15 o.2.2.2.2.2.1 o.2.2.2.2.2.2.1 o.2.2.2.2.2.2.2 ++ t))))) (ih_6 : (∀ {w0 : Int32} {w1 : Int32} {w2 : Nat → Int32} {w3 : Int32} {w4 : Nat → Int32} {w5 : Nat → Int32} {w6 : Nat → Int32} {o : Int32 × Int32 × Int32 × (Nat → Int32) × Int32 × (Nat → Int32) × (Nat → Int32) × (Nat → Int32)} {t : va_W}, rec 6 0 0 (w0, w1, w2, w3, w4, w5, w6) = some o → Ct g mX11_isValue (5 + D) 0 0 [.ref (am 0), .ref (ap 0)] (wlM g am pm m0 m1 m2 w0 w1 m5 m6 m7 m8 m9 m10 m11 m12 m13 M_kind m15 w2 M_value m18 m19 m20 m21 ++ (wlP g ap u0 u1 u2 u3 w3 u5 u6 u7 u8 u9 u10 u11 u12 u13 u14 u15 w4 w5 w6 ++ t)) (Dv (some (.int o.1)) (wlM g am pm m0 m1 m2 o.2.1 o.2.2.1 m5 m6 m7 m8 m9 m10 m11 m12 m13 M_kind m15 o.2.2.2.1 M_value m18 m19 m20 m21 ++ (wlP g ap u0 u1 u2 u3 o.2.2.2.2.1 u5 u6 u7 u8 u9 u10 u11 u12 u13 u14 u15 o.2.2.2.2.2.1 o.2.2.2.2.2.2.1 o.2.2.2.2.2.2.2 ++ t))))) (ih_7 : (∀ {w0 : Int32} {w1 : Int32} {w2 : Nat → Int32} {w3 : Int32} {w4 : Nat → Int32} {w5 : Nat → Int32} {w6 : Nat → Int32} {p2 : Int32} {o : Int32 × Int32 × Int32 × (Nat → Int32) × Int32 × (Nat → Int32) × (Nat → Int32) × (Nat → Int32)} {t : va_W}, rec 7 p2 0 (w0, w1, w2, w3, w4, w5, w6) = some o → Ct g mX11_isOfTwo (5 + D) 0 0 [.ref (am 0), .ref (ap 0), .int p2] (wlM g am pm m0 m1 m2 w0 w1 m5 m6 m7 m8 m9 m10 m11 m12 m13 M_kind m15 w2 M_value m18 m19 m20 m21 ++ (wlP g ap u0 u1 u2 u3 w3 u5 u6 u7 u8 u9 u10 u11 u12 u13 u14 u15 w4 w5 w6 ++ t)) (Dv (some (.int o.1)) (wlM g am pm m0 m1 m2 o.2.1 o.2.2.1 m5 m6 m7 m8 m9 m10 m11 m12 m13 M_kind m15 o.2.2.2.1 M_value m18 m19 m20 m21 ++ (wlP g ap u0 u1 u2 u3 o.2.2.2.2.1 u5 u6 u7 u8 u9 u10 u11 u12 u13 u14 u15 o.2.2.2.2.2.1 o.2.2.2.2.2.2.1 o.2.2.2.2.2.2.2 ++ t))))) {o : Int32 × Int32 × Int32 × (Nat → Int32) × Int32 × (Nat → Int32) × (Nat → Int32) × (Nat → Int32)} {Q : Rs → va_W → Prop} (h : f_M_isTest N rec M_token M_depth M_kind M_means M_value P_many P_order P_with P_also = some o) (hq : Q (.inl (some (.int o.1))) (wlM g am pm m0 m1 m2 o.2.1 o.2.2.1 m5 m6 m7 m8 m9 m10 m11 m12 m13 M_kind m15 o.2.2.2.1 M_value m18 m19 m20 m21 ++ (wlP g ap u0 u1 u2 u3 o.2.2.2.2.1 u5 u6 u7 u8 u9 u10 u11 u12 u13 u14 u15 o.2.2.2.2.2.1 o.2.2.2.2.2.2.1 o.2.2.2.2.2.2.2 ++ t))) : R g mX11_isTest (5 + (D + 1)) 0 0 0 [(0, .ref (am 0)), (1, .ref (ap 0))] [] (wlM g am pm m0 m1 m2 M_token M_depth m5 m6 m7 m8 m9 m10 m11 m12 m13 M_kind m15 M_means M_value m18 m19 m20 m21 ++ (wlP g ap u0 u1 u2 u3 P_many u5 u6 u7 u8 u9 u10 u11 u12 u13 u14 u15 P_order P_with P_also ++ t)) Q := by
  unfold f_M_isTest at h
  refine r_aload_n 0 dX11_isTest_0 rfl ?_
  refine r_aload_n 1 dX11_isTest_1 rfl ?_
  obtain ⟨r1366, hc1367, h⟩ := ob (fun z9 => z9) rfl h
  refine c_V (rest := []) 0 0 _ dX11_isTest_2 kv_X11_271 (ih_1 hc1367) rfl rfl lM_0 rfl (Nat.le_of_ble_eq_true rfl) (Nat.le_refl _) (by decide) ?_
  refine r_if_ne (tgt := 10) dX11_isTest_5 (by decide) (fun hc1368 => ?_) (fun hc1368 => ?_)
  · have h := iq (fun z9 => z9) hc1368 h
    refine r_ls [0, 1] (ls2 := [(0, .ref (am 0)), (1, .ref (ap 0))]) rfl ?_
    have L1 : ∀ (n1 : Nat) (M_token_1 : Int32) (M_depth_1 : Int32) (M_means_1 : Nat → Int32) (P_many_1 : Int32) (P_order_1 : Nat → Int32) (P_with_1 : Nat → Int32) (P_also_1 : Nat → Int32), (fun z9 => z9) (lpS (f_M_isTest_L10 M_kind rec) none n1 (M_token_1, M_depth_1, M_means_1, P_many_1, P_order_1, P_with_1, P_also_1)) = some o → R g mX11_isTest (5 + (D + 1)) 0 0 10 [(0, .ref (am 0)), (1, .ref (ap 0))] [] (wlM g am pm m0 m1 m2 M_token_1 M_depth_1 m5 m6 m7 m8 m9 m10 m11 m12 m13 M_kind m15 M_means_1 M_value m18 m19 m20 m21 ++ (wlP g ap u0 u1 u2 u3 P_many_1 u5 u6 u7 u8 u9 u10 u11 u12 u13 u14 u15 P_order_1 P_with_1 P_also_1 ++ t)) Q := by
      intro n1
      induction n1 with
      | zero => intro M_token_1 M_depth_1 M_means_1 P_many_1 P_order_1 P_with_1 P_also_1 h; exact nomatch (show (none : Option _) = some _ from h)
      | succ n1 ih1 =>
        intro M_token_1 M_depth_1 M_means_1 P_many_1 P_order_1 P_with_1 P_also_1 h
        have h : (fun z9 => (lC (f_M_isTest_L10 M_kind rec) none n1 z9)) (f_M_isTest_L10 M_kind rec (M_token_1, M_depth_1, M_means_1, P_many_1, P_order_1, P_with_1, P_also_1)) = some o := h
        unfold f_M_isTest_L10 at h
        try dsimp only at h
        refine r_aload_n 0 dX11_isTest_10 rfl ?_
        refine r_bipush (v := (22 : Int32)) dX11_isTest_11 (by decide) ?_
        obtain ⟨r1369, hc1370, h⟩ := ob (fun z9 => (lC (f_M_isTest_L10 M_kind rec) none n1 z9)) rfl h
        refine c_V (rest := []) 0 0 _ dX11_isTest_13 kv_X11_255 (ct_M_eat hc1370) rfl rfl lM_0 rfl (Nat.le_of_ble_eq_true rfl) (dl (by decide)) (by decide) ?_
        refine r_if_eq (tgt := 40) dX11_isTest_16 (by decide) (fun hc1371 => ?_) (fun hc1371 => ?_)
        · have h := ip (fun z9 => (lC (f_M_isTest_L10 M_kind rec) none n1 z9)) hc1371 h
          refine r_iconst (v := (1 : Int32)) dX11_isTest_40 (by decide) ?_
          refine r_zret dX11_isTest_41 rfl (by decide) ?_
          have h := Option.some.inj (show some _ = some o from h)
          subst h
          exact hq
        · have h := iq (fun z9 => (lC (f_M_isTest_L10 M_kind rec) none n1 z9)) hc1371 h
          refine r_aload_n 0 dX11_isTest_19 rfl ?_
          refine r_aload_n 1 dX11_isTest_20 rfl ?_
          obtain ⟨r1372, hc1373, h⟩ := ob (fun z9 => (lC (f_M_isTest_L10 M_kind rec) none n1 z9)) rfl h
          refine c_V (rest := []) 0 0 _ dX11_isTest_21 kv_X11_271 (ih_1 hc1373) rfl rfl lM_0 rfl (Nat.le_of_ble_eq_true rfl) (Nat.le_refl _) (by decide) ?_
          refine r_if_ne (tgt := 29) dX11_isTest_24 (by decide) (fun hc1374 => ?_) (fun hc1374 => ?_)
          · have h := iq (fun z9 => (lC (f_M_isTest_L10 M_kind rec) none n1 z9)) hc1374 h
            refine r_aload_n 0 dX11_isTest_29 rfl ?_
            refine r_aload_n 1 dX11_isTest_30 rfl ?_
            refine r_bipush (v := (22 : Int32)) dX11_isTest_31 (by decide) ?_
            refine r_iconst (v := (0 : Int32)) dX11_isTest_33 (by decide) ?_
            obtain ⟨r1375, hc1376, h⟩ := ob (fun z9 => (lC (f_M_isTest_L10 M_kind rec) none n1 z9)) rfl h
            refine c_Vv (rest := []) 0 0 _ dX11_isTest_34 kv_X11_267 (ct_M_put hc1376) rfl rfl lM_0 rfl (Nat.le_of_ble_eq_true rfl) (dl (by decide)) (by decide) ?_
            refine r_goto (tgt := 10) dX11_isTest_37 (by decide) ?_
            refine r_ls [0, 1] (ls2 := [(0, .ref (am 0)), (1, .ref (ap 0))]) rfl ?_
            exact ih1 r1372.2.1 r1372.2.2.1 r1372.2.2.2.1 r1375.1 r1375.2.1 r1375.2.2 r1372.2.2.2.2.2.2.2 h
          · have h := ip (fun z9 => (lC (f_M_isTest_L10 M_kind rec) none n1 z9)) hc1374 h
            refine r_iconst (v := (0 : Int32)) dX11_isTest_27 (by decide) ?_
            refine r_zret dX11_isTest_28 rfl (by decide) ?_
            have h := Option.some.inj (show some _ = some o from h)
            subst h
            exact hq
    exact L1 _ r1366.2.1 r1366.2.2.1 r1366.2.2.2.1 r1366.2.2.2.2.1 r1366.2.2.2.2.2.1 r1366.2.2.2.2.2.2.1 r1366.2.2.2.2.2.2.2 h
  · have h := ip (fun z9 => z9) hc1368 h
    refine r_iconst (v := (0 : Int32)) dX11_isTest_8 (by decide) ?_
    refine r_zret dX11_isTest_9 rfl (by decide) ?_
    have h := Option.some.inj (show some _ = some o from h)
    subst h
    exact hq
set_option maxRecDepth 20000 in
set_option maxHeartbeats 4000000 in
theorem rt_M_isBoth {g : GG} {am : Nat → Nat} {ap : Nat → Nat} {pm : Nat} {t : va_W} {m0 m1 m2 m5 m6 m7 m8 m9 m10 m11 m12 u0 u1 u2 u3 : Int32} {m13 m15 m18 m19 m20 m21 u7 u8 u9 u10 u11 u12 u13 u14 u15 : Nat → Int32} {u5 u6 : Nat → Int64} {N : Nat} {M_token : Int32} {M_depth : Int32} {M_kind : Nat → Int32} {M_means : Nat → Int32} {M_value : Nat → Int64} {P_many : Int32} {P_order : Nat → Int32} {P_with : Nat → Int32} {P_also : Nat → Int32} {D : Nat} {rec : Nat → Int32 → Int32 → (Int32 × Int32 × (Nat → Int32) × Int32 × (Nat → Int32) × (Nat → Int32) × (Nat → Int32)) → Option (Int32 × Int32 × Int32 × (Nat → Int32) × Int32 × (Nat → Int32) × (Nat → Int32) × (Nat → Int32))} (ih_0 : (∀ {w0 : Int32} {w1 : Int32} {w2 : Nat → Int32} {w3 : Int32} {w4 : Nat → Int32} {w5 : Nat → Int32} {w6 : Nat → Int32} {o : Int32 × Int32 × Int32 × (Nat → Int32) × Int32 × (Nat → Int32) × (Nat → Int32) × (Nat → Int32)} {t : va_W}, rec 0 0 0 (w0, w1, w2, w3, w4, w5, w6) = some o → Ct g mX11_isTest (5 + D) 0 0 [.ref (am 0), .ref (ap 0)] (wlM g am pm m0 m1 m2 w0 w1 m5 m6 m7 m8 m9 m10 m11 m12 m13 M_kind m15 w2 M_value m18 m19 m20 m21 ++ (wlP g ap u0 u1 u2 u3 w3 u5 u6 u7 u8 u9 u10 u11 u12 u13 u14 u15 w4 w5 w6 ++ t)) (Dv (some (.int o.1)) (wlM g am pm m0 m1 m2 o.2.1 o.2.2.1 m5 m6 m7 m8 m9 m10 m11 m12 m13 M_kind m15 o.2.2.2.1 M_value m18 m19 m20 m21 ++ (wlP g ap u0 u1 u2 u3 o.2.2.2.2.1 u5 u6 u7 u8 u9 u10 u11 u12 u13 u14 u15 o.2.2.2.2.2.1 o.2.2.2.2.2.2.1 o.2.2.2.2.2.2.2 ++ t))))) (ih_1 : (∀ {w0 : Int32} {w1 : Int32} {w2 : Nat → Int32} {w3 : Int32} {w4 : Nat → Int32} {w5 : Nat → Int32} {w6 : Nat → Int32} {o : Int32 × Int32 × Int32 × (Nat → Int32) × Int32 × (Nat → Int32) × (Nat → Int32) × (Nat → Int32)} {t : va_W}, rec 1 0 0 (w0, w1, w2, w3, w4, w5, w6) = some o → Ct g mX11_isBoth (5 + D) 0 0 [.ref (am 0), .ref (ap 0)] (wlM g am pm m0 m1 m2 w0 w1 m5 m6 m7 m8 m9 m10 m11 m12 m13 M_kind m15 w2 M_value m18 m19 m20 m21 ++ (wlP g ap u0 u1 u2 u3 w3 u5 u6 u7 u8 u9 u10 u11 u12 u13 u14 u15 w4 w5 w6 ++ t)) (Dv (some (.int o.1)) (wlM g am pm m0 m1 m2 o.2.1 o.2.2.1 m5 m6 m7 m8 m9 m10 m11 m12 m13 M_kind m15 o.2.2.2.1 M_value m18 m19 m20 m21 ++ (wlP g ap u0 u1 u2 u3 o.2.2.2.2.1 u5 u6 u7 u8 u9 u10 u11 u12 u13 u14 u15 o.2.2.2.2.2.1 o.2.2.2.2.2.2.1 o.2.2.2.2.2.2.2 ++ t))))) (ih_2 : (∀ {w0 : Int32} {w1 : Int32} {w2 : Nat → Int32} {w3 : Int32} {w4 : Nat → Int32} {w5 : Nat → Int32} {w6 : Nat → Int32} {o : Int32 × Int32 × Int32 × (Nat → Int32) × Int32 × (Nat → Int32) × (Nat → Int32) × (Nat → Int32)} {t : va_W}, rec 2 0 0 (w0, w1, w2, w3, w4, w5, w6) = some o → Ct g mX11_isSingle (5 + D) 0 0 [.ref (am 0), .ref (ap 0)] (wlM g am pm m0 m1 m2 w0 w1 m5 m6 m7 m8 m9 m10 m11 m12 m13 M_kind m15 w2 M_value m18 m19 m20 m21 ++ (wlP g ap u0 u1 u2 u3 w3 u5 u6 u7 u8 u9 u10 u11 u12 u13 u14 u15 w4 w5 w6 ++ t)) (Dv (some (.int o.1)) (wlM g am pm m0 m1 m2 o.2.1 o.2.2.1 m5 m6 m7 m8 m9 m10 m11 m12 m13 M_kind m15 o.2.2.2.1 M_value m18 m19 m20 m21 ++ (wlP g ap u0 u1 u2 u3 o.2.2.2.2.1 u5 u6 u7 u8 u9 u10 u11 u12 u13 u14 u15 o.2.2.2.2.2.1 o.2.2.2.2.2.2.1 o.2.2.2.2.2.2.2 ++ t))))) (ih_3 : (∀ {w0 : Int32} {w1 : Int32} {w2 : Nat → Int32} {w3 : Int32} {w4 : Nat → Int32} {w5 : Nat → Int32} {w6 : Nat → Int32} {o : Int32 × Int32 × Int32 × (Nat → Int32) × Int32 × (Nat → Int32) × (Nat → Int32) × (Nat → Int32)} {t : va_W}, rec 3 0 0 (w0, w1, w2, w3, w4, w5, w6) = some o → Ct g mX11_isCompare (5 + D) 0 0 [.ref (am 0), .ref (ap 0)] (wlM g am pm m0 m1 m2 w0 w1 m5 m6 m7 m8 m9 m10 m11 m12 m13 M_kind m15 w2 M_value m18 m19 m20 m21 ++ (wlP g ap u0 u1 u2 u3 w3 u5 u6 u7 u8 u9 u10 u11 u12 u13 u14 u15 w4 w5 w6 ++ t)) (Dv (some (.int o.1)) (wlM g am pm m0 m1 m2 o.2.1 o.2.2.1 m5 m6 m7 m8 m9 m10 m11 m12 m13 M_kind m15 o.2.2.2.1 M_value m18 m19 m20 m21 ++ (wlP g ap u0 u1 u2 u3 o.2.2.2.2.1 u5 u6 u7 u8 u9 u10 u11 u12 u13 u14 u15 o.2.2.2.2.2.1 o.2.2.2.2.2.2.1 o.2.2.2.2.2.2.2 ++ t))))) (ih_4 : (∀ {w0 : Int32} {w1 : Int32} {w2 : Nat → Int32} {w3 : Int32} {w4 : Nat → Int32} {w5 : Nat → Int32} {w6 : Nat → Int32} {o : Int32 × Int32 × Int32 × (Nat → Int32) × Int32 × (Nat → Int32) × (Nat → Int32) × (Nat → Int32)} {t : va_W}, rec 4 0 0 (w0, w1, w2, w3, w4, w5, w6) = some o → Ct g mX11_isSum (5 + D) 0 0 [.ref (am 0), .ref (ap 0)] (wlM g am pm m0 m1 m2 w0 w1 m5 m6 m7 m8 m9 m10 m11 m12 m13 M_kind m15 w2 M_value m18 m19 m20 m21 ++ (wlP g ap u0 u1 u2 u3 w3 u5 u6 u7 u8 u9 u10 u11 u12 u13 u14 u15 w4 w5 w6 ++ t)) (Dv (some (.int o.1)) (wlM g am pm m0 m1 m2 o.2.1 o.2.2.1 m5 m6 m7 m8 m9 m10 m11 m12 m13 M_kind m15 o.2.2.2.1 M_value m18 m19 m20 m21 ++ (wlP g ap u0 u1 u2 u3 o.2.2.2.2.1 u5 u6 u7 u8 u9 u10 u11 u12 u13 u14 u15 o.2.2.2.2.2.1 o.2.2.2.2.2.2.1 o.2.2.2.2.2.2.2 ++ t))))) (ih_5 : (∀ {w0 : Int32} {w1 : Int32} {w2 : Nat → Int32} {w3 : Int32} {w4 : Nat → Int32} {w5 : Nat → Int32} {w6 : Nat → Int32} {o : Int32 × Int32 × Int32 × (Nat → Int32) × Int32 × (Nat → Int32) × (Nat → Int32) × (Nat → Int32)} {t : va_W}, rec 5 0 0 (w0, w1, w2, w3, w4, w5, w6) = some o → Ct g mX11_isProduct (5 + D) 0 0 [.ref (am 0), .ref (ap 0)] (wlM g am pm m0 m1 m2 w0 w1 m5 m6 m7 m8 m9 m10 m11 m12 m13 M_kind m15 w2 M_value m18 m19 m20 m21 ++ (wlP g ap u0 u1 u2 u3 w3 u5 u6 u7 u8 u9 u10 u11 u12 u13 u14 u15 w4 w5 w6 ++ t)) (Dv (some (.int o.1)) (wlM g am pm m0 m1 m2 o.2.1 o.2.2.1 m5 m6 m7 m8 m9 m10 m11 m12 m13 M_kind m15 o.2.2.2.1 M_value m18 m19 m20 m21 ++ (wlP g ap u0 u1 u2 u3 o.2.2.2.2.1 u5 u6 u7 u8 u9 u10 u11 u12 u13 u14 u15 o.2.2.2.2.2.1 o.2.2.2.2.2.2.1 o.2.2.2.2.2.2.2 ++ t))))) (ih_6 : (∀ {w0 : Int32} {w1 : Int32} {w2 : Nat → Int32} {w3 : Int32} {w4 : Nat → Int32} {w5 : Nat → Int32} {w6 : Nat → Int32} {o : Int32 × Int32 × Int32 × (Nat → Int32) × Int32 × (Nat → Int32) × (Nat → Int32) × (Nat → Int32)} {t : va_W}, rec 6 0 0 (w0, w1, w2, w3, w4, w5, w6) = some o → Ct g mX11_isValue (5 + D) 0 0 [.ref (am 0), .ref (ap 0)] (wlM g am pm m0 m1 m2 w0 w1 m5 m6 m7 m8 m9 m10 m11 m12 m13 M_kind m15 w2 M_value m18 m19 m20 m21 ++ (wlP g ap u0 u1 u2 u3 w3 u5 u6 u7 u8 u9 u10 u11 u12 u13 u14 u15 w4 w5 w6 ++ t)) (Dv (some (.int o.1)) (wlM g am pm m0 m1 m2 o.2.1 o.2.2.1 m5 m6 m7 m8 m9 m10 m11 m12 m13 M_kind m15 o.2.2.2.1 M_value m18 m19 m20 m21 ++ (wlP g ap u0 u1 u2 u3 o.2.2.2.2.1 u5 u6 u7 u8 u9 u10 u11 u12 u13 u14 u15 o.2.2.2.2.2.1 o.2.2.2.2.2.2.1 o.2.2.2.2.2.2.2 ++ t))))) (ih_7 : (∀ {w0 : Int32} {w1 : Int32} {w2 : Nat → Int32} {w3 : Int32} {w4 : Nat → Int32} {w5 : Nat → Int32} {w6 : Nat → Int32} {p2 : Int32} {o : Int32 × Int32 × Int32 × (Nat → Int32) × Int32 × (Nat → Int32) × (Nat → Int32) × (Nat → Int32)} {t : va_W}, rec 7 p2 0 (w0, w1, w2, w3, w4, w5, w6) = some o → Ct g mX11_isOfTwo (5 + D) 0 0 [.ref (am 0), .ref (ap 0), .int p2] (wlM g am pm m0 m1 m2 w0 w1 m5 m6 m7 m8 m9 m10 m11 m12 m13 M_kind m15 w2 M_value m18 m19 m20 m21 ++ (wlP g ap u0 u1 u2 u3 w3 u5 u6 u7 u8 u9 u10 u11 u12 u13 u14 u15 w4 w5 w6 ++ t)) (Dv (some (.int o.1)) (wlM g am pm m0 m1 m2 o.2.1 o.2.2.1 m5 m6 m7 m8 m9 m10 m11 m12 m13 M_kind m15 o.2.2.2.1 M_value m18 m19 m20 m21 ++ (wlP g ap u0 u1 u2 u3 o.2.2.2.2.1 u5 u6 u7 u8 u9 u10 u11 u12 u13 u14 u15 o.2.2.2.2.2.1 o.2.2.2.2.2.2.1 o.2.2.2.2.2.2.2 ++ t))))) {o : Int32 × Int32 × Int32 × (Nat → Int32) × Int32 × (Nat → Int32) × (Nat → Int32) × (Nat → Int32)} {Q : Rs → va_W → Prop} (h : f_M_isBoth N rec M_token M_depth M_kind M_means M_value P_many P_order P_with P_also = some o) (hq : Q (.inl (some (.int o.1))) (wlM g am pm m0 m1 m2 o.2.1 o.2.2.1 m5 m6 m7 m8 m9 m10 m11 m12 m13 M_kind m15 o.2.2.2.1 M_value m18 m19 m20 m21 ++ (wlP g ap u0 u1 u2 u3 o.2.2.2.2.1 u5 u6 u7 u8 u9 u10 u11 u12 u13 u14 u15 o.2.2.2.2.2.1 o.2.2.2.2.2.2.1 o.2.2.2.2.2.2.2 ++ t))) : R g mX11_isBoth (5 + (D + 1)) 0 0 0 [(0, .ref (am 0)), (1, .ref (ap 0))] [] (wlM g am pm m0 m1 m2 M_token M_depth m5 m6 m7 m8 m9 m10 m11 m12 m13 M_kind m15 M_means M_value m18 m19 m20 m21 ++ (wlP g ap u0 u1 u2 u3 P_many u5 u6 u7 u8 u9 u10 u11 u12 u13 u14 u15 P_order P_with P_also ++ t)) Q := by
  unfold f_M_isBoth at h
  refine r_aload_n 0 dX11_isBoth_0 rfl ?_
  refine r_aload_n 1 dX11_isBoth_1 rfl ?_
  obtain ⟨r1377, hc1378, h⟩ := ob (fun z9 => z9) rfl h
  refine c_V (rest := []) 0 0 _ dX11_isBoth_2 kv_X11_275 (ih_2 hc1378) rfl rfl lM_0 rfl (Nat.le_of_ble_eq_true rfl) (Nat.le_refl _) (by decide) ?_
  refine r_if_ne (tgt := 10) dX11_isBoth_5 (by decide) (fun hc1379 => ?_) (fun hc1379 => ?_)
  · have h := iq (fun z9 => z9) hc1379 h
    refine r_ls [0, 1] (ls2 := [(0, .ref (am 0)), (1, .ref (ap 0))]) rfl ?_
    have L1 : ∀ (n1 : Nat) (M_token_1 : Int32) (M_depth_1 : Int32) (M_means_1 : Nat → Int32) (P_many_1 : Int32) (P_order_1 : Nat → Int32) (P_with_1 : Nat → Int32) (P_also_1 : Nat → Int32), (fun z9 => z9) (lpS (f_M_isBoth_L10 M_kind rec) none n1 (M_token_1, M_depth_1, M_means_1, P_many_1, P_order_1, P_with_1, P_also_1)) = some o → R g mX11_isBoth (5 + (D + 1)) 0 0 10 [(0, .ref (am 0)), (1, .ref (ap 0))] [] (wlM g am pm m0 m1 m2 M_token_1 M_depth_1 m5 m6 m7 m8 m9 m10 m11 m12 m13 M_kind m15 M_means_1 M_value m18 m19 m20 m21 ++ (wlP g ap u0 u1 u2 u3 P_many_1 u5 u6 u7 u8 u9 u10 u11 u12 u13 u14 u15 P_order_1 P_with_1 P_also_1 ++ t)) Q := by
      intro n1
      induction n1 with
      | zero => intro M_token_1 M_depth_1 M_means_1 P_many_1 P_order_1 P_with_1 P_also_1 h; exact nomatch (show (none : Option _) = some _ from h)
      | succ n1 ih1 =>
        intro M_token_1 M_depth_1 M_means_1 P_many_1 P_order_1 P_with_1 P_also_1 h
        have h : (fun z9 => (lC (f_M_isBoth_L10 M_kind rec) none n1 z9)) (f_M_isBoth_L10 M_kind rec (M_token_1, M_depth_1, M_means_1, P_many_1, P_order_1, P_with_1, P_also_1)) = some o := h
        unfold f_M_isBoth_L10 at h
        try dsimp only at h
        refine r_aload_n 0 dX11_isBoth_10 rfl ?_
        refine r_bipush (v := (21 : Int32)) dX11_isBoth_11 (by decide) ?_
        obtain ⟨r1380, hc1381, h⟩ := ob (fun z9 => (lC (f_M_isBoth_L10 M_kind rec) none n1 z9)) rfl h
        refine c_V (rest := []) 0 0 _ dX11_isBoth_13 kv_X11_255 (ct_M_eat hc1381) rfl rfl lM_0 rfl (Nat.le_of_ble_eq_true rfl) (dl (by decide)) (by decide) ?_
        refine r_if_eq (tgt := 40) dX11_isBoth_16 (by decide) (fun hc1382 => ?_) (fun hc1382 => ?_)
        · have h := ip (fun z9 => (lC (f_M_isBoth_L10 M_kind rec) none n1 z9)) hc1382 h
          refine r_iconst (v := (1 : Int32)) dX11_isBoth_40 (by decide) ?_
          refine r_zret dX11_isBoth_41 rfl (by decide) ?_
          have h := Option.some.inj (show some _ = some o from h)
          subst h
          exact hq
        · have h := iq (fun z9 => (lC (f_M_isBoth_L10 M_kind rec) none n1 z9)) hc1382 h
          refine r_aload_n 0 dX11_isBoth_19 rfl ?_
          refine r_aload_n 1 dX11_isBoth_20 rfl ?_
          obtain ⟨r1383, hc1384, h⟩ := ob (fun z9 => (lC (f_M_isBoth_L10 M_kind rec) none n1 z9)) rfl h
          refine c_V (rest := []) 0 0 _ dX11_isBoth_21 kv_X11_275 (ih_2 hc1384) rfl rfl lM_0 rfl (Nat.le_of_ble_eq_true rfl) (Nat.le_refl _) (by decide) ?_
          refine r_if_ne (tgt := 29) dX11_isBoth_24 (by decide) (fun hc1385 => ?_) (fun hc1385 => ?_)
          · have h := iq (fun z9 => (lC (f_M_isBoth_L10 M_kind rec) none n1 z9)) hc1385 h
            refine r_aload_n 0 dX11_isBoth_29 rfl ?_
            refine r_aload_n 1 dX11_isBoth_30 rfl ?_
            refine r_bipush (v := (21 : Int32)) dX11_isBoth_31 (by decide) ?_
            refine r_iconst (v := (0 : Int32)) dX11_isBoth_33 (by decide) ?_
            obtain ⟨r1386, hc1387, h⟩ := ob (fun z9 => (lC (f_M_isBoth_L10 M_kind rec) none n1 z9)) rfl h
            refine c_Vv (rest := []) 0 0 _ dX11_isBoth_34 kv_X11_267 (ct_M_put hc1387) rfl rfl lM_0 rfl (Nat.le_of_ble_eq_true rfl) (dl (by decide)) (by decide) ?_
            refine r_goto (tgt := 10) dX11_isBoth_37 (by decide) ?_
            refine r_ls [0, 1] (ls2 := [(0, .ref (am 0)), (1, .ref (ap 0))]) rfl ?_
            exact ih1 r1383.2.1 r1383.2.2.1 r1383.2.2.2.1 r1386.1 r1386.2.1 r1386.2.2 r1383.2.2.2.2.2.2.2 h
          · have h := ip (fun z9 => (lC (f_M_isBoth_L10 M_kind rec) none n1 z9)) hc1385 h
            refine r_iconst (v := (0 : Int32)) dX11_isBoth_27 (by decide) ?_
            refine r_zret dX11_isBoth_28 rfl (by decide) ?_
            have h := Option.some.inj (show some _ = some o from h)
            subst h
            exact hq
    exact L1 _ r1377.2.1 r1377.2.2.1 r1377.2.2.2.1 r1377.2.2.2.2.1 r1377.2.2.2.2.2.1 r1377.2.2.2.2.2.2.1 r1377.2.2.2.2.2.2.2 h
  · have h := ip (fun z9 => z9) hc1379 h
    refine r_iconst (v := (0 : Int32)) dX11_isBoth_8 (by decide) ?_
    refine r_zret dX11_isBoth_9 rfl (by decide) ?_
    have h := Option.some.inj (show some _ = some o from h)
    subst h
    exact hq
set_option maxRecDepth 20000 in
set_option maxHeartbeats 4000000 in
theorem rt_M_isSingle {g : GG} {am : Nat → Nat} {ap : Nat → Nat} {pm : Nat} {t : va_W} {m0 m1 m2 m5 m6 m7 m8 m9 m10 m11 m12 u0 u1 u2 u3 : Int32} {m13 m15 m18 m19 m20 m21 u7 u8 u9 u10 u11 u12 u13 u14 u15 : Nat → Int32} {u5 u6 : Nat → Int64} {N : Nat} {M_token : Int32} {M_depth : Int32} {M_kind : Nat → Int32} {M_means : Nat → Int32} {M_value : Nat → Int64} {P_many : Int32} {P_order : Nat → Int32} {P_with : Nat → Int32} {P_also : Nat → Int32} {D : Nat} {rec : Nat → Int32 → Int32 → (Int32 × Int32 × (Nat → Int32) × Int32 × (Nat → Int32) × (Nat → Int32) × (Nat → Int32)) → Option (Int32 × Int32 × Int32 × (Nat → Int32) × Int32 × (Nat → Int32) × (Nat → Int32) × (Nat → Int32))} (ih_0 : (∀ {w0 : Int32} {w1 : Int32} {w2 : Nat → Int32} {w3 : Int32} {w4 : Nat → Int32} {w5 : Nat → Int32} {w6 : Nat → Int32} {o : Int32 × Int32 × Int32 × (Nat → Int32) × Int32 × (Nat → Int32) × (Nat → Int32) × (Nat → Int32)} {t : va_W}, rec 0 0 0 (w0, w1, w2, w3, w4, w5, w6) = some o → Ct g mX11_isTest (5 + D) 0 0 [.ref (am 0), .ref (ap 0)] (wlM g am pm m0 m1 m2 w0 w1 m5 m6 m7 m8 m9 m10 m11 m12 m13 M_kind m15 w2 M_value m18 m19 m20 m21 ++ (wlP g ap u0 u1 u2 u3 w3 u5 u6 u7 u8 u9 u10 u11 u12 u13 u14 u15 w4 w5 w6 ++ t)) (Dv (some (.int o.1)) (wlM g am pm m0 m1 m2 o.2.1 o.2.2.1 m5 m6 m7 m8 m9 m10 m11 m12 m13 M_kind m15 o.2.2.2.1 M_value m18 m19 m20 m21 ++ (wlP g ap u0 u1 u2 u3 o.2.2.2.2.1 u5 u6 u7 u8 u9 u10 u11 u12 u13 u14 u15 o.2.2.2.2.2.1 o.2.2.2.2.2.2.1 o.2.2.2.2.2.2.2 ++ t))))) (ih_1 : (∀ {w0 : Int32} {w1 : Int32} {w2 : Nat → Int32} {w3 : Int32} {w4 : Nat → Int32} {w5 : Nat → Int32} {w6 : Nat → Int32} {o : Int32 × Int32 × Int32 × (Nat → Int32) × Int32 × (Nat → Int32) × (Nat → Int32) × (Nat → Int32)} {t : va_W}, rec 1 0 0 (w0, w1, w2, w3, w4, w5, w6) = some o → Ct g mX11_isBoth (5 + D) 0 0 [.ref (am 0), .ref (ap 0)] (wlM g am pm m0 m1 m2 w0 w1 m5 m6 m7 m8 m9 m10 m11 m12 m13 M_kind m15 w2 M_value m18 m19 m20 m21 ++ (wlP g ap u0 u1 u2 u3 w3 u5 u6 u7 u8 u9 u10 u11 u12 u13 u14 u15 w4 w5 w6 ++ t)) (Dv (some (.int o.1)) (wlM g am pm m0 m1 m2 o.2.1 o.2.2.1 m5 m6 m7 m8 m9 m10 m11 m12 m13 M_kind m15 o.2.2.2.1 M_value m18 m19 m20 m21 ++ (wlP g ap u0 u1 u2 u3 o.2.2.2.2.1 u5 u6 u7 u8 u9 u10 u11 u12 u13 u14 u15 o.2.2.2.2.2.1 o.2.2.2.2.2.2.1 o.2.2.2.2.2.2.2 ++ t))))) (ih_2 : (∀ {w0 : Int32} {w1 : Int32} {w2 : Nat → Int32} {w3 : Int32} {w4 : Nat → Int32} {w5 : Nat → Int32} {w6 : Nat → Int32} {o : Int32 × Int32 × Int32 × (Nat → Int32) × Int32 × (Nat → Int32) × (Nat → Int32) × (Nat → Int32)} {t : va_W}, rec 2 0 0 (w0, w1, w2, w3, w4, w5, w6) = some o → Ct g mX11_isSingle (5 + D) 0 0 [.ref (am 0), .ref (ap 0)] (wlM g am pm m0 m1 m2 w0 w1 m5 m6 m7 m8 m9 m10 m11 m12 m13 M_kind m15 w2 M_value m18 m19 m20 m21 ++ (wlP g ap u0 u1 u2 u3 w3 u5 u6 u7 u8 u9 u10 u11 u12 u13 u14 u15 w4 w5 w6 ++ t)) (Dv (some (.int o.1)) (wlM g am pm m0 m1 m2 o.2.1 o.2.2.1 m5 m6 m7 m8 m9 m10 m11 m12 m13 M_kind m15 o.2.2.2.1 M_value m18 m19 m20 m21 ++ (wlP g ap u0 u1 u2 u3 o.2.2.2.2.1 u5 u6 u7 u8 u9 u10 u11 u12 u13 u14 u15 o.2.2.2.2.2.1 o.2.2.2.2.2.2.1 o.2.2.2.2.2.2.2 ++ t))))) (ih_3 : (∀ {w0 : Int32} {w1 : Int32} {w2 : Nat → Int32} {w3 : Int32} {w4 : Nat → Int32} {w5 : Nat → Int32} {w6 : Nat → Int32} {o : Int32 × Int32 × Int32 × (Nat → Int32) × Int32 × (Nat → Int32) × (Nat → Int32) × (Nat → Int32)} {t : va_W}, rec 3 0 0 (w0, w1, w2, w3, w4, w5, w6) = some o → Ct g mX11_isCompare (5 + D) 0 0 [.ref (am 0), .ref (ap 0)] (wlM g am pm m0 m1 m2 w0 w1 m5 m6 m7 m8 m9 m10 m11 m12 m13 M_kind m15 w2 M_value m18 m19 m20 m21 ++ (wlP g ap u0 u1 u2 u3 w3 u5 u6 u7 u8 u9 u10 u11 u12 u13 u14 u15 w4 w5 w6 ++ t)) (Dv (some (.int o.1)) (wlM g am pm m0 m1 m2 o.2.1 o.2.2.1 m5 m6 m7 m8 m9 m10 m11 m12 m13 M_kind m15 o.2.2.2.1 M_value m18 m19 m20 m21 ++ (wlP g ap u0 u1 u2 u3 o.2.2.2.2.1 u5 u6 u7 u8 u9 u10 u11 u12 u13 u14 u15 o.2.2.2.2.2.1 o.2.2.2.2.2.2.1 o.2.2.2.2.2.2.2 ++ t))))) (ih_4 : (∀ {w0 : Int32} {w1 : Int32} {w2 : Nat → Int32} {w3 : Int32} {w4 : Nat → Int32} {w5 : Nat → Int32} {w6 : Nat → Int32} {o : Int32 × Int32 × Int32 × (Nat → Int32) × Int32 × (Nat → Int32) × (Nat → Int32) × (Nat → Int32)} {t : va_W}, rec 4 0 0 (w0, w1, w2, w3, w4, w5, w6) = some o → Ct g mX11_isSum (5 + D) 0 0 [.ref (am 0), .ref (ap 0)] (wlM g am pm m0 m1 m2 w0 w1 m5 m6 m7 m8 m9 m10 m11 m12 m13 M_kind m15 w2 M_value m18 m19 m20 m21 ++ (wlP g ap u0 u1 u2 u3 w3 u5 u6 u7 u8 u9 u10 u11 u12 u13 u14 u15 w4 w5 w6 ++ t)) (Dv (some (.int o.1)) (wlM g am pm m0 m1 m2 o.2.1 o.2.2.1 m5 m6 m7 m8 m9 m10 m11 m12 m13 M_kind m15 o.2.2.2.1 M_value m18 m19 m20 m21 ++ (wlP g ap u0 u1 u2 u3 o.2.2.2.2.1 u5 u6 u7 u8 u9 u10 u11 u12 u13 u14 u15 o.2.2.2.2.2.1 o.2.2.2.2.2.2.1 o.2.2.2.2.2.2.2 ++ t))))) (ih_5 : (∀ {w0 : Int32} {w1 : Int32} {w2 : Nat → Int32} {w3 : Int32} {w4 : Nat → Int32} {w5 : Nat → Int32} {w6 : Nat → Int32} {o : Int32 × Int32 × Int32 × (Nat → Int32) × Int32 × (Nat → Int32) × (Nat → Int32) × (Nat → Int32)} {t : va_W}, rec 5 0 0 (w0, w1, w2, w3, w4, w5, w6) = some o → Ct g mX11_isProduct (5 + D) 0 0 [.ref (am 0), .ref (ap 0)] (wlM g am pm m0 m1 m2 w0 w1 m5 m6 m7 m8 m9 m10 m11 m12 m13 M_kind m15 w2 M_value m18 m19 m20 m21 ++ (wlP g ap u0 u1 u2 u3 w3 u5 u6 u7 u8 u9 u10 u11 u12 u13 u14 u15 w4 w5 w6 ++ t)) (Dv (some (.int o.1)) (wlM g am pm m0 m1 m2 o.2.1 o.2.2.1 m5 m6 m7 m8 m9 m10 m11 m12 m13 M_kind m15 o.2.2.2.1 M_value m18 m19 m20 m21 ++ (wlP g ap u0 u1 u2 u3 o.2.2.2.2.1 u5 u6 u7 u8 u9 u10 u11 u12 u13 u14 u15 o.2.2.2.2.2.1 o.2.2.2.2.2.2.1 o.2.2.2.2.2.2.2 ++ t))))) (ih_6 : (∀ {w0 : Int32} {w1 : Int32} {w2 : Nat → Int32} {w3 : Int32} {w4 : Nat → Int32} {w5 : Nat → Int32} {w6 : Nat → Int32} {o : Int32 × Int32 × Int32 × (Nat → Int32) × Int32 × (Nat → Int32) × (Nat → Int32) × (Nat → Int32)} {t : va_W}, rec 6 0 0 (w0, w1, w2, w3, w4, w5, w6) = some o → Ct g mX11_isValue (5 + D) 0 0 [.ref (am 0), .ref (ap 0)] (wlM g am pm m0 m1 m2 w0 w1 m5 m6 m7 m8 m9 m10 m11 m12 m13 M_kind m15 w2 M_value m18 m19 m20 m21 ++ (wlP g ap u0 u1 u2 u3 w3 u5 u6 u7 u8 u9 u10 u11 u12 u13 u14 u15 w4 w5 w6 ++ t)) (Dv (some (.int o.1)) (wlM g am pm m0 m1 m2 o.2.1 o.2.2.1 m5 m6 m7 m8 m9 m10 m11 m12 m13 M_kind m15 o.2.2.2.1 M_value m18 m19 m20 m21 ++ (wlP g ap u0 u1 u2 u3 o.2.2.2.2.1 u5 u6 u7 u8 u9 u10 u11 u12 u13 u14 u15 o.2.2.2.2.2.1 o.2.2.2.2.2.2.1 o.2.2.2.2.2.2.2 ++ t))))) (ih_7 : (∀ {w0 : Int32} {w1 : Int32} {w2 : Nat → Int32} {w3 : Int32} {w4 : Nat → Int32} {w5 : Nat → Int32} {w6 : Nat → Int32} {p2 : Int32} {o : Int32 × Int32 × Int32 × (Nat → Int32) × Int32 × (Nat → Int32) × (Nat → Int32) × (Nat → Int32)} {t : va_W}, rec 7 p2 0 (w0, w1, w2, w3, w4, w5, w6) = some o → Ct g mX11_isOfTwo (5 + D) 0 0 [.ref (am 0), .ref (ap 0), .int p2] (wlM g am pm m0 m1 m2 w0 w1 m5 m6 m7 m8 m9 m10 m11 m12 m13 M_kind m15 w2 M_value m18 m19 m20 m21 ++ (wlP g ap u0 u1 u2 u3 w3 u5 u6 u7 u8 u9 u10 u11 u12 u13 u14 u15 w4 w5 w6 ++ t)) (Dv (some (.int o.1)) (wlM g am pm m0 m1 m2 o.2.1 o.2.2.1 m5 m6 m7 m8 m9 m10 m11 m12 m13 M_kind m15 o.2.2.2.1 M_value m18 m19 m20 m21 ++ (wlP g ap u0 u1 u2 u3 o.2.2.2.2.1 u5 u6 u7 u8 u9 u10 u11 u12 u13 u14 u15 o.2.2.2.2.2.1 o.2.2.2.2.2.2.1 o.2.2.2.2.2.2.2 ++ t))))) {o : Int32 × Int32 × Int32 × (Nat → Int32) × Int32 × (Nat → Int32) × (Nat → Int32) × (Nat → Int32)} {Q : Rs → va_W → Prop} (h : f_M_isSingle N rec M_token M_depth M_kind M_means M_value P_many P_order P_with P_also = some o) (hq : Q (.inl (some (.int o.1))) (wlM g am pm m0 m1 m2 o.2.1 o.2.2.1 m5 m6 m7 m8 m9 m10 m11 m12 m13 M_kind m15 o.2.2.2.1 M_value m18 m19 m20 m21 ++ (wlP g ap u0 u1 u2 u3 o.2.2.2.2.1 u5 u6 u7 u8 u9 u10 u11 u12 u13 u14 u15 o.2.2.2.2.2.1 o.2.2.2.2.2.2.1 o.2.2.2.2.2.2.2 ++ t))) : R g mX11_isSingle (5 + (D + 1)) 0 0 0 [(0, .ref (am 0)), (1, .ref (ap 0))] [] (wlM g am pm m0 m1 m2 M_token M_depth m5 m6 m7 m8 m9 m10 m11 m12 m13 M_kind m15 M_means M_value m18 m19 m20 m21 ++ (wlP g ap u0 u1 u2 u3 P_many u5 u6 u7 u8 u9 u10 u11 u12 u13 u14 u15 P_order P_with P_also ++ t)) Q := by
  unfold f_M_isSingle at h
  refine r_aload_n 0 dX11_isSingle_0 rfl ?_
  refine r_getf (v := .ref (am 2)) _ dX11_isSingle_1 fl_X11_24 lM_0 rfl ?_
  refine r_aload_n 0 dX11_isSingle_4 rfl ?_
  refine r_getf (v := .int M_token) _ dX11_isSingle_5 fl_X11_252 lM_0 rfl ?_
  obtain ⟨hb1388, h⟩ := gd (fun z9 => z9) rfl h
  refine r_iald _ dX11_isSingle_8 lM_2 hb1388 ?_
  refine r_istore_n [(2, .int (M_kind M_token.toNatClampNeg)), (0, .ref (am 0)), (1, .ref (ap 0))] dX11_isSingle_9 (by decide) rfl ?_
  refine r_iload_n 0 dX11_isSingle_10 rfl ?_
  refine r_bipush (v := (20 : Int32)) dX11_isSingle_11 (by decide) ?_
  refine r_icmp_ne (tgt := 55) dX11_isSingle_13 (by decide) (fun hc1389 => ?_) (fun hc1389 => ?_)
  · have h := iq (fun z9 => z9) hc1389 h
    refine r_iload_n 0 dX11_isSingle_55 rfl ?_
    refine r_bipush (v := (91 : Int32)) dX11_isSingle_56 (by decide) ?_
    refine r_icmp_ne (tgt := 93) dX11_isSingle_58 (by decide) (fun hc1390 => ?_) (fun hc1390 => ?_)
    · have h := iq (fun z9 => z9) hc1390 h
      refine r_iload_n 0 dX11_isSingle_93 rfl ?_
      refine r_bipush (v := (17 : Int32)) dX11_isSingle_94 (by decide) ?_
      refine r_icmp_ne (tgt := 109) dX11_isSingle_96 (by decide) (fun hc1391 => ?_) (fun hc1391 => ?_)
      · have h := iq (fun z9 => z9) hc1391 h
        refine r_iload_n 0 dX11_isSingle_109 rfl ?_
        refine r_bipush (v := (18 : Int32)) dX11_isSingle_110 (by decide) ?_
        refine r_icmp_eq (tgt := 121) dX11_isSingle_112 (by decide) (fun hc1392 => ?_) (fun hc1392 => ?_)
        · have h := ip (fun z9 => z9) hc1392 h
          refine r_aload_n 1 dX11_isSingle_121 rfl ?_
          refine r_aload_n 2 dX11_isSingle_122 rfl ?_
          refine r_iload_n 0 dX11_isSingle_123 rfl ?_
          refine r_bipush (v := (12 : Int32)) dX11_isSingle_124 (by decide) ?_
          refine r_iconst (v := (0 : Int32)) dX11_isSingle_126 (by decide) ?_
          obtain ⟨r1393, hc1394, h⟩ := ob (fun z9 => z9) rfl h
          refine c_V (rest := []) 0 0 _ dX11_isSingle_127 kv_X11_287 (ct_M_isAbout hc1394) rfl rfl lM_0 rfl (Nat.le_of_ble_eq_true rfl) (dl (by decide)) (by decide) ?_
          obtain ⟨hb1395, h⟩ := gd (fun z9 => z9) rfl h
          refine r_zret dX11_isSingle_130 rfl (zB_n hb1395) ?_
          have h := Option.some.inj (show some _ = some o from h)
          subst h
          exact hq
        · have h := iq (fun z9 => z9) hc1392 h
          refine r_iload_n 0 dX11_isSingle_115 rfl ?_
          refine r_bipush (v := (13 : Int32)) dX11_isSingle_116 (by decide) ?_
          refine r_icmp_ne (tgt := 131) dX11_isSingle_118 (by decide) (fun hc1396 => ?_) (fun hc1396 => ?_)
          · have h := iq (fun z9 => z9) hc1396 h
            refine r_iload_n 0 dX11_isSingle_131 rfl ?_
            refine r_bipush (v := (19 : Int32)) dX11_isSingle_132 (by decide) ?_
            refine r_icmp_ne (tgt := 149) dX11_isSingle_134 (by decide) (fun hc1397 => ?_) (fun hc1397 => ?_)
            · have h := iq (fun z9 => z9) hc1397 h
              refine r_aload_n 1 dX11_isSingle_149 rfl ?_
              refine r_aload_n 2 dX11_isSingle_150 rfl ?_
              obtain ⟨r1398, hc1399, h⟩ := ob (fun z9 => z9) rfl h
              refine c_V (rest := []) 0 0 _ dX11_isSingle_151 kv_X11_291 (ih_3 hc1399) rfl rfl lM_0 rfl (Nat.le_of_ble_eq_true rfl) (Nat.le_refl _) (by decide) ?_
              obtain ⟨hb1400, h⟩ := gd (fun z9 => z9) rfl h
              refine r_zret dX11_isSingle_154 rfl (zB_n hb1400) ?_
              have h := Option.some.inj (show some _ = some o from h)
              subst h
              exact hq
            · have h := ip (fun z9 => z9) hc1397 h
              refine r_aload_n 1 dX11_isSingle_137 rfl ?_
              refine r_aload_n 2 dX11_isSingle_138 rfl ?_
              refine r_iload_n 0 dX11_isSingle_139 rfl ?_
              refine r_bipush (v := (11 : Int32)) dX11_isSingle_140 (by decide) ?_
              refine r_iconst (v := (0 : Int32)) dX11_isSingle_142 (by decide) ?_
              obtain ⟨r1401, hc1402, h⟩ := ob (fun z9 => z9) rfl h
              refine c_V (rest := []) 0 0 _ dX11_isSingle_143 kv_X11_287 (ct_M_isAbout hc1402) rfl rfl lM_0 rfl (Nat.le_of_ble_eq_true rfl) (dl (by decide)) (by decide) ?_
              refine r_goto (tgt := 154) dX11_isSingle_146 (by decide) ?_
              obtain ⟨hb1403, h⟩ := gd (fun z9 => z9) rfl h
              refine r_zret dX11_isSingle_154 rfl (zB_n hb1403) ?_
              have h := Option.some.inj (show some _ = some o from h)
              subst h
              exact hq
          · have h := ip (fun z9 => z9) hc1396 h
            refine r_aload_n 1 dX11_isSingle_121 rfl ?_
            refine r_aload_n 2 dX11_isSingle_122 rfl ?_
            refine r_iload_n 0 dX11_isSingle_123 rfl ?_
            refine r_bipush (v := (12 : Int32)) dX11_isSingle_124 (by decide) ?_
            refine r_iconst (v := (0 : Int32)) dX11_isSingle_126 (by decide) ?_
            obtain ⟨r1404, hc1405, h⟩ := ob (fun z9 => z9) rfl h
            refine c_V (rest := []) 0 0 _ dX11_isSingle_127 kv_X11_287 (ct_M_isAbout hc1405) rfl rfl lM_0 rfl (Nat.le_of_ble_eq_true rfl) (dl (by decide)) (by decide) ?_
            obtain ⟨hb1406, h⟩ := gd (fun z9 => z9) rfl h
            refine r_zret dX11_isSingle_130 rfl (zB_n hb1406) ?_
            have h := Option.some.inj (show some _ = some o from h)
            subst h
            exact hq
      · have h := ip (fun z9 => z9) hc1391 h
        refine r_aload_n 1 dX11_isSingle_99 rfl ?_
        refine r_aload_n 2 dX11_isSingle_100 rfl ?_
        refine r_iload_n 0 dX11_isSingle_101 rfl ?_
        refine r_bipush (v := (12 : Int32)) dX11_isSingle_102 (by decide) ?_
        refine r_iconst (v := (1 : Int32)) dX11_isSingle_104 (by decide) ?_
        obtain ⟨r1407, hc1408, h⟩ := ob (fun z9 => z9) rfl h
        refine c_V (rest := []) 0 0 _ dX11_isSingle_105 kv_X11_287 (ct_M_isAbout hc1408) rfl rfl lM_0 rfl (Nat.le_of_ble_eq_true rfl) (dl (by decide)) (by decide) ?_
        obtain ⟨hb1409, h⟩ := gd (fun z9 => z9) rfl h
        refine r_zret dX11_isSingle_108 rfl (zB_n hb1409) ?_
        have h := Option.some.inj (show some _ = some o from h)
        subst h
        exact hq
    · have h := ip (fun z9 => z9) hc1390 h
      refine r_aload_n 1 dX11_isSingle_61 rfl ?_
      refine r_bipush (v := (91 : Int32)) dX11_isSingle_62 (by decide) ?_
      obtain ⟨r1410, hc1411, h⟩ := ob (fun z9 => z9) rfl h
      refine c_V (rest := []) 0 0 _ dX11_isSingle_64 kv_X11_278 (ct_M_deeper hc1411) rfl rfl lM_0 rfl (Nat.le_of_ble_eq_true rfl) (dl (by decide)) (by decide) ?_
      refine r_if_eq (tgt := 91) dX11_isSingle_67 (by decide) (fun hc1412 => ?_) (fun hc1412 => ?_)
      · have h := ip (fun z9 => z9) hc1412 h
        refine r_iconst (v := (0 : Int32)) dX11_isSingle_91 (by decide) ?_
        refine r_zret dX11_isSingle_92 rfl (by decide) ?_
        have h := Option.some.inj (show some _ = some o from h)
        subst h
        exact hq
      · have h := iq (fun z9 => z9) hc1412 h
        refine r_aload_n 1 dX11_isSingle_70 rfl ?_
        refine r_aload_n 2 dX11_isSingle_71 rfl ?_
        obtain ⟨r1413, hc1414, h⟩ := ob (fun z9 => z9) rfl h
        refine c_V (rest := []) 0 0 _ dX11_isSingle_72 kv_X11_281 (ih_0 hc1414) rfl rfl lM_0 rfl (Nat.le_of_ble_eq_true rfl) (Nat.le_refl _) (by decide) ?_
        refine r_if_eq (tgt := 91) dX11_isSingle_75 (by decide) (fun hc1415 => ?_) (fun hc1415 => ?_)
        · have h := ip (fun z9 => z9) hc1415 h
          refine r_iconst (v := (0 : Int32)) dX11_isSingle_91 (by decide) ?_
          refine r_zret dX11_isSingle_92 rfl (by decide) ?_
          have h := Option.some.inj (show some _ = some o from h)
          subst h
          exact hq
        · have h := iq (fun z9 => z9) hc1415 h
          refine r_aload_n 1 dX11_isSingle_78 rfl ?_
          refine r_bipush (v := (93 : Int32)) dX11_isSingle_79 (by decide) ?_
          obtain ⟨r1416, hc1417, h⟩ := ob (fun z9 => z9) rfl h
          refine c_V (rest := []) 0 0 _ dX11_isSingle_81 kv_X11_284 (ct_M_closes hc1417) rfl rfl lM_0 rfl (Nat.le_of_ble_eq_true rfl) (dl (by decide)) (by decide) ?_
          refine r_if_eq (tgt := 91) dX11_isSingle_84 (by decide) (fun hc1418 => ?_) (fun hc1418 => ?_)
          · have h := ip (fun z9 => z9) hc1418 h
            refine r_iconst (v := (0 : Int32)) dX11_isSingle_91 (by decide) ?_
            refine r_zret dX11_isSingle_92 rfl (by decide) ?_
            have h := Option.some.inj (show some _ = some o from h)
            subst h
            exact hq
          · have h := iq (fun z9 => z9) hc1418 h
            refine r_iconst (v := (1 : Int32)) dX11_isSingle_87 (by decide) ?_
            refine r_goto (tgt := 92) dX11_isSingle_88 (by decide) ?_
            refine r_zret dX11_isSingle_92 rfl (by decide) ?_
            have h := Option.some.inj (show some _ = some o from h)
            subst h
            exact hq
  · have h := ip (fun z9 => z9) hc1389 h
    refine r_aload_n 1 dX11_isSingle_16 rfl ?_
    refine r_bipush (v := (20 : Int32)) dX11_isSingle_17 (by decide) ?_
    obtain ⟨r1419, hc1420, h⟩ := ob (fun z9 => z9) rfl h
    refine c_V (rest := []) 0 0 _ dX11_isSingle_19 kv_X11_278 (ct_M_deeper hc1420) rfl rfl lM_0 rfl (Nat.le_of_ble_eq_true rfl) (dl (by decide)) (by decide) ?_
    refine r_if_eq (tgt := 33) dX11_isSingle_22 (by decide) (fun hc1421 => ?_) (fun hc1421 => ?_)
    · have h := ip (fun z9 => z9) hc1421 h
      refine r_iconst (v := (0 : Int32)) dX11_isSingle_33 (by decide) ?_
      refine r_zret dX11_isSingle_34 rfl (by decide) ?_
      have h := Option.some.inj (show some _ = some o from h)
      subst h
      exact hq
    · have h := iq (fun z9 => z9) hc1421 h
      refine r_aload_n 1 dX11_isSingle_25 rfl ?_
      refine r_aload_n 2 dX11_isSingle_26 rfl ?_
      obtain ⟨r1422, hc1423, h⟩ := ob (fun z9 => z9) rfl h
      refine c_V (rest := []) 0 0 _ dX11_isSingle_27 kv_X11_275 (ih_2 hc1423) rfl rfl lM_0 rfl (Nat.le_of_ble_eq_true rfl) (Nat.le_refl _) (by decide) ?_
      refine r_if_ne (tgt := 35) dX11_isSingle_30 (by decide) (fun hc1424 => ?_) (fun hc1424 => ?_)
      · have h := iq (fun z9 => z9) hc1424 h
        refine r_aload_n 1 dX11_isSingle_35 rfl ?_
        refine r_dup dX11_isSingle_36 rfl ?_
        refine r_getf (v := .int r1422.2.2.1) _ dX11_isSingle_37 fl_X11_258 lM_0 rfl ?_
        refine r_iconst (v := (1 : Int32)) dX11_isSingle_40 (by decide) ?_
        refine r_isub dX11_isSingle_41 ?_
        refine r_putf _ dX11_isSingle_42 fl_X11_258 lM_0 (Nat.le_of_ble_eq_true rfl) rfl rfl (sM_4 _) ?_
        refine r_aload_n 1 dX11_isSingle_45 rfl ?_
        refine r_aload_n 2 dX11_isSingle_46 rfl ?_
        refine r_bipush (v := (20 : Int32)) dX11_isSingle_47 (by decide) ?_
        refine r_iconst (v := (0 : Int32)) dX11_isSingle_49 (by decide) ?_
        obtain ⟨r1425, hc1426, h⟩ := ob (fun z9 => z9) rfl h
        refine c_Vv (rest := []) 0 0 _ dX11_isSingle_50 kv_X11_267 (ct_M_put hc1426) rfl rfl lM_0 rfl (Nat.le_of_ble_eq_true rfl) (dl (by decide)) (by decide) ?_
        refine r_iconst (v := (1 : Int32)) dX11_isSingle_53 (by decide) ?_
        refine r_zret dX11_isSingle_54 rfl (by decide) ?_
        have h := Option.some.inj (show some _ = some o from h)
        subst h
        exact hq
      · have h := ip (fun z9 => z9) hc1424 h
        refine r_iconst (v := (0 : Int32)) dX11_isSingle_33 (by decide) ?_
        refine r_zret dX11_isSingle_34 rfl (by decide) ?_
        have h := Option.some.inj (show some _ = some o from h)
        subst h
        exact hq
set_option maxRecDepth 20000 in
set_option maxHeartbeats 4000000 in
theorem rt_M_isCompare {g : GG} {am : Nat → Nat} {ap : Nat → Nat} {pm : Nat} {t : va_W} {m0 m1 m2 m5 m6 m7 m8 m9 m10 m11 m12 u0 u1 u2 u3 : Int32} {m13 m15 m18 m19 m20 m21 u7 u8 u9 u10 u11 u12 u13 u14 u15 : Nat → Int32} {u5 u6 : Nat → Int64} {N : Nat} {M_token : Int32} {M_depth : Int32} {M_kind : Nat → Int32} {M_means : Nat → Int32} {M_value : Nat → Int64} {P_many : Int32} {P_order : Nat → Int32} {P_with : Nat → Int32} {P_also : Nat → Int32} {D : Nat} {rec : Nat → Int32 → Int32 → (Int32 × Int32 × (Nat → Int32) × Int32 × (Nat → Int32) × (Nat → Int32) × (Nat → Int32)) → Option (Int32 × Int32 × Int32 × (Nat → Int32) × Int32 × (Nat → Int32) × (Nat → Int32) × (Nat → Int32))} (ih_0 : (∀ {w0 : Int32} {w1 : Int32} {w2 : Nat → Int32} {w3 : Int32} {w4 : Nat → Int32} {w5 : Nat → Int32} {w6 : Nat → Int32} {o : Int32 × Int32 × Int32 × (Nat → Int32) × Int32 × (Nat → Int32) × (Nat → Int32) × (Nat → Int32)} {t : va_W}, rec 0 0 0 (w0, w1, w2, w3, w4, w5, w6) = some o → Ct g mX11_isTest (5 + D) 0 0 [.ref (am 0), .ref (ap 0)] (wlM g am pm m0 m1 m2 w0 w1 m5 m6 m7 m8 m9 m10 m11 m12 m13 M_kind m15 w2 M_value m18 m19 m20 m21 ++ (wlP g ap u0 u1 u2 u3 w3 u5 u6 u7 u8 u9 u10 u11 u12 u13 u14 u15 w4 w5 w6 ++ t)) (Dv (some (.int o.1)) (wlM g am pm m0 m1 m2 o.2.1 o.2.2.1 m5 m6 m7 m8 m9 m10 m11 m12 m13 M_kind m15 o.2.2.2.1 M_value m18 m19 m20 m21 ++ (wlP g ap u0 u1 u2 u3 o.2.2.2.2.1 u5 u6 u7 u8 u9 u10 u11 u12 u13 u14 u15 o.2.2.2.2.2.1 o.2.2.2.2.2.2.1 o.2.2.2.2.2.2.2 ++ t))))) (ih_1 : (∀ {w0 : Int32} {w1 : Int32} {w2 : Nat → Int32} {w3 : Int32} {w4 : Nat → Int32} {w5 : Nat → Int32} {w6 : Nat → Int32} {o : Int32 × Int32 × Int32 × (Nat → Int32) × Int32 × (Nat → Int32) × (Nat → Int32) × (Nat → Int32)} {t : va_W}, rec 1 0 0 (w0, w1, w2, w3, w4, w5, w6) = some o → Ct g mX11_isBoth (5 + D) 0 0 [.ref (am 0), .ref (ap 0)] (wlM g am pm m0 m1 m2 w0 w1 m5 m6 m7 m8 m9 m10 m11 m12 m13 M_kind m15 w2 M_value m18 m19 m20 m21 ++ (wlP g ap u0 u1 u2 u3 w3 u5 u6 u7 u8 u9 u10 u11 u12 u13 u14 u15 w4 w5 w6 ++ t)) (Dv (some (.int o.1)) (wlM g am pm m0 m1 m2 o.2.1 o.2.2.1 m5 m6 m7 m8 m9 m10 m11 m12 m13 M_kind m15 o.2.2.2.1 M_value m18 m19 m20 m21 ++ (wlP g ap u0 u1 u2 u3 o.2.2.2.2.1 u5 u6 u7 u8 u9 u10 u11 u12 u13 u14 u15 o.2.2.2.2.2.1 o.2.2.2.2.2.2.1 o.2.2.2.2.2.2.2 ++ t))))) (ih_2 : (∀ {w0 : Int32} {w1 : Int32} {w2 : Nat → Int32} {w3 : Int32} {w4 : Nat → Int32} {w5 : Nat → Int32} {w6 : Nat → Int32} {o : Int32 × Int32 × Int32 × (Nat → Int32) × Int32 × (Nat → Int32) × (Nat → Int32) × (Nat → Int32)} {t : va_W}, rec 2 0 0 (w0, w1, w2, w3, w4, w5, w6) = some o → Ct g mX11_isSingle (5 + D) 0 0 [.ref (am 0), .ref (ap 0)] (wlM g am pm m0 m1 m2 w0 w1 m5 m6 m7 m8 m9 m10 m11 m12 m13 M_kind m15 w2 M_value m18 m19 m20 m21 ++ (wlP g ap u0 u1 u2 u3 w3 u5 u6 u7 u8 u9 u10 u11 u12 u13 u14 u15 w4 w5 w6 ++ t)) (Dv (some (.int o.1)) (wlM g am pm m0 m1 m2 o.2.1 o.2.2.1 m5 m6 m7 m8 m9 m10 m11 m12 m13 M_kind m15 o.2.2.2.1 M_value m18 m19 m20 m21 ++ (wlP g ap u0 u1 u2 u3 o.2.2.2.2.1 u5 u6 u7 u8 u9 u10 u11 u12 u13 u14 u15 o.2.2.2.2.2.1 o.2.2.2.2.2.2.1 o.2.2.2.2.2.2.2 ++ t))))) (ih_3 : (∀ {w0 : Int32} {w1 : Int32} {w2 : Nat → Int32} {w3 : Int32} {w4 : Nat → Int32} {w5 : Nat → Int32} {w6 : Nat → Int32} {o : Int32 × Int32 × Int32 × (Nat → Int32) × Int32 × (Nat → Int32) × (Nat → Int32) × (Nat → Int32)} {t : va_W}, rec 3 0 0 (w0, w1, w2, w3, w4, w5, w6) = some o → Ct g mX11_isCompare (5 + D) 0 0 [.ref (am 0), .ref (ap 0)] (wlM g am pm m0 m1 m2 w0 w1 m5 m6 m7 m8 m9 m10 m11 m12 m13 M_kind m15 w2 M_value m18 m19 m20 m21 ++ (wlP g ap u0 u1 u2 u3 w3 u5 u6 u7 u8 u9 u10 u11 u12 u13 u14 u15 w4 w5 w6 ++ t)) (Dv (some (.int o.1)) (wlM g am pm m0 m1 m2 o.2.1 o.2.2.1 m5 m6 m7 m8 m9 m10 m11 m12 m13 M_kind m15 o.2.2.2.1 M_value m18 m19 m20 m21 ++ (wlP g ap u0 u1 u2 u3 o.2.2.2.2.1 u5 u6 u7 u8 u9 u10 u11 u12 u13 u14 u15 o.2.2.2.2.2.1 o.2.2.2.2.2.2.1 o.2.2.2.2.2.2.2 ++ t))))) (ih_4 : (∀ {w0 : Int32} {w1 : Int32} {w2 : Nat → Int32} {w3 : Int32} {w4 : Nat → Int32} {w5 : Nat → Int32} {w6 : Nat → Int32} {o : Int32 × Int32 × Int32 × (Nat → Int32) × Int32 × (Nat → Int32) × (Nat → Int32) × (Nat → Int32)} {t : va_W}, rec 4 0 0 (w0, w1, w2, w3, w4, w5, w6) = some o → Ct g mX11_isSum (5 + D) 0 0 [.ref (am 0), .ref (ap 0)] (wlM g am pm m0 m1 m2 w0 w1 m5 m6 m7 m8 m9 m10 m11 m12 m13 M_kind m15 w2 M_value m18 m19 m20 m21 ++ (wlP g ap u0 u1 u2 u3 w3 u5 u6 u7 u8 u9 u10 u11 u12 u13 u14 u15 w4 w5 w6 ++ t)) (Dv (some (.int o.1)) (wlM g am pm m0 m1 m2 o.2.1 o.2.2.1 m5 m6 m7 m8 m9 m10 m11 m12 m13 M_kind m15 o.2.2.2.1 M_value m18 m19 m20 m21 ++ (wlP g ap u0 u1 u2 u3 o.2.2.2.2.1 u5 u6 u7 u8 u9 u10 u11 u12 u13 u14 u15 o.2.2.2.2.2.1 o.2.2.2.2.2.2.1 o.2.2.2.2.2.2.2 ++ t))))) (ih_5 : (∀ {w0 : Int32} {w1 : Int32} {w2 : Nat → Int32} {w3 : Int32} {w4 : Nat → Int32} {w5 : Nat → Int32} {w6 : Nat → Int32} {o : Int32 × Int32 × Int32 × (Nat → Int32) × Int32 × (Nat → Int32) × (Nat → Int32) × (Nat → Int32)} {t : va_W}, rec 5 0 0 (w0, w1, w2, w3, w4, w5, w6) = some o → Ct g mX11_isProduct (5 + D) 0 0 [.ref (am 0), .ref (ap 0)] (wlM g am pm m0 m1 m2 w0 w1 m5 m6 m7 m8 m9 m10 m11 m12 m13 M_kind m15 w2 M_value m18 m19 m20 m21 ++ (wlP g ap u0 u1 u2 u3 w3 u5 u6 u7 u8 u9 u10 u11 u12 u13 u14 u15 w4 w5 w6 ++ t)) (Dv (some (.int o.1)) (wlM g am pm m0 m1 m2 o.2.1 o.2.2.1 m5 m6 m7 m8 m9 m10 m11 m12 m13 M_kind m15 o.2.2.2.1 M_value m18 m19 m20 m21 ++ (wlP g ap u0 u1 u2 u3 o.2.2.2.2.1 u5 u6 u7 u8 u9 u10 u11 u12 u13 u14 u15 o.2.2.2.2.2.1 o.2.2.2.2.2.2.1 o.2.2.2.2.2.2.2 ++ t))))) (ih_6 : (∀ {w0 : Int32} {w1 : Int32} {w2 : Nat → Int32} {w3 : Int32} {w4 : Nat → Int32} {w5 : Nat → Int32} {w6 : Nat → Int32} {o : Int32 × Int32 × Int32 × (Nat → Int32) × Int32 × (Nat → Int32) × (Nat → Int32) × (Nat → Int32)} {t : va_W}, rec 6 0 0 (w0, w1, w2, w3, w4, w5, w6) = some o → Ct g mX11_isValue (5 + D) 0 0 [.ref (am 0), .ref (ap 0)] (wlM g am pm m0 m1 m2 w0 w1 m5 m6 m7 m8 m9 m10 m11 m12 m13 M_kind m15 w2 M_value m18 m19 m20 m21 ++ (wlP g ap u0 u1 u2 u3 w3 u5 u6 u7 u8 u9 u10 u11 u12 u13 u14 u15 w4 w5 w6 ++ t)) (Dv (some (.int o.1)) (wlM g am pm m0 m1 m2 o.2.1 o.2.2.1 m5 m6 m7 m8 m9 m10 m11 m12 m13 M_kind m15 o.2.2.2.1 M_value m18 m19 m20 m21 ++ (wlP g ap u0 u1 u2 u3 o.2.2.2.2.1 u5 u6 u7 u8 u9 u10 u11 u12 u13 u14 u15 o.2.2.2.2.2.1 o.2.2.2.2.2.2.1 o.2.2.2.2.2.2.2 ++ t))))) (ih_7 : (∀ {w0 : Int32} {w1 : Int32} {w2 : Nat → Int32} {w3 : Int32} {w4 : Nat → Int32} {w5 : Nat → Int32} {w6 : Nat → Int32} {p2 : Int32} {o : Int32 × Int32 × Int32 × (Nat → Int32) × Int32 × (Nat → Int32) × (Nat → Int32) × (Nat → Int32)} {t : va_W}, rec 7 p2 0 (w0, w1, w2, w3, w4, w5, w6) = some o → Ct g mX11_isOfTwo (5 + D) 0 0 [.ref (am 0), .ref (ap 0), .int p2] (wlM g am pm m0 m1 m2 w0 w1 m5 m6 m7 m8 m9 m10 m11 m12 m13 M_kind m15 w2 M_value m18 m19 m20 m21 ++ (wlP g ap u0 u1 u2 u3 w3 u5 u6 u7 u8 u9 u10 u11 u12 u13 u14 u15 w4 w5 w6 ++ t)) (Dv (some (.int o.1)) (wlM g am pm m0 m1 m2 o.2.1 o.2.2.1 m5 m6 m7 m8 m9 m10 m11 m12 m13 M_kind m15 o.2.2.2.1 M_value m18 m19 m20 m21 ++ (wlP g ap u0 u1 u2 u3 o.2.2.2.2.1 u5 u6 u7 u8 u9 u10 u11 u12 u13 u14 u15 o.2.2.2.2.2.1 o.2.2.2.2.2.2.1 o.2.2.2.2.2.2.2 ++ t))))) {o : Int32 × Int32 × Int32 × (Nat → Int32) × Int32 × (Nat → Int32) × (Nat → Int32) × (Nat → Int32)} {Q : Rs → va_W → Prop} (h : f_M_isCompare N rec M_token M_depth M_kind M_means M_value P_many P_order P_with P_also = some o) (hq : Q (.inl (some (.int o.1))) (wlM g am pm m0 m1 m2 o.2.1 o.2.2.1 m5 m6 m7 m8 m9 m10 m11 m12 m13 M_kind m15 o.2.2.2.1 M_value m18 m19 m20 m21 ++ (wlP g ap u0 u1 u2 u3 o.2.2.2.2.1 u5 u6 u7 u8 u9 u10 u11 u12 u13 u14 u15 o.2.2.2.2.2.1 o.2.2.2.2.2.2.1 o.2.2.2.2.2.2.2 ++ t))) : R g mX11_isCompare (5 + (D + 1)) 0 0 0 [(0, .ref (am 0)), (1, .ref (ap 0))] [] (wlM g am pm m0 m1 m2 M_token M_depth m5 m6 m7 m8 m9 m10 m11 m12 m13 M_kind m15 M_means M_value m18 m19 m20 m21 ++ (wlP g ap u0 u1 u2 u3 P_many u5 u6 u7 u8 u9 u10 u11 u12 u13 u14 u15 P_order P_with P_also ++ t)) Q := by
  unfold f_M_isCompare at h
  refine r_aload_n 0 dX11_isCompare_0 rfl ?_
  refine r_aload_n 1 dX11_isCompare_1 rfl ?_
  obtain ⟨r1427, hc1428, h⟩ := ob (fun z9 => z9) rfl h
  refine c_V (rest := []) 0 0 _ dX11_isCompare_2 kv_X11_294 (ih_4 hc1428) rfl rfl lM_0 rfl (Nat.le_of_ble_eq_true rfl) (Nat.le_refl _) (by decide) ?_
  refine r_if_ne (tgt := 10) dX11_isCompare_5 (by decide) (fun hc1429 => ?_) (fun hc1429 => ?_)
  · have h := iq (fun z9 => z9) hc1429 h
    refine r_aload_n 0 dX11_isCompare_10 rfl ?_
    refine r_getf (v := .ref (am 2)) _ dX11_isCompare_11 fl_X11_24 lM_0 rfl ?_
    refine r_aload_n 0 dX11_isCompare_14 rfl ?_
    refine r_getf (v := .int r1427.2.1) _ dX11_isCompare_15 fl_X11_252 lM_0 rfl ?_
    obtain ⟨hb1430, h⟩ := gd (fun z9 => z9) rfl h
    refine r_iald _ dX11_isCompare_18 lM_2 hb1430 ?_
    refine r_istore_n [(2, .int (M_kind r1427.2.1.toNatClampNeg)), (0, .ref (am 0)), (1, .ref (ap 0))] dX11_isCompare_19 (by decide) rfl ?_
    refine r_iload_n 0 dX11_isCompare_20 rfl ?_
    refine r_bipush (v := (60 : Int32)) dX11_isCompare_21 (by decide) ?_
    refine r_icmp_ne (tgt := 31) dX11_isCompare_23 (by decide) (fun hc1431 => ?_) (fun hc1431 => ?_)
    · have h := iq (fun z9 => z9) hc1431 h
      refine r_iload_n 0 dX11_isCompare_31 rfl ?_
      refine r_bipush (v := (62 : Int32)) dX11_isCompare_32 (by decide) ?_
      refine r_icmp_ne (tgt := 42) dX11_isCompare_34 (by decide) (fun hc1432 => ?_) (fun hc1432 => ?_)
      · have h := iq (fun z9 => z9) hc1432 h
        refine r_iload_n 0 dX11_isCompare_42 rfl ?_
        refine r_bipush (v := (61 : Int32)) dX11_isCompare_43 (by decide) ?_
        refine r_icmp_ne (tgt := 53) dX11_isCompare_45 (by decide) (fun hc1433 => ?_) (fun hc1433 => ?_)
        · have h := iq (fun z9 => z9) hc1433 h
          refine r_iload_n 0 dX11_isCompare_53 rfl ?_
          refine r_sipush (v := (316 : Int32)) dX11_isCompare_54 (by decide) ?_
          refine r_icmp_ne (tgt := 65) dX11_isCompare_57 (by decide) (fun hc1434 => ?_) (fun hc1434 => ?_)
          · have h := iq (fun z9 => z9) hc1434 h
            refine r_iload_n 0 dX11_isCompare_65 rfl ?_
            refine r_sipush (v := (318 : Int32)) dX11_isCompare_66 (by decide) ?_
            refine r_icmp_ne (tgt := 77) dX11_isCompare_69 (by decide) (fun hc1435 => ?_) (fun hc1435 => ?_)
            · have h := iq (fun z9 => z9) hc1435 h
              refine r_iconst (v := (-1 : Int32)) dX11_isCompare_77 (by decide) ?_
              refine r_istore_n [(3, .int (-1 : Int32)), (2, .int (M_kind r1427.2.1.toNatClampNeg)), (0, .ref (am 0)), (1, .ref (ap 0))] dX11_isCompare_78 (by decide) rfl ?_
              refine r_iload_n 0 dX11_isCompare_79 rfl ?_
              refine r_iconst (v := (-1 : Int32)) dX11_isCompare_80 (by decide) ?_
              refine r_icmp_ne (tgt := 86) dX11_isCompare_81 (by decide) (fun hc => absurd hc (by decide)) (fun _ => ?_)
              refine r_iconst (v := (0 : Int32)) dX11_isCompare_84 (by decide) ?_
              refine r_zret dX11_isCompare_85 rfl (by decide) ?_
              have h := Option.some.inj (show some _ = some o from h)
              subst h
              exact hq
            · have h := ip (fun z9 => z9) hc1435 h
              refine r_bipush (v := (110 : Int32)) dX11_isCompare_72 (by decide) ?_
              refine r_goto (tgt := 78) dX11_isCompare_74 (by decide) ?_
              refine r_istore_n [(3, .int (110 : Int32)), (2, .int (M_kind r1427.2.1.toNatClampNeg)), (0, .ref (am 0)), (1, .ref (ap 0))] dX11_isCompare_78 (by decide) rfl ?_
              refine r_iload_n 0 dX11_isCompare_79 rfl ?_
              refine r_iconst (v := (-1 : Int32)) dX11_isCompare_80 (by decide) ?_
              refine r_icmp_ne (tgt := 86) dX11_isCompare_81 (by decide) (fun _ => ?_) (fun hc => absurd hc (by decide))
              refine r_aload_n 2 dX11_isCompare_86 rfl ?_
              refine r_dup dX11_isCompare_87 rfl ?_
              refine r_getf (v := .int r1427.2.1) _ dX11_isCompare_88 fl_X11_252 lM_0 rfl ?_
              refine r_iconst (v := (1 : Int32)) dX11_isCompare_91 (by decide) ?_
              refine r_iadd dX11_isCompare_92 ?_
              refine r_putf _ dX11_isCompare_93 fl_X11_252 lM_0 (Nat.le_of_ble_eq_true rfl) rfl rfl (sM_3 _) ?_
              refine r_aload_n 2 dX11_isCompare_96 rfl ?_
              refine r_aload_n 3 dX11_isCompare_97 rfl ?_
              obtain ⟨r1436, hc1437, h⟩ := ob (fun z9 => z9) rfl h
              refine c_V (rest := []) 0 0 _ dX11_isCompare_98 kv_X11_294 (ih_4 hc1437) rfl rfl lM_0 rfl (Nat.le_of_ble_eq_true rfl) (Nat.le_refl _) (by decide) ?_
              refine r_if_ne (tgt := 106) dX11_isCompare_101 (by decide) (fun hc1438 => ?_) (fun hc1438 => ?_)
              · have h := iq (fun z9 => z9) hc1438 h
                refine r_aload_n 2 dX11_isCompare_106 rfl ?_
                refine r_aload_n 3 dX11_isCompare_107 rfl ?_
                refine r_iload_n 0 dX11_isCompare_108 rfl ?_
                refine r_iconst (v := (0 : Int32)) dX11_isCompare_109 (by decide) ?_
                obtain ⟨r1439, hc1440, h⟩ := ob (fun z9 => z9) rfl h
                refine c_Vv (rest := []) 0 0 _ dX11_isCompare_110 kv_X11_267 (ct_M_put hc1440) rfl rfl lM_0 rfl (Nat.le_of_ble_eq_true rfl) (dl (by decide)) (by decide) ?_
                refine r_iconst (v := (1 : Int32)) dX11_isCompare_113 (by decide) ?_
                refine r_zret dX11_isCompare_114 rfl (by decide) ?_
                have h := Option.some.inj (show some _ = some o from h)
                subst h
                exact hq
              · have h := ip (fun z9 => z9) hc1438 h
                refine r_iconst (v := (0 : Int32)) dX11_isCompare_104 (by decide) ?_
                refine r_zret dX11_isCompare_105 rfl (by decide) ?_
                have h := Option.some.inj (show some _ = some o from h)
                subst h
                exact hq
          · have h := ip (fun z9 => z9) hc1434 h
            refine r_bipush (v := (109 : Int32)) dX11_isCompare_60 (by decide) ?_
            refine r_goto (tgt := 78) dX11_isCompare_62 (by decide) ?_
            refine r_istore_n [(3, .int (109 : Int32)), (2, .int (M_kind r1427.2.1.toNatClampNeg)), (0, .ref (am 0)), (1, .ref (ap 0))] dX11_isCompare_78 (by decide) rfl ?_
            refine r_iload_n 0 dX11_isCompare_79 rfl ?_
            refine r_iconst (v := (-1 : Int32)) dX11_isCompare_80 (by decide) ?_
            refine r_icmp_ne (tgt := 86) dX11_isCompare_81 (by decide) (fun _ => ?_) (fun hc => absurd hc (by decide))
            refine r_aload_n 2 dX11_isCompare_86 rfl ?_
            refine r_dup dX11_isCompare_87 rfl ?_
            refine r_getf (v := .int r1427.2.1) _ dX11_isCompare_88 fl_X11_252 lM_0 rfl ?_
            refine r_iconst (v := (1 : Int32)) dX11_isCompare_91 (by decide) ?_
            refine r_iadd dX11_isCompare_92 ?_
            refine r_putf _ dX11_isCompare_93 fl_X11_252 lM_0 (Nat.le_of_ble_eq_true rfl) rfl rfl (sM_3 _) ?_
            refine r_aload_n 2 dX11_isCompare_96 rfl ?_
            refine r_aload_n 3 dX11_isCompare_97 rfl ?_
            obtain ⟨r1441, hc1442, h⟩ := ob (fun z9 => z9) rfl h
            refine c_V (rest := []) 0 0 _ dX11_isCompare_98 kv_X11_294 (ih_4 hc1442) rfl rfl lM_0 rfl (Nat.le_of_ble_eq_true rfl) (Nat.le_refl _) (by decide) ?_
            refine r_if_ne (tgt := 106) dX11_isCompare_101 (by decide) (fun hc1443 => ?_) (fun hc1443 => ?_)
            · have h := iq (fun z9 => z9) hc1443 h
              refine r_aload_n 2 dX11_isCompare_106 rfl ?_
              refine r_aload_n 3 dX11_isCompare_107 rfl ?_
              refine r_iload_n 0 dX11_isCompare_108 rfl ?_
              refine r_iconst (v := (0 : Int32)) dX11_isCompare_109 (by decide) ?_
              obtain ⟨r1444, hc1445, h⟩ := ob (fun z9 => z9) rfl h
              refine c_Vv (rest := []) 0 0 _ dX11_isCompare_110 kv_X11_267 (ct_M_put hc1445) rfl rfl lM_0 rfl (Nat.le_of_ble_eq_true rfl) (dl (by decide)) (by decide) ?_
              refine r_iconst (v := (1 : Int32)) dX11_isCompare_113 (by decide) ?_
              refine r_zret dX11_isCompare_114 rfl (by decide) ?_
              have h := Option.some.inj (show some _ = some o from h)
              subst h
              exact hq
            · have h := ip (fun z9 => z9) hc1443 h
              refine r_iconst (v := (0 : Int32)) dX11_isCompare_104 (by decide) ?_
              refine r_zret dX11_isCompare_105 rfl (by decide) ?_
              have h := Option.some.inj (show some _ = some o from h)
              subst h
              exact hq
        · have h := ip (fun z9 => z9) hc1433 h
          refine r_bipush (v := (108 : Int32)) dX11_isCompare_48 (by decide) ?_
          refine r_goto (tgt := 78) dX11_isCompare_50 (by decide) ?_
          refine r_istore_n [(3, .int (108 : Int32)), (2, .int (M_kind r1427.2.1.toNatClampNeg)), (0, .ref (am 0)), (1, .ref (ap 0))] dX11_isCompare_78 (by decide) rfl ?_
          refine r_iload_n 0 dX11_isCompare_79 rfl ?_
          refine r_iconst (v := (-1 : Int32)) dX11_isCompare_80 (by decide) ?_
          refine r_icmp_ne (tgt := 86) dX11_isCompare_81 (by decide) (fun _ => ?_) (fun hc => absurd hc (by decide))
          refine r_aload_n 2 dX11_isCompare_86 rfl ?_
          refine r_dup dX11_isCompare_87 rfl ?_
          refine r_getf (v := .int r1427.2.1) _ dX11_isCompare_88 fl_X11_252 lM_0 rfl ?_
          refine r_iconst (v := (1 : Int32)) dX11_isCompare_91 (by decide) ?_
          refine r_iadd dX11_isCompare_92 ?_
          refine r_putf _ dX11_isCompare_93 fl_X11_252 lM_0 (Nat.le_of_ble_eq_true rfl) rfl rfl (sM_3 _) ?_
          refine r_aload_n 2 dX11_isCompare_96 rfl ?_
          refine r_aload_n 3 dX11_isCompare_97 rfl ?_
          obtain ⟨r1446, hc1447, h⟩ := ob (fun z9 => z9) rfl h
          refine c_V (rest := []) 0 0 _ dX11_isCompare_98 kv_X11_294 (ih_4 hc1447) rfl rfl lM_0 rfl (Nat.le_of_ble_eq_true rfl) (Nat.le_refl _) (by decide) ?_
          refine r_if_ne (tgt := 106) dX11_isCompare_101 (by decide) (fun hc1448 => ?_) (fun hc1448 => ?_)
          · have h := iq (fun z9 => z9) hc1448 h
            refine r_aload_n 2 dX11_isCompare_106 rfl ?_
            refine r_aload_n 3 dX11_isCompare_107 rfl ?_
            refine r_iload_n 0 dX11_isCompare_108 rfl ?_
            refine r_iconst (v := (0 : Int32)) dX11_isCompare_109 (by decide) ?_
            obtain ⟨r1449, hc1450, h⟩ := ob (fun z9 => z9) rfl h
            refine c_Vv (rest := []) 0 0 _ dX11_isCompare_110 kv_X11_267 (ct_M_put hc1450) rfl rfl lM_0 rfl (Nat.le_of_ble_eq_true rfl) (dl (by decide)) (by decide) ?_
            refine r_iconst (v := (1 : Int32)) dX11_isCompare_113 (by decide) ?_
            refine r_zret dX11_isCompare_114 rfl (by decide) ?_
            have h := Option.some.inj (show some _ = some o from h)
            subst h
            exact hq
          · have h := ip (fun z9 => z9) hc1448 h
            refine r_iconst (v := (0 : Int32)) dX11_isCompare_104 (by decide) ?_
            refine r_zret dX11_isCompare_105 rfl (by decide) ?_
            have h := Option.some.inj (show some _ = some o from h)
            subst h
            exact hq
      · have h := ip (fun z9 => z9) hc1432 h
        refine r_bipush (v := (107 : Int32)) dX11_isCompare_37 (by decide) ?_
        refine r_goto (tgt := 78) dX11_isCompare_39 (by decide) ?_
        refine r_istore_n [(3, .int (107 : Int32)), (2, .int (M_kind r1427.2.1.toNatClampNeg)), (0, .ref (am 0)), (1, .ref (ap 0))] dX11_isCompare_78 (by decide) rfl ?_
        refine r_iload_n 0 dX11_isCompare_79 rfl ?_
        refine r_iconst (v := (-1 : Int32)) dX11_isCompare_80 (by decide) ?_
        refine r_icmp_ne (tgt := 86) dX11_isCompare_81 (by decide) (fun _ => ?_) (fun hc => absurd hc (by decide))
        refine r_aload_n 2 dX11_isCompare_86 rfl ?_
        refine r_dup dX11_isCompare_87 rfl ?_
        refine r_getf (v := .int r1427.2.1) _ dX11_isCompare_88 fl_X11_252 lM_0 rfl ?_
        refine r_iconst (v := (1 : Int32)) dX11_isCompare_91 (by decide) ?_
        refine r_iadd dX11_isCompare_92 ?_
        refine r_putf _ dX11_isCompare_93 fl_X11_252 lM_0 (Nat.le_of_ble_eq_true rfl) rfl rfl (sM_3 _) ?_
        refine r_aload_n 2 dX11_isCompare_96 rfl ?_
        refine r_aload_n 3 dX11_isCompare_97 rfl ?_
        obtain ⟨r1451, hc1452, h⟩ := ob (fun z9 => z9) rfl h
        refine c_V (rest := []) 0 0 _ dX11_isCompare_98 kv_X11_294 (ih_4 hc1452) rfl rfl lM_0 rfl (Nat.le_of_ble_eq_true rfl) (Nat.le_refl _) (by decide) ?_
        refine r_if_ne (tgt := 106) dX11_isCompare_101 (by decide) (fun hc1453 => ?_) (fun hc1453 => ?_)
        · have h := iq (fun z9 => z9) hc1453 h
          refine r_aload_n 2 dX11_isCompare_106 rfl ?_
          refine r_aload_n 3 dX11_isCompare_107 rfl ?_
          refine r_iload_n 0 dX11_isCompare_108 rfl ?_
          refine r_iconst (v := (0 : Int32)) dX11_isCompare_109 (by decide) ?_
          obtain ⟨r1454, hc1455, h⟩ := ob (fun z9 => z9) rfl h
          refine c_Vv (rest := []) 0 0 _ dX11_isCompare_110 kv_X11_267 (ct_M_put hc1455) rfl rfl lM_0 rfl (Nat.le_of_ble_eq_true rfl) (dl (by decide)) (by decide) ?_
          refine r_iconst (v := (1 : Int32)) dX11_isCompare_113 (by decide) ?_
          refine r_zret dX11_isCompare_114 rfl (by decide) ?_
          have h := Option.some.inj (show some _ = some o from h)
          subst h
          exact hq
        · have h := ip (fun z9 => z9) hc1453 h
          refine r_iconst (v := (0 : Int32)) dX11_isCompare_104 (by decide) ?_
          refine r_zret dX11_isCompare_105 rfl (by decide) ?_
          have h := Option.some.inj (show some _ = some o from h)
          subst h
          exact hq
    · have h := ip (fun z9 => z9) hc1431 h
      refine r_bipush (v := (106 : Int32)) dX11_isCompare_26 (by decide) ?_
      refine r_goto (tgt := 78) dX11_isCompare_28 (by decide) ?_
      refine r_istore_n [(3, .int (106 : Int32)), (2, .int (M_kind r1427.2.1.toNatClampNeg)), (0, .ref (am 0)), (1, .ref (ap 0))] dX11_isCompare_78 (by decide) rfl ?_
      refine r_iload_n 0 dX11_isCompare_79 rfl ?_
      refine r_iconst (v := (-1 : Int32)) dX11_isCompare_80 (by decide) ?_
      refine r_icmp_ne (tgt := 86) dX11_isCompare_81 (by decide) (fun _ => ?_) (fun hc => absurd hc (by decide))
      refine r_aload_n 2 dX11_isCompare_86 rfl ?_
      refine r_dup dX11_isCompare_87 rfl ?_
      refine r_getf (v := .int r1427.2.1) _ dX11_isCompare_88 fl_X11_252 lM_0 rfl ?_
      refine r_iconst (v := (1 : Int32)) dX11_isCompare_91 (by decide) ?_
      refine r_iadd dX11_isCompare_92 ?_
      refine r_putf _ dX11_isCompare_93 fl_X11_252 lM_0 (Nat.le_of_ble_eq_true rfl) rfl rfl (sM_3 _) ?_
      refine r_aload_n 2 dX11_isCompare_96 rfl ?_
      refine r_aload_n 3 dX11_isCompare_97 rfl ?_
      obtain ⟨r1456, hc1457, h⟩ := ob (fun z9 => z9) rfl h
      refine c_V (rest := []) 0 0 _ dX11_isCompare_98 kv_X11_294 (ih_4 hc1457) rfl rfl lM_0 rfl (Nat.le_of_ble_eq_true rfl) (Nat.le_refl _) (by decide) ?_
      refine r_if_ne (tgt := 106) dX11_isCompare_101 (by decide) (fun hc1458 => ?_) (fun hc1458 => ?_)
      · have h := iq (fun z9 => z9) hc1458 h
        refine r_aload_n 2 dX11_isCompare_106 rfl ?_
        refine r_aload_n 3 dX11_isCompare_107 rfl ?_
        refine r_iload_n 0 dX11_isCompare_108 rfl ?_
        refine r_iconst (v := (0 : Int32)) dX11_isCompare_109 (by decide) ?_
        obtain ⟨r1459, hc1460, h⟩ := ob (fun z9 => z9) rfl h
        refine c_Vv (rest := []) 0 0 _ dX11_isCompare_110 kv_X11_267 (ct_M_put hc1460) rfl rfl lM_0 rfl (Nat.le_of_ble_eq_true rfl) (dl (by decide)) (by decide) ?_
        refine r_iconst (v := (1 : Int32)) dX11_isCompare_113 (by decide) ?_
        refine r_zret dX11_isCompare_114 rfl (by decide) ?_
        have h := Option.some.inj (show some _ = some o from h)
        subst h
        exact hq
      · have h := ip (fun z9 => z9) hc1458 h
        refine r_iconst (v := (0 : Int32)) dX11_isCompare_104 (by decide) ?_
        refine r_zret dX11_isCompare_105 rfl (by decide) ?_
        have h := Option.some.inj (show some _ = some o from h)
        subst h
        exact hq
  · have h := ip (fun z9 => z9) hc1429 h
    refine r_iconst (v := (0 : Int32)) dX11_isCompare_8 (by decide) ?_
    refine r_zret dX11_isCompare_9 rfl (by decide) ?_
    have h := Option.some.inj (show some _ = some o from h)
    subst h
    exact hq
set_option maxRecDepth 20000 in
set_option maxHeartbeats 4000000 in
theorem rt_M_isSum {g : GG} {am : Nat → Nat} {ap : Nat → Nat} {pm : Nat} {t : va_W} {m0 m1 m2 m5 m6 m7 m8 m9 m10 m11 m12 u0 u1 u2 u3 : Int32} {m13 m15 m18 m19 m20 m21 u7 u8 u9 u10 u11 u12 u13 u14 u15 : Nat → Int32} {u5 u6 : Nat → Int64} {N : Nat} {M_token : Int32} {M_depth : Int32} {M_kind : Nat → Int32} {M_means : Nat → Int32} {M_value : Nat → Int64} {P_many : Int32} {P_order : Nat → Int32} {P_with : Nat → Int32} {P_also : Nat → Int32} {D : Nat} {rec : Nat → Int32 → Int32 → (Int32 × Int32 × (Nat → Int32) × Int32 × (Nat → Int32) × (Nat → Int32) × (Nat → Int32)) → Option (Int32 × Int32 × Int32 × (Nat → Int32) × Int32 × (Nat → Int32) × (Nat → Int32) × (Nat → Int32))} (ih_0 : (∀ {w0 : Int32} {w1 : Int32} {w2 : Nat → Int32} {w3 : Int32} {w4 : Nat → Int32} {w5 : Nat → Int32} {w6 : Nat → Int32} {o : Int32 × Int32 × Int32 × (Nat → Int32) × Int32 × (Nat → Int32) × (Nat → Int32) × (Nat → Int32)} {t : va_W}, rec 0 0 0 (w0, w1, w2, w3, w4, w5, w6) = some o → Ct g mX11_isTest (5 + D) 0 0 [.ref (am 0), .ref (ap 0)] (wlM g am pm m0 m1 m2 w0 w1 m5 m6 m7 m8 m9 m10 m11 m12 m13 M_kind m15 w2 M_value m18 m19 m20 m21 ++ (wlP g ap u0 u1 u2 u3 w3 u5 u6 u7 u8 u9 u10 u11 u12 u13 u14 u15 w4 w5 w6 ++ t)) (Dv (some (.int o.1)) (wlM g am pm m0 m1 m2 o.2.1 o.2.2.1 m5 m6 m7 m8 m9 m10 m11 m12 m13 M_kind m15 o.2.2.2.1 M_value m18 m19 m20 m21 ++ (wlP g ap u0 u1 u2 u3 o.2.2.2.2.1 u5 u6 u7 u8 u9 u10 u11 u12 u13 u14 u15 o.2.2.2.2.2.1 o.2.2.2.2.2.2.1 o.2.2.2.2.2.2.2 ++ t))))) (ih_1 : (∀ {w0 : Int32} {w1 : Int32} {w2 : Nat → Int32} {w3 : Int32} {w4 : Nat → Int32} {w5 : Nat → Int32} {w6 : Nat → Int32} {o : Int32 × Int32 × Int32 × (Nat → Int32) × Int32 × (Nat → Int32) × (Nat → Int32) × (Nat → Int32)} {t : va_W}, rec 1 0 0 (w0, w1, w2, w3, w4, w5, w6) = some o → Ct g mX11_isBoth (5 + D) 0 0 [.ref (am 0), .ref (ap 0)] (wlM g am pm m0 m1 m2 w0 w1 m5 m6 m7 m8 m9 m10 m11 m12 m13 M_kind m15 w2 M_value m18 m19 m20 m21 ++ (wlP g ap u0 u1 u2 u3 w3 u5 u6 u7 u8 u9 u10 u11 u12 u13 u14 u15 w4 w5 w6 ++ t)) (Dv (some (.int o.1)) (wlM g am pm m0 m1 m2 o.2.1 o.2.2.1 m5 m6 m7 m8 m9 m10 m11 m12 m13 M_kind m15 o.2.2.2.1 M_value m18 m19 m20 m21 ++ (wlP g ap u0 u1 u2 u3 o.2.2.2.2.1 u5 u6 u7 u8 u9 u10 u11 u12 u13 u14 u15 o.2.2.2.2.2.1 o.2.2.2.2.2.2.1 o.2.2.2.2.2.2.2 ++ t))))) (ih_2 : (∀ {w0 : Int32} {w1 : Int32} {w2 : Nat → Int32} {w3 : Int32} {w4 : Nat → Int32} {w5 : Nat → Int32} {w6 : Nat → Int32} {o : Int32 × Int32 × Int32 × (Nat → Int32) × Int32 × (Nat → Int32) × (Nat → Int32) × (Nat → Int32)} {t : va_W}, rec 2 0 0 (w0, w1, w2, w3, w4, w5, w6) = some o → Ct g mX11_isSingle (5 + D) 0 0 [.ref (am 0), .ref (ap 0)] (wlM g am pm m0 m1 m2 w0 w1 m5 m6 m7 m8 m9 m10 m11 m12 m13 M_kind m15 w2 M_value m18 m19 m20 m21 ++ (wlP g ap u0 u1 u2 u3 w3 u5 u6 u7 u8 u9 u10 u11 u12 u13 u14 u15 w4 w5 w6 ++ t)) (Dv (some (.int o.1)) (wlM g am pm m0 m1 m2 o.2.1 o.2.2.1 m5 m6 m7 m8 m9 m10 m11 m12 m13 M_kind m15 o.2.2.2.1 M_value m18 m19 m20 m21 ++ (wlP g ap u0 u1 u2 u3 o.2.2.2.2.1 u5 u6 u7 u8 u9 u10 u11 u12 u13 u14 u15 o.2.2.2.2.2.1 o.2.2.2.2.2.2.1 o.2.2.2.2.2.2.2 ++ t))))) (ih_3 : (∀ {w0 : Int32} {w1 : Int32} {w2 : Nat → Int32} {w3 : Int32} {w4 : Nat → Int32} {w5 : Nat → Int32} {w6 : Nat → Int32} {o : Int32 × Int32 × Int32 × (Nat → Int32) × Int32 × (Nat → Int32) × (Nat → Int32) × (Nat → Int32)} {t : va_W}, rec 3 0 0 (w0, w1, w2, w3, w4, w5, w6) = some o → Ct g mX11_isCompare (5 + D) 0 0 [.ref (am 0), .ref (ap 0)] (wlM g am pm m0 m1 m2 w0 w1 m5 m6 m7 m8 m9 m10 m11 m12 m13 M_kind m15 w2 M_value m18 m19 m20 m21 ++ (wlP g ap u0 u1 u2 u3 w3 u5 u6 u7 u8 u9 u10 u11 u12 u13 u14 u15 w4 w5 w6 ++ t)) (Dv (some (.int o.1)) (wlM g am pm m0 m1 m2 o.2.1 o.2.2.1 m5 m6 m7 m8 m9 m10 m11 m12 m13 M_kind m15 o.2.2.2.1 M_value m18 m19 m20 m21 ++ (wlP g ap u0 u1 u2 u3 o.2.2.2.2.1 u5 u6 u7 u8 u9 u10 u11 u12 u13 u14 u15 o.2.2.2.2.2.1 o.2.2.2.2.2.2.1 o.2.2.2.2.2.2.2 ++ t))))) (ih_4 : (∀ {w0 : Int32} {w1 : Int32} {w2 : Nat → Int32} {w3 : Int32} {w4 : Nat → Int32} {w5 : Nat → Int32} {w6 : Nat → Int32} {o : Int32 × Int32 × Int32 × (Nat → Int32) × Int32 × (Nat → Int32) × (Nat → Int32) × (Nat → Int32)} {t : va_W}, rec 4 0 0 (w0, w1, w2, w3, w4, w5, w6) = some o → Ct g mX11_isSum (5 + D) 0 0 [.ref (am 0), .ref (ap 0)] (wlM g am pm m0 m1 m2 w0 w1 m5 m6 m7 m8 m9 m10 m11 m12 m13 M_kind m15 w2 M_value m18 m19 m20 m21 ++ (wlP g ap u0 u1 u2 u3 w3 u5 u6 u7 u8 u9 u10 u11 u12 u13 u14 u15 w4 w5 w6 ++ t)) (Dv (some (.int o.1)) (wlM g am pm m0 m1 m2 o.2.1 o.2.2.1 m5 m6 m7 m8 m9 m10 m11 m12 m13 M_kind m15 o.2.2.2.1 M_value m18 m19 m20 m21 ++ (wlP g ap u0 u1 u2 u3 o.2.2.2.2.1 u5 u6 u7 u8 u9 u10 u11 u12 u13 u14 u15 o.2.2.2.2.2.1 o.2.2.2.2.2.2.1 o.2.2.2.2.2.2.2 ++ t))))) (ih_5 : (∀ {w0 : Int32} {w1 : Int32} {w2 : Nat → Int32} {w3 : Int32} {w4 : Nat → Int32} {w5 : Nat → Int32} {w6 : Nat → Int32} {o : Int32 × Int32 × Int32 × (Nat → Int32) × Int32 × (Nat → Int32) × (Nat → Int32) × (Nat → Int32)} {t : va_W}, rec 5 0 0 (w0, w1, w2, w3, w4, w5, w6) = some o → Ct g mX11_isProduct (5 + D) 0 0 [.ref (am 0), .ref (ap 0)] (wlM g am pm m0 m1 m2 w0 w1 m5 m6 m7 m8 m9 m10 m11 m12 m13 M_kind m15 w2 M_value m18 m19 m20 m21 ++ (wlP g ap u0 u1 u2 u3 w3 u5 u6 u7 u8 u9 u10 u11 u12 u13 u14 u15 w4 w5 w6 ++ t)) (Dv (some (.int o.1)) (wlM g am pm m0 m1 m2 o.2.1 o.2.2.1 m5 m6 m7 m8 m9 m10 m11 m12 m13 M_kind m15 o.2.2.2.1 M_value m18 m19 m20 m21 ++ (wlP g ap u0 u1 u2 u3 o.2.2.2.2.1 u5 u6 u7 u8 u9 u10 u11 u12 u13 u14 u15 o.2.2.2.2.2.1 o.2.2.2.2.2.2.1 o.2.2.2.2.2.2.2 ++ t))))) (ih_6 : (∀ {w0 : Int32} {w1 : Int32} {w2 : Nat → Int32} {w3 : Int32} {w4 : Nat → Int32} {w5 : Nat → Int32} {w6 : Nat → Int32} {o : Int32 × Int32 × Int32 × (Nat → Int32) × Int32 × (Nat → Int32) × (Nat → Int32) × (Nat → Int32)} {t : va_W}, rec 6 0 0 (w0, w1, w2, w3, w4, w5, w6) = some o → Ct g mX11_isValue (5 + D) 0 0 [.ref (am 0), .ref (ap 0)] (wlM g am pm m0 m1 m2 w0 w1 m5 m6 m7 m8 m9 m10 m11 m12 m13 M_kind m15 w2 M_value m18 m19 m20 m21 ++ (wlP g ap u0 u1 u2 u3 w3 u5 u6 u7 u8 u9 u10 u11 u12 u13 u14 u15 w4 w5 w6 ++ t)) (Dv (some (.int o.1)) (wlM g am pm m0 m1 m2 o.2.1 o.2.2.1 m5 m6 m7 m8 m9 m10 m11 m12 m13 M_kind m15 o.2.2.2.1 M_value m18 m19 m20 m21 ++ (wlP g ap u0 u1 u2 u3 o.2.2.2.2.1 u5 u6 u7 u8 u9 u10 u11 u12 u13 u14 u15 o.2.2.2.2.2.1 o.2.2.2.2.2.2.1 o.2.2.2.2.2.2.2 ++ t))))) (ih_7 : (∀ {w0 : Int32} {w1 : Int32} {w2 : Nat → Int32} {w3 : Int32} {w4 : Nat → Int32} {w5 : Nat → Int32} {w6 : Nat → Int32} {p2 : Int32} {o : Int32 × Int32 × Int32 × (Nat → Int32) × Int32 × (Nat → Int32) × (Nat → Int32) × (Nat → Int32)} {t : va_W}, rec 7 p2 0 (w0, w1, w2, w3, w4, w5, w6) = some o → Ct g mX11_isOfTwo (5 + D) 0 0 [.ref (am 0), .ref (ap 0), .int p2] (wlM g am pm m0 m1 m2 w0 w1 m5 m6 m7 m8 m9 m10 m11 m12 m13 M_kind m15 w2 M_value m18 m19 m20 m21 ++ (wlP g ap u0 u1 u2 u3 w3 u5 u6 u7 u8 u9 u10 u11 u12 u13 u14 u15 w4 w5 w6 ++ t)) (Dv (some (.int o.1)) (wlM g am pm m0 m1 m2 o.2.1 o.2.2.1 m5 m6 m7 m8 m9 m10 m11 m12 m13 M_kind m15 o.2.2.2.1 M_value m18 m19 m20 m21 ++ (wlP g ap u0 u1 u2 u3 o.2.2.2.2.1 u5 u6 u7 u8 u9 u10 u11 u12 u13 u14 u15 o.2.2.2.2.2.1 o.2.2.2.2.2.2.1 o.2.2.2.2.2.2.2 ++ t))))) {o : Int32 × Int32 × Int32 × (Nat → Int32) × Int32 × (Nat → Int32) × (Nat → Int32) × (Nat → Int32)} {Q : Rs → va_W → Prop} (h : f_M_isSum N rec M_token M_depth M_kind M_means M_value P_many P_order P_with P_also = some o) (hq : Q (.inl (some (.int o.1))) (wlM g am pm m0 m1 m2 o.2.1 o.2.2.1 m5 m6 m7 m8 m9 m10 m11 m12 m13 M_kind m15 o.2.2.2.1 M_value m18 m19 m20 m21 ++ (wlP g ap u0 u1 u2 u3 o.2.2.2.2.1 u5 u6 u7 u8 u9 u10 u11 u12 u13 u14 u15 o.2.2.2.2.2.1 o.2.2.2.2.2.2.1 o.2.2.2.2.2.2.2 ++ t))) : R g mX11_isSum (5 + (D + 1)) 0 0 0 [(0, .ref (am 0)), (1, .ref (ap 0))] [] (wlM g am pm m0 m1 m2 M_token M_depth m5 m6 m7 m8 m9 m10 m11 m12 m13 M_kind m15 M_means M_value m18 m19 m20 m21 ++ (wlP g ap u0 u1 u2 u3 P_many u5 u6 u7 u8 u9 u10 u11 u12 u13 u14 u15 P_order P_with P_also ++ t)) Q := by
  unfold f_M_isSum at h
  refine r_aload_n 0 dX11_isSum_0 rfl ?_
  refine r_aload_n 1 dX11_isSum_1 rfl ?_
  obtain ⟨r1461, hc1462, h⟩ := ob (fun z9 => z9) rfl h
  refine c_V (rest := []) 0 0 _ dX11_isSum_2 kv_X11_297 (ih_5 hc1462) rfl rfl lM_0 rfl (Nat.le_of_ble_eq_true rfl) (Nat.le_refl _) (by decide) ?_
  refine r_if_ne (tgt := 10) dX11_isSum_5 (by decide) (fun hc1463 => ?_) (fun hc1463 => ?_)
  · have h := iq (fun z9 => z9) hc1463 h
    refine r_ls [0, 1] (ls2 := [(0, .ref (am 0)), (1, .ref (ap 0))]) rfl ?_
    have L1 : ∀ (n1 : Nat) (M_token_1 : Int32) (M_depth_1 : Int32) (M_means_1 : Nat → Int32) (P_many_1 : Int32) (P_order_1 : Nat → Int32) (P_with_1 : Nat → Int32) (P_also_1 : Nat → Int32), (fun z9 => z9) (lpS (f_M_isSum_L10 M_kind rec) none n1 (M_token_1, M_depth_1, M_means_1, P_many_1, P_order_1, P_with_1, P_also_1)) = some o → R g mX11_isSum (5 + (D + 1)) 0 0 10 [(0, .ref (am 0)), (1, .ref (ap 0))] [] (wlM g am pm m0 m1 m2 M_token_1 M_depth_1 m5 m6 m7 m8 m9 m10 m11 m12 m13 M_kind m15 M_means_1 M_value m18 m19 m20 m21 ++ (wlP g ap u0 u1 u2 u3 P_many_1 u5 u6 u7 u8 u9 u10 u11 u12 u13 u14 u15 P_order_1 P_with_1 P_also_1 ++ t)) Q := by
      intro n1
      induction n1 with
      | zero => intro M_token_1 M_depth_1 M_means_1 P_many_1 P_order_1 P_with_1 P_also_1 h; exact nomatch (show (none : Option _) = some _ from h)
      | succ n1 ih1 =>
        intro M_token_1 M_depth_1 M_means_1 P_many_1 P_order_1 P_with_1 P_also_1 h
        have h : (fun z9 => (lC (f_M_isSum_L10 M_kind rec) none n1 z9)) (f_M_isSum_L10 M_kind rec (M_token_1, M_depth_1, M_means_1, P_many_1, P_order_1, P_with_1, P_also_1)) = some o := h
        unfold f_M_isSum_L10 at h
        try dsimp only at h
        refine r_aload_n 0 dX11_isSum_10 rfl ?_
        refine r_getf (v := .ref (am 2)) _ dX11_isSum_11 fl_X11_24 lM_0 rfl ?_
        refine r_aload_n 0 dX11_isSum_14 rfl ?_
        refine r_getf (v := .int M_token_1) _ dX11_isSum_15 fl_X11_252 lM_0 rfl ?_
        obtain ⟨hb1464, h⟩ := gd (fun z9 => (lC (f_M_isSum_L10 M_kind rec) none n1 z9)) rfl h
        refine r_iald _ dX11_isSum_18 lM_2 hb1464 ?_
        refine r_bipush (v := (43 : Int32)) dX11_isSum_19 (by decide) ?_
        refine r_icmp_eq (tgt := 38) dX11_isSum_21 (by decide) (fun hc1465 => ?_) (fun hc1465 => ?_)
        · have h := ip (fun z9 => (lC (f_M_isSum_L10 M_kind rec) none n1 z9)) hc1465 h
          refine r_aload_n 0 dX11_isSum_38 rfl ?_
          refine r_getf (v := .ref (am 2)) _ dX11_isSum_39 fl_X11_24 lM_0 rfl ?_
          refine r_aload_n 0 dX11_isSum_42 rfl ?_
          refine r_getf (v := .int M_token_1) _ dX11_isSum_43 fl_X11_252 lM_0 rfl ?_
          obtain ⟨hb1466, h⟩ := gd (fun z9 => (lC (f_M_isSum_L10 M_kind rec) none n1 z9)) rfl h
          refine r_iald _ dX11_isSum_46 lM_2 hb1466 ?_
          refine r_bipush (v := (43 : Int32)) dX11_isSum_47 (by decide) ?_
          refine r_icmp_ne (tgt := 57) dX11_isSum_49 (by decide) (fun hc1467 => ?_) (fun hc1467 => ?_)
          · have h := iq (fun z9 => (lC (f_M_isSum_L10 M_kind rec) none n1 z9)) hc1467 h
            refine r_bipush (v := (102 : Int32)) dX11_isSum_57 (by decide) ?_
            refine r_istore_n [(2, .int (102 : Int32)), (0, .ref (am 0)), (1, .ref (ap 0))] dX11_isSum_59 (by decide) rfl ?_
            refine r_aload_n 1 dX11_isSum_60 rfl ?_
            refine r_dup dX11_isSum_61 rfl ?_
            refine r_getf (v := .int M_token_1) _ dX11_isSum_62 fl_X11_252 lM_0 rfl ?_
            refine r_iconst (v := (1 : Int32)) dX11_isSum_65 (by decide) ?_
            refine r_iadd dX11_isSum_66 ?_
            refine r_putf _ dX11_isSum_67 fl_X11_252 lM_0 (Nat.le_of_ble_eq_true rfl) rfl rfl (sM_3 _) ?_
            refine r_aload_n 1 dX11_isSum_70 rfl ?_
            refine r_aload_n 2 dX11_isSum_71 rfl ?_
            obtain ⟨r1468, hc1469, h⟩ := ob (fun z9 => (lC (f_M_isSum_L10 M_kind rec) none n1 z9)) rfl h
            refine c_V (rest := []) 0 0 _ dX11_isSum_72 kv_X11_297 (ih_5 hc1469) rfl rfl lM_0 rfl (Nat.le_of_ble_eq_true rfl) (Nat.le_refl _) (by decide) ?_
            refine r_if_ne (tgt := 80) dX11_isSum_75 (by decide) (fun hc1470 => ?_) (fun hc1470 => ?_)
            · have h := iq (fun z9 => (lC (f_M_isSum_L10 M_kind rec) none n1 z9)) hc1470 h
              refine r_aload_n 1 dX11_isSum_80 rfl ?_
              refine r_aload_n 2 dX11_isSum_81 rfl ?_
              refine r_iload_n 0 dX11_isSum_82 rfl ?_
              refine r_iconst (v := (0 : Int32)) dX11_isSum_83 (by decide) ?_
              obtain ⟨r1471, hc1472, h⟩ := ob (fun z9 => (lC (f_M_isSum_L10 M_kind rec) none n1 z9)) rfl h
              refine c_Vv (rest := []) 0 0 _ dX11_isSum_84 kv_X11_267 (ct_M_put hc1472) rfl rfl lM_0 rfl (Nat.le_of_ble_eq_true rfl) (dl (by decide)) (by decide) ?_
              refine r_goto (tgt := 10) dX11_isSum_87 (by decide) ?_
              refine r_ls [1, 2] (ls2 := [(0, .ref (am 0)), (1, .ref (ap 0))]) rfl ?_
              exact ih1 r1468.2.1 r1468.2.2.1 r1468.2.2.2.1 r1471.1 r1471.2.1 r1471.2.2 r1468.2.2.2.2.2.2.2 h
            · have h := ip (fun z9 => (lC (f_M_isSum_L10 M_kind rec) none n1 z9)) hc1470 h
              refine r_iconst (v := (0 : Int32)) dX11_isSum_78 (by decide) ?_
              refine r_zret dX11_isSum_79 rfl (by decide) ?_
              have h := Option.some.inj (show some _ = some o from h)
              subst h
              exact hq
          · have h := ip (fun z9 => (lC (f_M_isSum_L10 M_kind rec) none n1 z9)) hc1467 h
            refine r_bipush (v := (101 : Int32)) dX11_isSum_52 (by decide) ?_
            refine r_goto (tgt := 59) dX11_isSum_54 (by decide) ?_
            refine r_istore_n [(2, .int (101 : Int32)), (0, .ref (am 0)), (1, .ref (ap 0))] dX11_isSum_59 (by decide) rfl ?_
            refine r_aload_n 1 dX11_isSum_60 rfl ?_
            refine r_dup dX11_isSum_61 rfl ?_
            refine r_getf (v := .int M_token_1) _ dX11_isSum_62 fl_X11_252 lM_0 rfl ?_
            refine r_iconst (v := (1 : Int32)) dX11_isSum_65 (by decide) ?_
            refine r_iadd dX11_isSum_66 ?_
            refine r_putf _ dX11_isSum_67 fl_X11_252 lM_0 (Nat.le_of_ble_eq_true rfl) rfl rfl (sM_3 _) ?_
            refine r_aload_n 1 dX11_isSum_70 rfl ?_
            refine r_aload_n 2 dX11_isSum_71 rfl ?_
            obtain ⟨r1473, hc1474, h⟩ := ob (fun z9 => (lC (f_M_isSum_L10 M_kind rec) none n1 z9)) rfl h
            refine c_V (rest := []) 0 0 _ dX11_isSum_72 kv_X11_297 (ih_5 hc1474) rfl rfl lM_0 rfl (Nat.le_of_ble_eq_true rfl) (Nat.le_refl _) (by decide) ?_
            refine r_if_ne (tgt := 80) dX11_isSum_75 (by decide) (fun hc1475 => ?_) (fun hc1475 => ?_)
            · have h := iq (fun z9 => (lC (f_M_isSum_L10 M_kind rec) none n1 z9)) hc1475 h
              refine r_aload_n 1 dX11_isSum_80 rfl ?_
              refine r_aload_n 2 dX11_isSum_81 rfl ?_
              refine r_iload_n 0 dX11_isSum_82 rfl ?_
              refine r_iconst (v := (0 : Int32)) dX11_isSum_83 (by decide) ?_
              obtain ⟨r1476, hc1477, h⟩ := ob (fun z9 => (lC (f_M_isSum_L10 M_kind rec) none n1 z9)) rfl h
              refine c_Vv (rest := []) 0 0 _ dX11_isSum_84 kv_X11_267 (ct_M_put hc1477) rfl rfl lM_0 rfl (Nat.le_of_ble_eq_true rfl) (dl (by decide)) (by decide) ?_
              refine r_goto (tgt := 10) dX11_isSum_87 (by decide) ?_
              refine r_ls [1, 2] (ls2 := [(0, .ref (am 0)), (1, .ref (ap 0))]) rfl ?_
              exact ih1 r1473.2.1 r1473.2.2.1 r1473.2.2.2.1 r1476.1 r1476.2.1 r1476.2.2 r1473.2.2.2.2.2.2.2 h
            · have h := ip (fun z9 => (lC (f_M_isSum_L10 M_kind rec) none n1 z9)) hc1475 h
              refine r_iconst (v := (0 : Int32)) dX11_isSum_78 (by decide) ?_
              refine r_zret dX11_isSum_79 rfl (by decide) ?_
              have h := Option.some.inj (show some _ = some o from h)
              subst h
              exact hq
        · have h := iq (fun z9 => (lC (f_M_isSum_L10 M_kind rec) none n1 z9)) hc1465 h
          refine r_aload_n 0 dX11_isSum_24 rfl ?_
          refine r_getf (v := .ref (am 2)) _ dX11_isSum_25 fl_X11_24 lM_0 rfl ?_
          refine r_aload_n 0 dX11_isSum_28 rfl ?_
          refine r_getf (v := .int M_token_1) _ dX11_isSum_29 fl_X11_252 lM_0 rfl ?_
          obtain ⟨hb1478, h⟩ := gd (fun z9 => (lC (f_M_isSum_L10 M_kind rec) none n1 z9)) rfl h
          refine r_iald _ dX11_isSum_32 lM_2 hb1478 ?_
          refine r_bipush (v := (45 : Int32)) dX11_isSum_33 (by decide) ?_
          refine r_icmp_ne (tgt := 90) dX11_isSum_35 (by decide) (fun hc1479 => ?_) (fun hc1479 => ?_)
          · have h := iq (fun z9 => (lC (f_M_isSum_L10 M_kind rec) none n1 z9)) hc1479 h
            refine r_iconst (v := (1 : Int32)) dX11_isSum_90 (by decide) ?_
            refine r_zret dX11_isSum_91 rfl (by decide) ?_
            have h := Option.some.inj (show some _ = some o from h)
            subst h
            exact hq
          · have h := ip (fun z9 => (lC (f_M_isSum_L10 M_kind rec) none n1 z9)) hc1479 h
            refine r_aload_n 0 dX11_isSum_38 rfl ?_
            refine r_getf (v := .ref (am 2)) _ dX11_isSum_39 fl_X11_24 lM_0 rfl ?_
            refine r_aload_n 0 dX11_isSum_42 rfl ?_
            refine r_getf (v := .int M_token_1) _ dX11_isSum_43 fl_X11_252 lM_0 rfl ?_
            obtain ⟨hb1480, h⟩ := gd (fun z9 => (lC (f_M_isSum_L10 M_kind rec) none n1 z9)) rfl h
            refine r_iald _ dX11_isSum_46 lM_2 hb1480 ?_
            refine r_bipush (v := (43 : Int32)) dX11_isSum_47 (by decide) ?_
            refine r_icmp_ne (tgt := 57) dX11_isSum_49 (by decide) (fun hc1481 => ?_) (fun hc1481 => ?_)
            · have h := iq (fun z9 => (lC (f_M_isSum_L10 M_kind rec) none n1 z9)) hc1481 h
              refine r_bipush (v := (102 : Int32)) dX11_isSum_57 (by decide) ?_
              refine r_istore_n [(2, .int (102 : Int32)), (0, .ref (am 0)), (1, .ref (ap 0))] dX11_isSum_59 (by decide) rfl ?_
              refine r_aload_n 1 dX11_isSum_60 rfl ?_
              refine r_dup dX11_isSum_61 rfl ?_
              refine r_getf (v := .int M_token_1) _ dX11_isSum_62 fl_X11_252 lM_0 rfl ?_
              refine r_iconst (v := (1 : Int32)) dX11_isSum_65 (by decide) ?_
              refine r_iadd dX11_isSum_66 ?_
              refine r_putf _ dX11_isSum_67 fl_X11_252 lM_0 (Nat.le_of_ble_eq_true rfl) rfl rfl (sM_3 _) ?_
              refine r_aload_n 1 dX11_isSum_70 rfl ?_
              refine r_aload_n 2 dX11_isSum_71 rfl ?_
              obtain ⟨r1482, hc1483, h⟩ := ob (fun z9 => (lC (f_M_isSum_L10 M_kind rec) none n1 z9)) rfl h
              refine c_V (rest := []) 0 0 _ dX11_isSum_72 kv_X11_297 (ih_5 hc1483) rfl rfl lM_0 rfl (Nat.le_of_ble_eq_true rfl) (Nat.le_refl _) (by decide) ?_
              refine r_if_ne (tgt := 80) dX11_isSum_75 (by decide) (fun hc1484 => ?_) (fun hc1484 => ?_)
              · have h := iq (fun z9 => (lC (f_M_isSum_L10 M_kind rec) none n1 z9)) hc1484 h
                refine r_aload_n 1 dX11_isSum_80 rfl ?_
                refine r_aload_n 2 dX11_isSum_81 rfl ?_
                refine r_iload_n 0 dX11_isSum_82 rfl ?_
                refine r_iconst (v := (0 : Int32)) dX11_isSum_83 (by decide) ?_
                obtain ⟨r1485, hc1486, h⟩ := ob (fun z9 => (lC (f_M_isSum_L10 M_kind rec) none n1 z9)) rfl h
                refine c_Vv (rest := []) 0 0 _ dX11_isSum_84 kv_X11_267 (ct_M_put hc1486) rfl rfl lM_0 rfl (Nat.le_of_ble_eq_true rfl) (dl (by decide)) (by decide) ?_
                refine r_goto (tgt := 10) dX11_isSum_87 (by decide) ?_
                refine r_ls [1, 2] (ls2 := [(0, .ref (am 0)), (1, .ref (ap 0))]) rfl ?_
                exact ih1 r1482.2.1 r1482.2.2.1 r1482.2.2.2.1 r1485.1 r1485.2.1 r1485.2.2 r1482.2.2.2.2.2.2.2 h
              · have h := ip (fun z9 => (lC (f_M_isSum_L10 M_kind rec) none n1 z9)) hc1484 h
                refine r_iconst (v := (0 : Int32)) dX11_isSum_78 (by decide) ?_
                refine r_zret dX11_isSum_79 rfl (by decide) ?_
                have h := Option.some.inj (show some _ = some o from h)
                subst h
                exact hq
            · have h := ip (fun z9 => (lC (f_M_isSum_L10 M_kind rec) none n1 z9)) hc1481 h
              refine r_bipush (v := (101 : Int32)) dX11_isSum_52 (by decide) ?_
              refine r_goto (tgt := 59) dX11_isSum_54 (by decide) ?_
              refine r_istore_n [(2, .int (101 : Int32)), (0, .ref (am 0)), (1, .ref (ap 0))] dX11_isSum_59 (by decide) rfl ?_
              refine r_aload_n 1 dX11_isSum_60 rfl ?_
              refine r_dup dX11_isSum_61 rfl ?_
              refine r_getf (v := .int M_token_1) _ dX11_isSum_62 fl_X11_252 lM_0 rfl ?_
              refine r_iconst (v := (1 : Int32)) dX11_isSum_65 (by decide) ?_
              refine r_iadd dX11_isSum_66 ?_
              refine r_putf _ dX11_isSum_67 fl_X11_252 lM_0 (Nat.le_of_ble_eq_true rfl) rfl rfl (sM_3 _) ?_
              refine r_aload_n 1 dX11_isSum_70 rfl ?_
              refine r_aload_n 2 dX11_isSum_71 rfl ?_
              obtain ⟨r1487, hc1488, h⟩ := ob (fun z9 => (lC (f_M_isSum_L10 M_kind rec) none n1 z9)) rfl h
              refine c_V (rest := []) 0 0 _ dX11_isSum_72 kv_X11_297 (ih_5 hc1488) rfl rfl lM_0 rfl (Nat.le_of_ble_eq_true rfl) (Nat.le_refl _) (by decide) ?_
              refine r_if_ne (tgt := 80) dX11_isSum_75 (by decide) (fun hc1489 => ?_) (fun hc1489 => ?_)
              · have h := iq (fun z9 => (lC (f_M_isSum_L10 M_kind rec) none n1 z9)) hc1489 h
                refine r_aload_n 1 dX11_isSum_80 rfl ?_
                refine r_aload_n 2 dX11_isSum_81 rfl ?_
                refine r_iload_n 0 dX11_isSum_82 rfl ?_
                refine r_iconst (v := (0 : Int32)) dX11_isSum_83 (by decide) ?_
                obtain ⟨r1490, hc1491, h⟩ := ob (fun z9 => (lC (f_M_isSum_L10 M_kind rec) none n1 z9)) rfl h
                refine c_Vv (rest := []) 0 0 _ dX11_isSum_84 kv_X11_267 (ct_M_put hc1491) rfl rfl lM_0 rfl (Nat.le_of_ble_eq_true rfl) (dl (by decide)) (by decide) ?_
                refine r_goto (tgt := 10) dX11_isSum_87 (by decide) ?_
                refine r_ls [1, 2] (ls2 := [(0, .ref (am 0)), (1, .ref (ap 0))]) rfl ?_
                exact ih1 r1487.2.1 r1487.2.2.1 r1487.2.2.2.1 r1490.1 r1490.2.1 r1490.2.2 r1487.2.2.2.2.2.2.2 h
              · have h := ip (fun z9 => (lC (f_M_isSum_L10 M_kind rec) none n1 z9)) hc1489 h
                refine r_iconst (v := (0 : Int32)) dX11_isSum_78 (by decide) ?_
                refine r_zret dX11_isSum_79 rfl (by decide) ?_
                have h := Option.some.inj (show some _ = some o from h)
                subst h
                exact hq
    exact L1 _ r1461.2.1 r1461.2.2.1 r1461.2.2.2.1 r1461.2.2.2.2.1 r1461.2.2.2.2.2.1 r1461.2.2.2.2.2.2.1 r1461.2.2.2.2.2.2.2 h
  · have h := ip (fun z9 => z9) hc1463 h
    refine r_iconst (v := (0 : Int32)) dX11_isSum_8 (by decide) ?_
    refine r_zret dX11_isSum_9 rfl (by decide) ?_
    have h := Option.some.inj (show some _ = some o from h)
    subst h
    exact hq
set_option maxRecDepth 20000 in
set_option maxHeartbeats 4000000 in
theorem rt_M_isProduct {g : GG} {am : Nat → Nat} {ap : Nat → Nat} {pm : Nat} {t : va_W} {m0 m1 m2 m5 m6 m7 m8 m9 m10 m11 m12 u0 u1 u2 u3 : Int32} {m13 m15 m18 m19 m20 m21 u7 u8 u9 u10 u11 u12 u13 u14 u15 : Nat → Int32} {u5 u6 : Nat → Int64} {N : Nat} {M_token : Int32} {M_depth : Int32} {M_kind : Nat → Int32} {M_means : Nat → Int32} {M_value : Nat → Int64} {P_many : Int32} {P_order : Nat → Int32} {P_with : Nat → Int32} {P_also : Nat → Int32} {D : Nat} {rec : Nat → Int32 → Int32 → (Int32 × Int32 × (Nat → Int32) × Int32 × (Nat → Int32) × (Nat → Int32) × (Nat → Int32)) → Option (Int32 × Int32 × Int32 × (Nat → Int32) × Int32 × (Nat → Int32) × (Nat → Int32) × (Nat → Int32))} (ih_0 : (∀ {w0 : Int32} {w1 : Int32} {w2 : Nat → Int32} {w3 : Int32} {w4 : Nat → Int32} {w5 : Nat → Int32} {w6 : Nat → Int32} {o : Int32 × Int32 × Int32 × (Nat → Int32) × Int32 × (Nat → Int32) × (Nat → Int32) × (Nat → Int32)} {t : va_W}, rec 0 0 0 (w0, w1, w2, w3, w4, w5, w6) = some o → Ct g mX11_isTest (5 + D) 0 0 [.ref (am 0), .ref (ap 0)] (wlM g am pm m0 m1 m2 w0 w1 m5 m6 m7 m8 m9 m10 m11 m12 m13 M_kind m15 w2 M_value m18 m19 m20 m21 ++ (wlP g ap u0 u1 u2 u3 w3 u5 u6 u7 u8 u9 u10 u11 u12 u13 u14 u15 w4 w5 w6 ++ t)) (Dv (some (.int o.1)) (wlM g am pm m0 m1 m2 o.2.1 o.2.2.1 m5 m6 m7 m8 m9 m10 m11 m12 m13 M_kind m15 o.2.2.2.1 M_value m18 m19 m20 m21 ++ (wlP g ap u0 u1 u2 u3 o.2.2.2.2.1 u5 u6 u7 u8 u9 u10 u11 u12 u13 u14 u15 o.2.2.2.2.2.1 o.2.2.2.2.2.2.1 o.2.2.2.2.2.2.2 ++ t))))) (ih_1 : (∀ {w0 : Int32} {w1 : Int32} {w2 : Nat → Int32} {w3 : Int32} {w4 : Nat → Int32} {w5 : Nat → Int32} {w6 : Nat → Int32} {o : Int32 × Int32 × Int32 × (Nat → Int32) × Int32 × (Nat → Int32) × (Nat → Int32) × (Nat → Int32)} {t : va_W}, rec 1 0 0 (w0, w1, w2, w3, w4, w5, w6) = some o → Ct g mX11_isBoth (5 + D) 0 0 [.ref (am 0), .ref (ap 0)] (wlM g am pm m0 m1 m2 w0 w1 m5 m6 m7 m8 m9 m10 m11 m12 m13 M_kind m15 w2 M_value m18 m19 m20 m21 ++ (wlP g ap u0 u1 u2 u3 w3 u5 u6 u7 u8 u9 u10 u11 u12 u13 u14 u15 w4 w5 w6 ++ t)) (Dv (some (.int o.1)) (wlM g am pm m0 m1 m2 o.2.1 o.2.2.1 m5 m6 m7 m8 m9 m10 m11 m12 m13 M_kind m15 o.2.2.2.1 M_value m18 m19 m20 m21 ++ (wlP g ap u0 u1 u2 u3 o.2.2.2.2.1 u5 u6 u7 u8 u9 u10 u11 u12 u13 u14 u15 o.2.2.2.2.2.1 o.2.2.2.2.2.2.1 o.2.2.2.2.2.2.2 ++ t))))) (ih_2 : (∀ {w0 : Int32} {w1 : Int32} {w2 : Nat → Int32} {w3 : Int32} {w4 : Nat → Int32} {w5 : Nat → Int32} {w6 : Nat → Int32} {o : Int32 × Int32 × Int32 × (Nat → Int32) × Int32 × (Nat → Int32) × (Nat → Int32) × (Nat → Int32)} {t : va_W}, rec 2 0 0 (w0, w1, w2, w3, w4, w5, w6) = some o → Ct g mX11_isSingle (5 + D) 0 0 [.ref (am 0), .ref (ap 0)] (wlM g am pm m0 m1 m2 w0 w1 m5 m6 m7 m8 m9 m10 m11 m12 m13 M_kind m15 w2 M_value m18 m19 m20 m21 ++ (wlP g ap u0 u1 u2 u3 w3 u5 u6 u7 u8 u9 u10 u11 u12 u13 u14 u15 w4 w5 w6 ++ t)) (Dv (some (.int o.1)) (wlM g am pm m0 m1 m2 o.2.1 o.2.2.1 m5 m6 m7 m8 m9 m10 m11 m12 m13 M_kind m15 o.2.2.2.1 M_value m18 m19 m20 m21 ++ (wlP g ap u0 u1 u2 u3 o.2.2.2.2.1 u5 u6 u7 u8 u9 u10 u11 u12 u13 u14 u15 o.2.2.2.2.2.1 o.2.2.2.2.2.2.1 o.2.2.2.2.2.2.2 ++ t))))) (ih_3 : (∀ {w0 : Int32} {w1 : Int32} {w2 : Nat → Int32} {w3 : Int32} {w4 : Nat → Int32} {w5 : Nat → Int32} {w6 : Nat → Int32} {o : Int32 × Int32 × Int32 × (Nat → Int32) × Int32 × (Nat → Int32) × (Nat → Int32) × (Nat → Int32)} {t : va_W}, rec 3 0 0 (w0, w1, w2, w3, w4, w5, w6) = some o → Ct g mX11_isCompare (5 + D) 0 0 [.ref (am 0), .ref (ap 0)] (wlM g am pm m0 m1 m2 w0 w1 m5 m6 m7 m8 m9 m10 m11 m12 m13 M_kind m15 w2 M_value m18 m19 m20 m21 ++ (wlP g ap u0 u1 u2 u3 w3 u5 u6 u7 u8 u9 u10 u11 u12 u13 u14 u15 w4 w5 w6 ++ t)) (Dv (some (.int o.1)) (wlM g am pm m0 m1 m2 o.2.1 o.2.2.1 m5 m6 m7 m8 m9 m10 m11 m12 m13 M_kind m15 o.2.2.2.1 M_value m18 m19 m20 m21 ++ (wlP g ap u0 u1 u2 u3 o.2.2.2.2.1 u5 u6 u7 u8 u9 u10 u11 u12 u13 u14 u15 o.2.2.2.2.2.1 o.2.2.2.2.2.2.1 o.2.2.2.2.2.2.2 ++ t))))) (ih_4 : (∀ {w0 : Int32} {w1 : Int32} {w2 : Nat → Int32} {w3 : Int32} {w4 : Nat → Int32} {w5 : Nat → Int32} {w6 : Nat → Int32} {o : Int32 × Int32 × Int32 × (Nat → Int32) × Int32 × (Nat → Int32) × (Nat → Int32) × (Nat → Int32)} {t : va_W}, rec 4 0 0 (w0, w1, w2, w3, w4, w5, w6) = some o → Ct g mX11_isSum (5 + D) 0 0 [.ref (am 0), .ref (ap 0)] (wlM g am pm m0 m1 m2 w0 w1 m5 m6 m7 m8 m9 m10 m11 m12 m13 M_kind m15 w2 M_value m18 m19 m20 m21 ++ (wlP g ap u0 u1 u2 u3 w3 u5 u6 u7 u8 u9 u10 u11 u12 u13 u14 u15 w4 w5 w6 ++ t)) (Dv (some (.int o.1)) (wlM g am pm m0 m1 m2 o.2.1 o.2.2.1 m5 m6 m7 m8 m9 m10 m11 m12 m13 M_kind m15 o.2.2.2.1 M_value m18 m19 m20 m21 ++ (wlP g ap u0 u1 u2 u3 o.2.2.2.2.1 u5 u6 u7 u8 u9 u10 u11 u12 u13 u14 u15 o.2.2.2.2.2.1 o.2.2.2.2.2.2.1 o.2.2.2.2.2.2.2 ++ t))))) (ih_5 : (∀ {w0 : Int32} {w1 : Int32} {w2 : Nat → Int32} {w3 : Int32} {w4 : Nat → Int32} {w5 : Nat → Int32} {w6 : Nat → Int32} {o : Int32 × Int32 × Int32 × (Nat → Int32) × Int32 × (Nat → Int32) × (Nat → Int32) × (Nat → Int32)} {t : va_W}, rec 5 0 0 (w0, w1, w2, w3, w4, w5, w6) = some o → Ct g mX11_isProduct (5 + D) 0 0 [.ref (am 0), .ref (ap 0)] (wlM g am pm m0 m1 m2 w0 w1 m5 m6 m7 m8 m9 m10 m11 m12 m13 M_kind m15 w2 M_value m18 m19 m20 m21 ++ (wlP g ap u0 u1 u2 u3 w3 u5 u6 u7 u8 u9 u10 u11 u12 u13 u14 u15 w4 w5 w6 ++ t)) (Dv (some (.int o.1)) (wlM g am pm m0 m1 m2 o.2.1 o.2.2.1 m5 m6 m7 m8 m9 m10 m11 m12 m13 M_kind m15 o.2.2.2.1 M_value m18 m19 m20 m21 ++ (wlP g ap u0 u1 u2 u3 o.2.2.2.2.1 u5 u6 u7 u8 u9 u10 u11 u12 u13 u14 u15 o.2.2.2.2.2.1 o.2.2.2.2.2.2.1 o.2.2.2.2.2.2.2 ++ t))))) (ih_6 : (∀ {w0 : Int32} {w1 : Int32} {w2 : Nat → Int32} {w3 : Int32} {w4 : Nat → Int32} {w5 : Nat → Int32} {w6 : Nat → Int32} {o : Int32 × Int32 × Int32 × (Nat → Int32) × Int32 × (Nat → Int32) × (Nat → Int32) × (Nat → Int32)} {t : va_W}, rec 6 0 0 (w0, w1, w2, w3, w4, w5, w6) = some o → Ct g mX11_isValue (5 + D) 0 0 [.ref (am 0), .ref (ap 0)] (wlM g am pm m0 m1 m2 w0 w1 m5 m6 m7 m8 m9 m10 m11 m12 m13 M_kind m15 w2 M_value m18 m19 m20 m21 ++ (wlP g ap u0 u1 u2 u3 w3 u5 u6 u7 u8 u9 u10 u11 u12 u13 u14 u15 w4 w5 w6 ++ t)) (Dv (some (.int o.1)) (wlM g am pm m0 m1 m2 o.2.1 o.2.2.1 m5 m6 m7 m8 m9 m10 m11 m12 m13 M_kind m15 o.2.2.2.1 M_value m18 m19 m20 m21 ++ (wlP g ap u0 u1 u2 u3 o.2.2.2.2.1 u5 u6 u7 u8 u9 u10 u11 u12 u13 u14 u15 o.2.2.2.2.2.1 o.2.2.2.2.2.2.1 o.2.2.2.2.2.2.2 ++ t))))) (ih_7 : (∀ {w0 : Int32} {w1 : Int32} {w2 : Nat → Int32} {w3 : Int32} {w4 : Nat → Int32} {w5 : Nat → Int32} {w6 : Nat → Int32} {p2 : Int32} {o : Int32 × Int32 × Int32 × (Nat → Int32) × Int32 × (Nat → Int32) × (Nat → Int32) × (Nat → Int32)} {t : va_W}, rec 7 p2 0 (w0, w1, w2, w3, w4, w5, w6) = some o → Ct g mX11_isOfTwo (5 + D) 0 0 [.ref (am 0), .ref (ap 0), .int p2] (wlM g am pm m0 m1 m2 w0 w1 m5 m6 m7 m8 m9 m10 m11 m12 m13 M_kind m15 w2 M_value m18 m19 m20 m21 ++ (wlP g ap u0 u1 u2 u3 w3 u5 u6 u7 u8 u9 u10 u11 u12 u13 u14 u15 w4 w5 w6 ++ t)) (Dv (some (.int o.1)) (wlM g am pm m0 m1 m2 o.2.1 o.2.2.1 m5 m6 m7 m8 m9 m10 m11 m12 m13 M_kind m15 o.2.2.2.1 M_value m18 m19 m20 m21 ++ (wlP g ap u0 u1 u2 u3 o.2.2.2.2.1 u5 u6 u7 u8 u9 u10 u11 u12 u13 u14 u15 o.2.2.2.2.2.1 o.2.2.2.2.2.2.1 o.2.2.2.2.2.2.2 ++ t))))) {o : Int32 × Int32 × Int32 × (Nat → Int32) × Int32 × (Nat → Int32) × (Nat → Int32) × (Nat → Int32)} {Q : Rs → va_W → Prop} (h : f_M_isProduct N rec M_token M_depth M_kind M_means M_value P_many P_order P_with P_also = some o) (hq : Q (.inl (some (.int o.1))) (wlM g am pm m0 m1 m2 o.2.1 o.2.2.1 m5 m6 m7 m8 m9 m10 m11 m12 m13 M_kind m15 o.2.2.2.1 M_value m18 m19 m20 m21 ++ (wlP g ap u0 u1 u2 u3 o.2.2.2.2.1 u5 u6 u7 u8 u9 u10 u11 u12 u13 u14 u15 o.2.2.2.2.2.1 o.2.2.2.2.2.2.1 o.2.2.2.2.2.2.2 ++ t))) : R g mX11_isProduct (5 + (D + 1)) 0 0 0 [(0, .ref (am 0)), (1, .ref (ap 0))] [] (wlM g am pm m0 m1 m2 M_token M_depth m5 m6 m7 m8 m9 m10 m11 m12 m13 M_kind m15 M_means M_value m18 m19 m20 m21 ++ (wlP g ap u0 u1 u2 u3 P_many u5 u6 u7 u8 u9 u10 u11 u12 u13 u14 u15 P_order P_with P_also ++ t)) Q := by
  unfold f_M_isProduct at h
  refine r_aload_n 0 dX11_isProduct_0 rfl ?_
  refine r_aload_n 1 dX11_isProduct_1 rfl ?_
  obtain ⟨r1492, hc1493, h⟩ := ob (fun z9 => z9) rfl h
  refine c_V (rest := []) 0 0 _ dX11_isProduct_2 kv_X11_300 (ih_6 hc1493) rfl rfl lM_0 rfl (Nat.le_of_ble_eq_true rfl) (Nat.le_refl _) (by decide) ?_
  refine r_if_ne (tgt := 10) dX11_isProduct_5 (by decide) (fun hc1494 => ?_) (fun hc1494 => ?_)
  · have h := iq (fun z9 => z9) hc1494 h
    refine r_ls [0, 1] (ls2 := [(0, .ref (am 0)), (1, .ref (ap 0))]) rfl ?_
    have L1 : ∀ (n1 : Nat) (M_token_1 : Int32) (M_depth_1 : Int32) (M_means_1 : Nat → Int32) (P_many_1 : Int32) (P_order_1 : Nat → Int32) (P_with_1 : Nat → Int32) (P_also_1 : Nat → Int32), (fun z9 => z9) (lpS (f_M_isProduct_L10 M_kind rec) none n1 (M_token_1, M_depth_1, M_means_1, P_many_1, P_order_1, P_with_1, P_also_1)) = some o → R g mX11_isProduct (5 + (D + 1)) 0 0 10 [(0, .ref (am 0)), (1, .ref (ap 0))] [] (wlM g am pm m0 m1 m2 M_token_1 M_depth_1 m5 m6 m7 m8 m9 m10 m11 m12 m13 M_kind m15 M_means_1 M_value m18 m19 m20 m21 ++ (wlP g ap u0 u1 u2 u3 P_many_1 u5 u6 u7 u8 u9 u10 u11 u12 u13 u14 u15 P_order_1 P_with_1 P_also_1 ++ t)) Q := by
      intro n1
      induction n1 with
      | zero => intro M_token_1 M_depth_1 M_means_1 P_many_1 P_order_1 P_with_1 P_also_1 h; exact nomatch (show (none : Option _) = some _ from h)
      | succ n1 ih1 =>
        intro M_token_1 M_depth_1 M_means_1 P_many_1 P_order_1 P_with_1 P_also_1 h
        have h : (fun z9 => (lC (f_M_isProduct_L10 M_kind rec) none n1 z9)) (f_M_isProduct_L10 M_kind rec (M_token_1, M_depth_1, M_means_1, P_many_1, P_order_1, P_with_1, P_also_1)) = some o := h
        unfold f_M_isProduct_L10 at h
        try dsimp only at h
        refine r_aload_n 0 dX11_isProduct_10 rfl ?_
        refine r_getf (v := .ref (am 2)) _ dX11_isProduct_11 fl_X11_24 lM_0 rfl ?_
        refine r_aload_n 0 dX11_isProduct_14 rfl ?_
        refine r_getf (v := .int M_token_1) _ dX11_isProduct_15 fl_X11_252 lM_0 rfl ?_
        obtain ⟨hb1495, h⟩ := gd (fun z9 => (lC (f_M_isProduct_L10 M_kind rec) none n1 z9)) rfl h
        refine r_iald _ dX11_isProduct_18 lM_2 hb1495 ?_
        refine r_bipush (v := (42 : Int32)) dX11_isProduct_19 (by decide) ?_
        refine r_icmp_eq (tgt := 38) dX11_isProduct_21 (by decide) (fun hc1496 => ?_) (fun hc1496 => ?_)
        · have h := ip (fun z9 => (lC (f_M_isProduct_L10 M_kind rec) none n1 z9)) hc1496 h
          refine r_aload_n 0 dX11_isProduct_38 rfl ?_
          refine r_getf (v := .ref (am 2)) _ dX11_isProduct_39 fl_X11_24 lM_0 rfl ?_
          refine r_aload_n 0 dX11_isProduct_42 rfl ?_
          refine r_getf (v := .int M_token_1) _ dX11_isProduct_43 fl_X11_252 lM_0 rfl ?_
          obtain ⟨hb1497, h⟩ := gd (fun z9 => (lC (f_M_isProduct_L10 M_kind rec) none n1 z9)) rfl h
          refine r_iald _ dX11_isProduct_46 lM_2 hb1497 ?_
          refine r_bipush (v := (42 : Int32)) dX11_isProduct_47 (by decide) ?_
          refine r_icmp_ne (tgt := 57) dX11_isProduct_49 (by decide) (fun hc1498 => ?_) (fun hc1498 => ?_)
          · have h := iq (fun z9 => (lC (f_M_isProduct_L10 M_kind rec) none n1 z9)) hc1498 h
            refine r_bipush (v := (104 : Int32)) dX11_isProduct_57 (by decide) ?_
            refine r_istore_n [(2, .int (104 : Int32)), (0, .ref (am 0)), (1, .ref (ap 0))] dX11_isProduct_59 (by decide) rfl ?_
            refine r_aload_n 1 dX11_isProduct_60 rfl ?_
            refine r_dup dX11_isProduct_61 rfl ?_
            refine r_getf (v := .int M_token_1) _ dX11_isProduct_62 fl_X11_252 lM_0 rfl ?_
            refine r_iconst (v := (1 : Int32)) dX11_isProduct_65 (by decide) ?_
            refine r_iadd dX11_isProduct_66 ?_
            refine r_putf _ dX11_isProduct_67 fl_X11_252 lM_0 (Nat.le_of_ble_eq_true rfl) rfl rfl (sM_3 _) ?_
            refine r_aload_n 1 dX11_isProduct_70 rfl ?_
            refine r_aload_n 2 dX11_isProduct_71 rfl ?_
            obtain ⟨r1499, hc1500, h⟩ := ob (fun z9 => (lC (f_M_isProduct_L10 M_kind rec) none n1 z9)) rfl h
            refine c_V (rest := []) 0 0 _ dX11_isProduct_72 kv_X11_300 (ih_6 hc1500) rfl rfl lM_0 rfl (Nat.le_of_ble_eq_true rfl) (Nat.le_refl _) (by decide) ?_
            refine r_if_ne (tgt := 80) dX11_isProduct_75 (by decide) (fun hc1501 => ?_) (fun hc1501 => ?_)
            · have h := iq (fun z9 => (lC (f_M_isProduct_L10 M_kind rec) none n1 z9)) hc1501 h
              refine r_aload_n 1 dX11_isProduct_80 rfl ?_
              refine r_aload_n 2 dX11_isProduct_81 rfl ?_
              refine r_iload_n 0 dX11_isProduct_82 rfl ?_
              refine r_iconst (v := (0 : Int32)) dX11_isProduct_83 (by decide) ?_
              obtain ⟨r1502, hc1503, h⟩ := ob (fun z9 => (lC (f_M_isProduct_L10 M_kind rec) none n1 z9)) rfl h
              refine c_Vv (rest := []) 0 0 _ dX11_isProduct_84 kv_X11_267 (ct_M_put hc1503) rfl rfl lM_0 rfl (Nat.le_of_ble_eq_true rfl) (dl (by decide)) (by decide) ?_
              refine r_goto (tgt := 10) dX11_isProduct_87 (by decide) ?_
              refine r_ls [1, 2] (ls2 := [(0, .ref (am 0)), (1, .ref (ap 0))]) rfl ?_
              exact ih1 r1499.2.1 r1499.2.2.1 r1499.2.2.2.1 r1502.1 r1502.2.1 r1502.2.2 r1499.2.2.2.2.2.2.2 h
            · have h := ip (fun z9 => (lC (f_M_isProduct_L10 M_kind rec) none n1 z9)) hc1501 h
              refine r_iconst (v := (0 : Int32)) dX11_isProduct_78 (by decide) ?_
              refine r_zret dX11_isProduct_79 rfl (by decide) ?_
              have h := Option.some.inj (show some _ = some o from h)
              subst h
              exact hq
          · have h := ip (fun z9 => (lC (f_M_isProduct_L10 M_kind rec) none n1 z9)) hc1498 h
            refine r_bipush (v := (103 : Int32)) dX11_isProduct_52 (by decide) ?_
            refine r_goto (tgt := 59) dX11_isProduct_54 (by decide) ?_
            refine r_istore_n [(2, .int (103 : Int32)), (0, .ref (am 0)), (1, .ref (ap 0))] dX11_isProduct_59 (by decide) rfl ?_
            refine r_aload_n 1 dX11_isProduct_60 rfl ?_
            refine r_dup dX11_isProduct_61 rfl ?_
            refine r_getf (v := .int M_token_1) _ dX11_isProduct_62 fl_X11_252 lM_0 rfl ?_
            refine r_iconst (v := (1 : Int32)) dX11_isProduct_65 (by decide) ?_
            refine r_iadd dX11_isProduct_66 ?_
            refine r_putf _ dX11_isProduct_67 fl_X11_252 lM_0 (Nat.le_of_ble_eq_true rfl) rfl rfl (sM_3 _) ?_
            refine r_aload_n 1 dX11_isProduct_70 rfl ?_
            refine r_aload_n 2 dX11_isProduct_71 rfl ?_
            obtain ⟨r1504, hc1505, h⟩ := ob (fun z9 => (lC (f_M_isProduct_L10 M_kind rec) none n1 z9)) rfl h
            refine c_V (rest := []) 0 0 _ dX11_isProduct_72 kv_X11_300 (ih_6 hc1505) rfl rfl lM_0 rfl (Nat.le_of_ble_eq_true rfl) (Nat.le_refl _) (by decide) ?_
            refine r_if_ne (tgt := 80) dX11_isProduct_75 (by decide) (fun hc1506 => ?_) (fun hc1506 => ?_)
            · have h := iq (fun z9 => (lC (f_M_isProduct_L10 M_kind rec) none n1 z9)) hc1506 h
              refine r_aload_n 1 dX11_isProduct_80 rfl ?_
              refine r_aload_n 2 dX11_isProduct_81 rfl ?_
              refine r_iload_n 0 dX11_isProduct_82 rfl ?_
              refine r_iconst (v := (0 : Int32)) dX11_isProduct_83 (by decide) ?_
              obtain ⟨r1507, hc1508, h⟩ := ob (fun z9 => (lC (f_M_isProduct_L10 M_kind rec) none n1 z9)) rfl h
              refine c_Vv (rest := []) 0 0 _ dX11_isProduct_84 kv_X11_267 (ct_M_put hc1508) rfl rfl lM_0 rfl (Nat.le_of_ble_eq_true rfl) (dl (by decide)) (by decide) ?_
              refine r_goto (tgt := 10) dX11_isProduct_87 (by decide) ?_
              refine r_ls [1, 2] (ls2 := [(0, .ref (am 0)), (1, .ref (ap 0))]) rfl ?_
              exact ih1 r1504.2.1 r1504.2.2.1 r1504.2.2.2.1 r1507.1 r1507.2.1 r1507.2.2 r1504.2.2.2.2.2.2.2 h
            · have h := ip (fun z9 => (lC (f_M_isProduct_L10 M_kind rec) none n1 z9)) hc1506 h
              refine r_iconst (v := (0 : Int32)) dX11_isProduct_78 (by decide) ?_
              refine r_zret dX11_isProduct_79 rfl (by decide) ?_
              have h := Option.some.inj (show some _ = some o from h)
              subst h
              exact hq
        · have h := iq (fun z9 => (lC (f_M_isProduct_L10 M_kind rec) none n1 z9)) hc1496 h
          refine r_aload_n 0 dX11_isProduct_24 rfl ?_
          refine r_getf (v := .ref (am 2)) _ dX11_isProduct_25 fl_X11_24 lM_0 rfl ?_
          refine r_aload_n 0 dX11_isProduct_28 rfl ?_
          refine r_getf (v := .int M_token_1) _ dX11_isProduct_29 fl_X11_252 lM_0 rfl ?_
          obtain ⟨hb1509, h⟩ := gd (fun z9 => (lC (f_M_isProduct_L10 M_kind rec) none n1 z9)) rfl h
          refine r_iald _ dX11_isProduct_32 lM_2 hb1509 ?_
          refine r_bipush (v := (47 : Int32)) dX11_isProduct_33 (by decide) ?_
          refine r_icmp_ne (tgt := 90) dX11_isProduct_35 (by decide) (fun hc1510 => ?_) (fun hc1510 => ?_)
          · have h := iq (fun z9 => (lC (f_M_isProduct_L10 M_kind rec) none n1 z9)) hc1510 h
            refine r_iconst (v := (1 : Int32)) dX11_isProduct_90 (by decide) ?_
            refine r_zret dX11_isProduct_91 rfl (by decide) ?_
            have h := Option.some.inj (show some _ = some o from h)
            subst h
            exact hq
          · have h := ip (fun z9 => (lC (f_M_isProduct_L10 M_kind rec) none n1 z9)) hc1510 h
            refine r_aload_n 0 dX11_isProduct_38 rfl ?_
            refine r_getf (v := .ref (am 2)) _ dX11_isProduct_39 fl_X11_24 lM_0 rfl ?_
            refine r_aload_n 0 dX11_isProduct_42 rfl ?_
            refine r_getf (v := .int M_token_1) _ dX11_isProduct_43 fl_X11_252 lM_0 rfl ?_
            obtain ⟨hb1511, h⟩ := gd (fun z9 => (lC (f_M_isProduct_L10 M_kind rec) none n1 z9)) rfl h
            refine r_iald _ dX11_isProduct_46 lM_2 hb1511 ?_
            refine r_bipush (v := (42 : Int32)) dX11_isProduct_47 (by decide) ?_
            refine r_icmp_ne (tgt := 57) dX11_isProduct_49 (by decide) (fun hc1512 => ?_) (fun hc1512 => ?_)
            · have h := iq (fun z9 => (lC (f_M_isProduct_L10 M_kind rec) none n1 z9)) hc1512 h
              refine r_bipush (v := (104 : Int32)) dX11_isProduct_57 (by decide) ?_
              refine r_istore_n [(2, .int (104 : Int32)), (0, .ref (am 0)), (1, .ref (ap 0))] dX11_isProduct_59 (by decide) rfl ?_
              refine r_aload_n 1 dX11_isProduct_60 rfl ?_
              refine r_dup dX11_isProduct_61 rfl ?_
              refine r_getf (v := .int M_token_1) _ dX11_isProduct_62 fl_X11_252 lM_0 rfl ?_
              refine r_iconst (v := (1 : Int32)) dX11_isProduct_65 (by decide) ?_
              refine r_iadd dX11_isProduct_66 ?_
              refine r_putf _ dX11_isProduct_67 fl_X11_252 lM_0 (Nat.le_of_ble_eq_true rfl) rfl rfl (sM_3 _) ?_
              refine r_aload_n 1 dX11_isProduct_70 rfl ?_
              refine r_aload_n 2 dX11_isProduct_71 rfl ?_
              obtain ⟨r1513, hc1514, h⟩ := ob (fun z9 => (lC (f_M_isProduct_L10 M_kind rec) none n1 z9)) rfl h
              refine c_V (rest := []) 0 0 _ dX11_isProduct_72 kv_X11_300 (ih_6 hc1514) rfl rfl lM_0 rfl (Nat.le_of_ble_eq_true rfl) (Nat.le_refl _) (by decide) ?_
              refine r_if_ne (tgt := 80) dX11_isProduct_75 (by decide) (fun hc1515 => ?_) (fun hc1515 => ?_)
              · have h := iq (fun z9 => (lC (f_M_isProduct_L10 M_kind rec) none n1 z9)) hc1515 h
                refine r_aload_n 1 dX11_isProduct_80 rfl ?_
                refine r_aload_n 2 dX11_isProduct_81 rfl ?_
                refine r_iload_n 0 dX11_isProduct_82 rfl ?_
                refine r_iconst (v := (0 : Int32)) dX11_isProduct_83 (by decide) ?_
                obtain ⟨r1516, hc1517, h⟩ := ob (fun z9 => (lC (f_M_isProduct_L10 M_kind rec) none n1 z9)) rfl h
                refine c_Vv (rest := []) 0 0 _ dX11_isProduct_84 kv_X11_267 (ct_M_put hc1517) rfl rfl lM_0 rfl (Nat.le_of_ble_eq_true rfl) (dl (by decide)) (by decide) ?_
                refine r_goto (tgt := 10) dX11_isProduct_87 (by decide) ?_
                refine r_ls [1, 2] (ls2 := [(0, .ref (am 0)), (1, .ref (ap 0))]) rfl ?_
                exact ih1 r1513.2.1 r1513.2.2.1 r1513.2.2.2.1 r1516.1 r1516.2.1 r1516.2.2 r1513.2.2.2.2.2.2.2 h
              · have h := ip (fun z9 => (lC (f_M_isProduct_L10 M_kind rec) none n1 z9)) hc1515 h
                refine r_iconst (v := (0 : Int32)) dX11_isProduct_78 (by decide) ?_
                refine r_zret dX11_isProduct_79 rfl (by decide) ?_
                have h := Option.some.inj (show some _ = some o from h)
                subst h
                exact hq
            · have h := ip (fun z9 => (lC (f_M_isProduct_L10 M_kind rec) none n1 z9)) hc1512 h
              refine r_bipush (v := (103 : Int32)) dX11_isProduct_52 (by decide) ?_
              refine r_goto (tgt := 59) dX11_isProduct_54 (by decide) ?_
              refine r_istore_n [(2, .int (103 : Int32)), (0, .ref (am 0)), (1, .ref (ap 0))] dX11_isProduct_59 (by decide) rfl ?_
              refine r_aload_n 1 dX11_isProduct_60 rfl ?_
              refine r_dup dX11_isProduct_61 rfl ?_
              refine r_getf (v := .int M_token_1) _ dX11_isProduct_62 fl_X11_252 lM_0 rfl ?_
              refine r_iconst (v := (1 : Int32)) dX11_isProduct_65 (by decide) ?_
              refine r_iadd dX11_isProduct_66 ?_
              refine r_putf _ dX11_isProduct_67 fl_X11_252 lM_0 (Nat.le_of_ble_eq_true rfl) rfl rfl (sM_3 _) ?_
              refine r_aload_n 1 dX11_isProduct_70 rfl ?_
              refine r_aload_n 2 dX11_isProduct_71 rfl ?_
              obtain ⟨r1518, hc1519, h⟩ := ob (fun z9 => (lC (f_M_isProduct_L10 M_kind rec) none n1 z9)) rfl h
              refine c_V (rest := []) 0 0 _ dX11_isProduct_72 kv_X11_300 (ih_6 hc1519) rfl rfl lM_0 rfl (Nat.le_of_ble_eq_true rfl) (Nat.le_refl _) (by decide) ?_
              refine r_if_ne (tgt := 80) dX11_isProduct_75 (by decide) (fun hc1520 => ?_) (fun hc1520 => ?_)
              · have h := iq (fun z9 => (lC (f_M_isProduct_L10 M_kind rec) none n1 z9)) hc1520 h
                refine r_aload_n 1 dX11_isProduct_80 rfl ?_
                refine r_aload_n 2 dX11_isProduct_81 rfl ?_
                refine r_iload_n 0 dX11_isProduct_82 rfl ?_
                refine r_iconst (v := (0 : Int32)) dX11_isProduct_83 (by decide) ?_
                obtain ⟨r1521, hc1522, h⟩ := ob (fun z9 => (lC (f_M_isProduct_L10 M_kind rec) none n1 z9)) rfl h
                refine c_Vv (rest := []) 0 0 _ dX11_isProduct_84 kv_X11_267 (ct_M_put hc1522) rfl rfl lM_0 rfl (Nat.le_of_ble_eq_true rfl) (dl (by decide)) (by decide) ?_
                refine r_goto (tgt := 10) dX11_isProduct_87 (by decide) ?_
                refine r_ls [1, 2] (ls2 := [(0, .ref (am 0)), (1, .ref (ap 0))]) rfl ?_
                exact ih1 r1518.2.1 r1518.2.2.1 r1518.2.2.2.1 r1521.1 r1521.2.1 r1521.2.2 r1518.2.2.2.2.2.2.2 h
              · have h := ip (fun z9 => (lC (f_M_isProduct_L10 M_kind rec) none n1 z9)) hc1520 h
                refine r_iconst (v := (0 : Int32)) dX11_isProduct_78 (by decide) ?_
                refine r_zret dX11_isProduct_79 rfl (by decide) ?_
                have h := Option.some.inj (show some _ = some o from h)
                subst h
                exact hq
    exact L1 _ r1492.2.1 r1492.2.2.1 r1492.2.2.2.1 r1492.2.2.2.2.1 r1492.2.2.2.2.2.1 r1492.2.2.2.2.2.2.1 r1492.2.2.2.2.2.2.2 h
  · have h := ip (fun z9 => z9) hc1494 h
    refine r_iconst (v := (0 : Int32)) dX11_isProduct_8 (by decide) ?_
    refine r_zret dX11_isProduct_9 rfl (by decide) ?_
    have h := Option.some.inj (show some _ = some o from h)
    subst h
    exact hq
set_option maxRecDepth 20000 in
set_option maxHeartbeats 4000000 in
theorem rt_M_isValue {g : GG} {am : Nat → Nat} {ap : Nat → Nat} {pm : Nat} {t : va_W} {m0 m1 m2 m5 m6 m7 m8 m9 m10 m11 m12 u0 u1 u2 u3 : Int32} {m13 m15 m18 m19 m20 m21 u7 u8 u9 u10 u11 u12 u13 u14 u15 : Nat → Int32} {u5 u6 : Nat → Int64} {N : Nat} {M_token : Int32} {M_depth : Int32} {M_kind : Nat → Int32} {M_means : Nat → Int32} {M_value : Nat → Int64} {P_many : Int32} {P_order : Nat → Int32} {P_with : Nat → Int32} {P_also : Nat → Int32} {D : Nat} {rec : Nat → Int32 → Int32 → (Int32 × Int32 × (Nat → Int32) × Int32 × (Nat → Int32) × (Nat → Int32) × (Nat → Int32)) → Option (Int32 × Int32 × Int32 × (Nat → Int32) × Int32 × (Nat → Int32) × (Nat → Int32) × (Nat → Int32))} (ih_0 : (∀ {w0 : Int32} {w1 : Int32} {w2 : Nat → Int32} {w3 : Int32} {w4 : Nat → Int32} {w5 : Nat → Int32} {w6 : Nat → Int32} {o : Int32 × Int32 × Int32 × (Nat → Int32) × Int32 × (Nat → Int32) × (Nat → Int32) × (Nat → Int32)} {t : va_W}, rec 0 0 0 (w0, w1, w2, w3, w4, w5, w6) = some o → Ct g mX11_isTest (5 + D) 0 0 [.ref (am 0), .ref (ap 0)] (wlM g am pm m0 m1 m2 w0 w1 m5 m6 m7 m8 m9 m10 m11 m12 m13 M_kind m15 w2 M_value m18 m19 m20 m21 ++ (wlP g ap u0 u1 u2 u3 w3 u5 u6 u7 u8 u9 u10 u11 u12 u13 u14 u15 w4 w5 w6 ++ t)) (Dv (some (.int o.1)) (wlM g am pm m0 m1 m2 o.2.1 o.2.2.1 m5 m6 m7 m8 m9 m10 m11 m12 m13 M_kind m15 o.2.2.2.1 M_value m18 m19 m20 m21 ++ (wlP g ap u0 u1 u2 u3 o.2.2.2.2.1 u5 u6 u7 u8 u9 u10 u11 u12 u13 u14 u15 o.2.2.2.2.2.1 o.2.2.2.2.2.2.1 o.2.2.2.2.2.2.2 ++ t))))) (ih_1 : (∀ {w0 : Int32} {w1 : Int32} {w2 : Nat → Int32} {w3 : Int32} {w4 : Nat → Int32} {w5 : Nat → Int32} {w6 : Nat → Int32} {o : Int32 × Int32 × Int32 × (Nat → Int32) × Int32 × (Nat → Int32) × (Nat → Int32) × (Nat → Int32)} {t : va_W}, rec 1 0 0 (w0, w1, w2, w3, w4, w5, w6) = some o → Ct g mX11_isBoth (5 + D) 0 0 [.ref (am 0), .ref (ap 0)] (wlM g am pm m0 m1 m2 w0 w1 m5 m6 m7 m8 m9 m10 m11 m12 m13 M_kind m15 w2 M_value m18 m19 m20 m21 ++ (wlP g ap u0 u1 u2 u3 w3 u5 u6 u7 u8 u9 u10 u11 u12 u13 u14 u15 w4 w5 w6 ++ t)) (Dv (some (.int o.1)) (wlM g am pm m0 m1 m2 o.2.1 o.2.2.1 m5 m6 m7 m8 m9 m10 m11 m12 m13 M_kind m15 o.2.2.2.1 M_value m18 m19 m20 m21 ++ (wlP g ap u0 u1 u2 u3 o.2.2.2.2.1 u5 u6 u7 u8 u9 u10 u11 u12 u13 u14 u15 o.2.2.2.2.2.1 o.2.2.2.2.2.2.1 o.2.2.2.2.2.2.2 ++ t))))) (ih_2 : (∀ {w0 : Int32} {w1 : Int32} {w2 : Nat → Int32} {w3 : Int32} {w4 : Nat → Int32} {w5 : Nat → Int32} {w6 : Nat → Int32} {o : Int32 × Int32 × Int32 × (Nat → Int32) × Int32 × (Nat → Int32) × (Nat → Int32) × (Nat → Int32)} {t : va_W}, rec 2 0 0 (w0, w1, w2, w3, w4, w5, w6) = some o → Ct g mX11_isSingle (5 + D) 0 0 [.ref (am 0), .ref (ap 0)] (wlM g am pm m0 m1 m2 w0 w1 m5 m6 m7 m8 m9 m10 m11 m12 m13 M_kind m15 w2 M_value m18 m19 m20 m21 ++ (wlP g ap u0 u1 u2 u3 w3 u5 u6 u7 u8 u9 u10 u11 u12 u13 u14 u15 w4 w5 w6 ++ t)) (Dv (some (.int o.1)) (wlM g am pm m0 m1 m2 o.2.1 o.2.2.1 m5 m6 m7 m8 m9 m10 m11 m12 m13 M_kind m15 o.2.2.2.1 M_value m18 m19 m20 m21 ++ (wlP g ap u0 u1 u2 u3 o.2.2.2.2.1 u5 u6 u7 u8 u9 u10 u11 u12 u13 u14 u15 o.2.2.2.2.2.1 o.2.2.2.2.2.2.1 o.2.2.2.2.2.2.2 ++ t))))) (ih_3 : (∀ {w0 : Int32} {w1 : Int32} {w2 : Nat → Int32} {w3 : Int32} {w4 : Nat → Int32} {w5 : Nat → Int32} {w6 : Nat → Int32} {o : Int32 × Int32 × Int32 × (Nat → Int32) × Int32 × (Nat → Int32) × (Nat → Int32) × (Nat → Int32)} {t : va_W}, rec 3 0 0 (w0, w1, w2, w3, w4, w5, w6) = some o → Ct g mX11_isCompare (5 + D) 0 0 [.ref (am 0), .ref (ap 0)] (wlM g am pm m0 m1 m2 w0 w1 m5 m6 m7 m8 m9 m10 m11 m12 m13 M_kind m15 w2 M_value m18 m19 m20 m21 ++ (wlP g ap u0 u1 u2 u3 w3 u5 u6 u7 u8 u9 u10 u11 u12 u13 u14 u15 w4 w5 w6 ++ t)) (Dv (some (.int o.1)) (wlM g am pm m0 m1 m2 o.2.1 o.2.2.1 m5 m6 m7 m8 m9 m10 m11 m12 m13 M_kind m15 o.2.2.2.1 M_value m18 m19 m20 m21 ++ (wlP g ap u0 u1 u2 u3 o.2.2.2.2.1 u5 u6 u7 u8 u9 u10 u11 u12 u13 u14 u15 o.2.2.2.2.2.1 o.2.2.2.2.2.2.1 o.2.2.2.2.2.2.2 ++ t))))) (ih_4 : (∀ {w0 : Int32} {w1 : Int32} {w2 : Nat → Int32} {w3 : Int32} {w4 : Nat → Int32} {w5 : Nat → Int32} {w6 : Nat → Int32} {o : Int32 × Int32 × Int32 × (Nat → Int32) × Int32 × (Nat → Int32) × (Nat → Int32) × (Nat → Int32)} {t : va_W}, rec 4 0 0 (w0, w1, w2, w3, w4, w5, w6) = some o → Ct g mX11_isSum (5 + D) 0 0 [.ref (am 0), .ref (ap 0)] (wlM g am pm m0 m1 m2 w0 w1 m5 m6 m7 m8 m9 m10 m11 m12 m13 M_kind m15 w2 M_value m18 m19 m20 m21 ++ (wlP g ap u0 u1 u2 u3 w3 u5 u6 u7 u8 u9 u10 u11 u12 u13 u14 u15 w4 w5 w6 ++ t)) (Dv (some (.int o.1)) (wlM g am pm m0 m1 m2 o.2.1 o.2.2.1 m5 m6 m7 m8 m9 m10 m11 m12 m13 M_kind m15 o.2.2.2.1 M_value m18 m19 m20 m21 ++ (wlP g ap u0 u1 u2 u3 o.2.2.2.2.1 u5 u6 u7 u8 u9 u10 u11 u12 u13 u14 u15 o.2.2.2.2.2.1 o.2.2.2.2.2.2.1 o.2.2.2.2.2.2.2 ++ t))))) (ih_5 : (∀ {w0 : Int32} {w1 : Int32} {w2 : Nat → Int32} {w3 : Int32} {w4 : Nat → Int32} {w5 : Nat → Int32} {w6 : Nat → Int32} {o : Int32 × Int32 × Int32 × (Nat → Int32) × Int32 × (Nat → Int32) × (Nat → Int32) × (Nat → Int32)} {t : va_W}, rec 5 0 0 (w0, w1, w2, w3, w4, w5, w6) = some o → Ct g mX11_isProduct (5 + D) 0 0 [.ref (am 0), .ref (ap 0)] (wlM g am pm m0 m1 m2 w0 w1 m5 m6 m7 m8 m9 m10 m11 m12 m13 M_kind m15 w2 M_value m18 m19 m20 m21 ++ (wlP g ap u0 u1 u2 u3 w3 u5 u6 u7 u8 u9 u10 u11 u12 u13 u14 u15 w4 w5 w6 ++ t)) (Dv (some (.int o.1)) (wlM g am pm m0 m1 m2 o.2.1 o.2.2.1 m5 m6 m7 m8 m9 m10 m11 m12 m13 M_kind m15 o.2.2.2.1 M_value m18 m19 m20 m21 ++ (wlP g ap u0 u1 u2 u3 o.2.2.2.2.1 u5 u6 u7 u8 u9 u10 u11 u12 u13 u14 u15 o.2.2.2.2.2.1 o.2.2.2.2.2.2.1 o.2.2.2.2.2.2.2 ++ t))))) (ih_6 : (∀ {w0 : Int32} {w1 : Int32} {w2 : Nat → Int32} {w3 : Int32} {w4 : Nat → Int32} {w5 : Nat → Int32} {w6 : Nat → Int32} {o : Int32 × Int32 × Int32 × (Nat → Int32) × Int32 × (Nat → Int32) × (Nat → Int32) × (Nat → Int32)} {t : va_W}, rec 6 0 0 (w0, w1, w2, w3, w4, w5, w6) = some o → Ct g mX11_isValue (5 + D) 0 0 [.ref (am 0), .ref (ap 0)] (wlM g am pm m0 m1 m2 w0 w1 m5 m6 m7 m8 m9 m10 m11 m12 m13 M_kind m15 w2 M_value m18 m19 m20 m21 ++ (wlP g ap u0 u1 u2 u3 w3 u5 u6 u7 u8 u9 u10 u11 u12 u13 u14 u15 w4 w5 w6 ++ t)) (Dv (some (.int o.1)) (wlM g am pm m0 m1 m2 o.2.1 o.2.2.1 m5 m6 m7 m8 m9 m10 m11 m12 m13 M_kind m15 o.2.2.2.1 M_value m18 m19 m20 m21 ++ (wlP g ap u0 u1 u2 u3 o.2.2.2.2.1 u5 u6 u7 u8 u9 u10 u11 u12 u13 u14 u15 o.2.2.2.2.2.1 o.2.2.2.2.2.2.1 o.2.2.2.2.2.2.2 ++ t))))) (ih_7 : (∀ {w0 : Int32} {w1 : Int32} {w2 : Nat → Int32} {w3 : Int32} {w4 : Nat → Int32} {w5 : Nat → Int32} {w6 : Nat → Int32} {p2 : Int32} {o : Int32 × Int32 × Int32 × (Nat → Int32) × Int32 × (Nat → Int32) × (Nat → Int32) × (Nat → Int32)} {t : va_W}, rec 7 p2 0 (w0, w1, w2, w3, w4, w5, w6) = some o → Ct g mX11_isOfTwo (5 + D) 0 0 [.ref (am 0), .ref (ap 0), .int p2] (wlM g am pm m0 m1 m2 w0 w1 m5 m6 m7 m8 m9 m10 m11 m12 m13 M_kind m15 w2 M_value m18 m19 m20 m21 ++ (wlP g ap u0 u1 u2 u3 w3 u5 u6 u7 u8 u9 u10 u11 u12 u13 u14 u15 w4 w5 w6 ++ t)) (Dv (some (.int o.1)) (wlM g am pm m0 m1 m2 o.2.1 o.2.2.1 m5 m6 m7 m8 m9 m10 m11 m12 m13 M_kind m15 o.2.2.2.1 M_value m18 m19 m20 m21 ++ (wlP g ap u0 u1 u2 u3 o.2.2.2.2.1 u5 u6 u7 u8 u9 u10 u11 u12 u13 u14 u15 o.2.2.2.2.2.1 o.2.2.2.2.2.2.1 o.2.2.2.2.2.2.2 ++ t))))) {o : Int32 × Int32 × Int32 × (Nat → Int32) × Int32 × (Nat → Int32) × (Nat → Int32) × (Nat → Int32)} {Q : Rs → va_W → Prop} (h : f_M_isValue N rec M_token M_depth M_kind M_means M_value P_many P_order P_with P_also = some o) (hq : Q (.inl (some (.int o.1))) (wlM g am pm m0 m1 m2 o.2.1 o.2.2.1 m5 m6 m7 m8 m9 m10 m11 m12 m13 M_kind m15 o.2.2.2.1 M_value m18 m19 m20 m21 ++ (wlP g ap u0 u1 u2 u3 o.2.2.2.2.1 u5 u6 u7 u8 u9 u10 u11 u12 u13 u14 u15 o.2.2.2.2.2.1 o.2.2.2.2.2.2.1 o.2.2.2.2.2.2.2 ++ t))) : R g mX11_isValue (5 + (D + 1)) 0 0 0 [(0, .ref (am 0)), (1, .ref (ap 0))] [] (wlM g am pm m0 m1 m2 M_token M_depth m5 m6 m7 m8 m9 m10 m11 m12 m13 M_kind m15 M_means M_value m18 m19 m20 m21 ++ (wlP g ap u0 u1 u2 u3 P_many u5 u6 u7 u8 u9 u10 u11 u12 u13 u14 u15 P_order P_with P_also ++ t)) Q := by
  unfold f_M_isValue at h
  refine r_aload_n 0 dX11_isValue_0 rfl ?_
  refine r_getf (v := .ref (am 2)) _ dX11_isValue_1 fl_X11_24 lM_0 rfl ?_
  refine r_aload_n 0 dX11_isValue_4 rfl ?_
  refine r_getf (v := .int M_token) _ dX11_isValue_5 fl_X11_252 lM_0 rfl ?_
  obtain ⟨hb1523, h⟩ := gd (fun z9 => z9) rfl h
  refine r_iald _ dX11_isValue_8 lM_2 hb1523 ?_
  refine r_istore_n [(2, .int (M_kind M_token.toNatClampNeg)), (0, .ref (am 0)), (1, .ref (ap 0))] dX11_isValue_9 (by decide) rfl ?_
  refine r_iload_n 0 dX11_isValue_10 rfl ?_
  refine r_bipush (v := (45 : Int32)) dX11_isValue_11 (by decide) ?_
  refine r_icmp_ne (tgt := 55) dX11_isValue_13 (by decide) (fun hc1524 => ?_) (fun hc1524 => ?_)
  · have h := iq (fun z9 => z9) hc1524 h
    refine r_iload_n 0 dX11_isValue_55 rfl ?_
    refine r_bipush (v := (40 : Int32)) dX11_isValue_56 (by decide) ?_
    refine r_icmp_ne (tgt := 93) dX11_isValue_58 (by decide) (fun hc1525 => ?_) (fun hc1525 => ?_)
    · have h := iq (fun z9 => z9) hc1525 h
      refine r_iload_n 0 dX11_isValue_93 rfl ?_
      refine r_bipush (v := (23 : Int32)) dX11_isValue_94 (by decide) ?_
      refine r_icmp_eq (tgt := 105) dX11_isValue_96 (by decide) (fun hc1526 => ?_) (fun hc1526 => ?_)
      · have h := ip (fun z9 => z9) hc1526 h
        refine r_aload_n 1 dX11_isValue_105 rfl ?_
        refine r_aload_n 2 dX11_isValue_106 rfl ?_
        refine r_iload_n 0 dX11_isValue_107 rfl ?_
        obtain ⟨r1527, hc1528, h⟩ := ob (fun z9 => z9) rfl h
        refine c_V (rest := []) 0 0 _ dX11_isValue_108 kv_X11_303 (ih_7 hc1528) rfl rfl lM_0 rfl (Nat.le_of_ble_eq_true rfl) (Nat.le_refl _) (by decide) ?_
        obtain ⟨hb1529, h⟩ := gd (fun z9 => z9) rfl h
        refine r_zret dX11_isValue_111 rfl (zB_n hb1529) ?_
        have h := Option.some.inj (show some _ = some o from h)
        subst h
        exact hq
      · have h := iq (fun z9 => z9) hc1526 h
        refine r_iload_n 0 dX11_isValue_99 rfl ?_
        refine r_bipush (v := (24 : Int32)) dX11_isValue_100 (by decide) ?_
        refine r_icmp_ne (tgt := 112) dX11_isValue_102 (by decide) (fun hc1530 => ?_) (fun hc1530 => ?_)
        · have h := iq (fun z9 => z9) hc1530 h
          refine r_iload_n 0 dX11_isValue_112 rfl ?_
          refine r_bipush (v := (14 : Int32)) dX11_isValue_113 (by decide) ?_
          refine r_icmp_ne (tgt := 128) dX11_isValue_115 (by decide) (fun hc1531 => ?_) (fun hc1531 => ?_)
          · have h := iq (fun z9 => z9) hc1531 h
            refine r_iload_n 0 dX11_isValue_128 rfl ?_
            refine r_bipush (v := (15 : Int32)) dX11_isValue_129 (by decide) ?_
            refine r_icmp_ne (tgt := 144) dX11_isValue_131 (by decide) (fun hc1532 => ?_) (fun hc1532 => ?_)
            · have h := iq (fun z9 => z9) hc1532 h
              refine r_iload_n 0 dX11_isValue_144 rfl ?_
              refine r_bipush (v := (31 : Int32)) dX11_isValue_145 (by decide) ?_
              refine r_icmp_ne (tgt := 170) dX11_isValue_147 (by decide) (fun hc1533 => ?_) (fun hc1533 => ?_)
              · have h := iq (fun z9 => z9) hc1533 h
                refine r_iload_n 0 dX11_isValue_170 rfl ?_
                refine r_bipush (v := (10 : Int32)) dX11_isValue_171 (by decide) ?_
                refine r_bipush (v := (12 : Int32)) dX11_isValue_173 (by decide) ?_
                refine c_S (rest := []) 0 0 dX11_isValue_175 ks_X11_58 (ct_M_isIn rfl) rfl rfl (Nat.le_of_ble_eq_true rfl) (dl (by decide)) (by decide) ?_
                refine r_if_eq (tgt := 191) dX11_isValue_178 (by decide) (fun hc1534 => ?_) (fun hc1534 => ?_)
                · have h := ip (fun z9 => z9) hc1534 h
                  refine r_iconst (v := (0 : Int32)) dX11_isValue_191 (by decide) ?_
                  refine r_zret dX11_isValue_192 rfl (by decide) ?_
                  have h := Option.some.inj (show some _ = some o from h)
                  subst h
                  exact hq
                · have h := iq (fun z9 => z9) hc1534 h
                  refine r_aload_n 1 dX11_isValue_181 rfl ?_
                  refine r_aload_n 2 dX11_isValue_182 rfl ?_
                  refine r_iload_n 0 dX11_isValue_183 rfl ?_
                  refine r_iconst (v := (0 : Int32)) dX11_isValue_184 (by decide) ?_
                  obtain ⟨r1535, hc1536, h⟩ := ob (fun z9 => z9) rfl h
                  refine c_Vv (rest := []) 0 0 _ dX11_isValue_185 kv_X11_267 (ct_M_put hc1536) rfl rfl lM_0 rfl (Nat.le_of_ble_eq_true rfl) (dl (by decide)) (by decide) ?_
                  refine r_goto (tgt := 193) dX11_isValue_188 (by decide) ?_
                  refine r_aload_n 1 dX11_isValue_193 rfl ?_
                  refine r_dup dX11_isValue_194 rfl ?_
                  refine r_getf (v := .int M_token) _ dX11_isValue_195 fl_X11_252 lM_0 rfl ?_
                  refine r_iconst (v := (1 : Int32)) dX11_isValue_198 (by decide) ?_
                  refine r_iadd dX11_isValue_199 ?_
                  refine r_putf _ dX11_isValue_200 fl_X11_252 lM_0 (Nat.le_of_ble_eq_true rfl) rfl rfl (sM_3 _) ?_
                  refine r_iconst (v := (1 : Int32)) dX11_isValue_203 (by decide) ?_
                  refine r_zret dX11_isValue_204 rfl (by decide) ?_
                  have h := Option.some.inj (show some _ = some o from h)
                  subst h
                  exact hq
              · have h := ip (fun z9 => z9) hc1533 h
                refine r_aload_n 1 dX11_isValue_150 rfl ?_
                refine r_aload_n 2 dX11_isValue_151 rfl ?_
                refine r_bipush (v := (100 : Int32)) dX11_isValue_152 (by decide) ?_
                refine r_aload_n 1 dX11_isValue_154 rfl ?_
                refine r_getf (v := .ref (am 5)) _ dX11_isValue_155 fl_X11_33 lM_0 rfl ?_
                refine r_aload_n 1 dX11_isValue_158 rfl ?_
                refine r_getf (v := .int M_token) _ dX11_isValue_159 fl_X11_252 lM_0 rfl ?_
                obtain ⟨hb1537, h⟩ := gd (fun z9 => z9) rfl h
                refine r_lald _ dX11_isValue_162 lM_5 hb1537 ?_
                refine r_l2i dX11_isValue_163 ?_
                obtain ⟨r1538, hc1539, h⟩ := ob (fun z9 => z9) rfl h
                refine c_Vv (rest := []) 0 0 _ dX11_isValue_164 kv_X11_267 (ct_M_put hc1539) rfl rfl lM_0 rfl (Nat.le_of_ble_eq_true rfl) (dl (by decide)) (by decide) ?_
                refine r_goto (tgt := 193) dX11_isValue_167 (by decide) ?_
                refine r_aload_n 1 dX11_isValue_193 rfl ?_
                refine r_dup dX11_isValue_194 rfl ?_
                refine r_getf (v := .int M_token) _ dX11_isValue_195 fl_X11_252 lM_0 rfl ?_
                refine r_iconst (v := (1 : Int32)) dX11_isValue_198 (by decide) ?_
                refine r_iadd dX11_isValue_199 ?_
                refine r_putf _ dX11_isValue_200 fl_X11_252 lM_0 (Nat.le_of_ble_eq_true rfl) rfl rfl (sM_3 _) ?_
                refine r_iconst (v := (1 : Int32)) dX11_isValue_203 (by decide) ?_
                refine r_zret dX11_isValue_204 rfl (by decide) ?_
                have h := Option.some.inj (show some _ = some o from h)
                subst h
                exact hq
            · have h := ip (fun z9 => z9) hc1532 h
              refine r_aload_n 1 dX11_isValue_134 rfl ?_
              refine r_aload_n 2 dX11_isValue_135 rfl ?_
              refine r_iload_n 0 dX11_isValue_136 rfl ?_
              refine r_bipush (v := (11 : Int32)) dX11_isValue_137 (by decide) ?_
              refine r_iconst (v := (0 : Int32)) dX11_isValue_139 (by decide) ?_
              obtain ⟨r1540, hc1541, h⟩ := ob (fun z9 => z9) rfl h
              refine c_V (rest := []) 0 0 _ dX11_isValue_140 kv_X11_287 (ct_M_isAbout hc1541) rfl rfl lM_0 rfl (Nat.le_of_ble_eq_true rfl) (dl (by decide)) (by decide) ?_
              obtain ⟨hb1542, h⟩ := gd (fun z9 => z9) rfl h
              refine r_zret dX11_isValue_143 rfl (zB_n hb1542) ?_
              have h := Option.some.inj (show some _ = some o from h)
              subst h
              exact hq
          · have h := ip (fun z9 => z9) hc1531 h
            refine r_aload_n 1 dX11_isValue_118 rfl ?_
            refine r_aload_n 2 dX11_isValue_119 rfl ?_
            refine r_iload_n 0 dX11_isValue_120 rfl ?_
            refine r_bipush (v := (12 : Int32)) dX11_isValue_121 (by decide) ?_
            refine r_iconst (v := (0 : Int32)) dX11_isValue_123 (by decide) ?_
            obtain ⟨r1543, hc1544, h⟩ := ob (fun z9 => z9) rfl h
            refine c_V (rest := []) 0 0 _ dX11_isValue_124 kv_X11_287 (ct_M_isAbout hc1544) rfl rfl lM_0 rfl (Nat.le_of_ble_eq_true rfl) (dl (by decide)) (by decide) ?_
            obtain ⟨hb1545, h⟩ := gd (fun z9 => z9) rfl h
            refine r_zret dX11_isValue_127 rfl (zB_n hb1545) ?_
            have h := Option.some.inj (show some _ = some o from h)
            subst h
            exact hq
        · have h := ip (fun z9 => z9) hc1530 h
          refine r_aload_n 1 dX11_isValue_105 rfl ?_
          refine r_aload_n 2 dX11_isValue_106 rfl ?_
          refine r_iload_n 0 dX11_isValue_107 rfl ?_
          obtain ⟨r1546, hc1547, h⟩ := ob (fun z9 => z9) rfl h
          refine c_V (rest := []) 0 0 _ dX11_isValue_108 kv_X11_303 (ih_7 hc1547) rfl rfl lM_0 rfl (Nat.le_of_ble_eq_true rfl) (Nat.le_refl _) (by decide) ?_
          obtain ⟨hb1548, h⟩ := gd (fun z9 => z9) rfl h
          refine r_zret dX11_isValue_111 rfl (zB_n hb1548) ?_
          have h := Option.some.inj (show some _ = some o from h)
          subst h
          exact hq
    · have h := ip (fun z9 => z9) hc1525 h
      refine r_aload_n 1 dX11_isValue_61 rfl ?_
      refine r_bipush (v := (40 : Int32)) dX11_isValue_62 (by decide) ?_
      obtain ⟨r1549, hc1550, h⟩ := ob (fun z9 => z9) rfl h
      refine c_V (rest := []) 0 0 _ dX11_isValue_64 kv_X11_278 (ct_M_deeper hc1550) rfl rfl lM_0 rfl (Nat.le_of_ble_eq_true rfl) (dl (by decide)) (by decide) ?_
      refine r_if_eq (tgt := 91) dX11_isValue_67 (by decide) (fun hc1551 => ?_) (fun hc1551 => ?_)
      · have h := ip (fun z9 => z9) hc1551 h
        refine r_iconst (v := (0 : Int32)) dX11_isValue_91 (by decide) ?_
        refine r_zret dX11_isValue_92 rfl (by decide) ?_
        have h := Option.some.inj (show some _ = some o from h)
        subst h
        exact hq
      · have h := iq (fun z9 => z9) hc1551 h
        refine r_aload_n 1 dX11_isValue_70 rfl ?_
        refine r_aload_n 2 dX11_isValue_71 rfl ?_
        obtain ⟨r1552, hc1553, h⟩ := ob (fun z9 => z9) rfl h
        refine c_V (rest := []) 0 0 _ dX11_isValue_72 kv_X11_294 (ih_4 hc1553) rfl rfl lM_0 rfl (Nat.le_of_ble_eq_true rfl) (Nat.le_refl _) (by decide) ?_
        refine r_if_eq (tgt := 91) dX11_isValue_75 (by decide) (fun hc1554 => ?_) (fun hc1554 => ?_)
        · have h := ip (fun z9 => z9) hc1554 h
          refine r_iconst (v := (0 : Int32)) dX11_isValue_91 (by decide) ?_
          refine r_zret dX11_isValue_92 rfl (by decide) ?_
          have h := Option.some.inj (show some _ = some o from h)
          subst h
          exact hq
        · have h := iq (fun z9 => z9) hc1554 h
          refine r_aload_n 1 dX11_isValue_78 rfl ?_
          refine r_bipush (v := (41 : Int32)) dX11_isValue_79 (by decide) ?_
          obtain ⟨r1555, hc1556, h⟩ := ob (fun z9 => z9) rfl h
          refine c_V (rest := []) 0 0 _ dX11_isValue_81 kv_X11_284 (ct_M_closes hc1556) rfl rfl lM_0 rfl (Nat.le_of_ble_eq_true rfl) (dl (by decide)) (by decide) ?_
          refine r_if_eq (tgt := 91) dX11_isValue_84 (by decide) (fun hc1557 => ?_) (fun hc1557 => ?_)
          · have h := ip (fun z9 => z9) hc1557 h
            refine r_iconst (v := (0 : Int32)) dX11_isValue_91 (by decide) ?_
            refine r_zret dX11_isValue_92 rfl (by decide) ?_
            have h := Option.some.inj (show some _ = some o from h)
            subst h
            exact hq
          · have h := iq (fun z9 => z9) hc1557 h
            refine r_iconst (v := (1 : Int32)) dX11_isValue_87 (by decide) ?_
            refine r_goto (tgt := 92) dX11_isValue_88 (by decide) ?_
            refine r_zret dX11_isValue_92 rfl (by decide) ?_
            have h := Option.some.inj (show some _ = some o from h)
            subst h
            exact hq
  · have h := ip (fun z9 => z9) hc1524 h
    refine r_aload_n 1 dX11_isValue_16 rfl ?_
    refine r_bipush (v := (45 : Int32)) dX11_isValue_17 (by decide) ?_
    obtain ⟨r1558, hc1559, h⟩ := ob (fun z9 => z9) rfl h
    refine c_V (rest := []) 0 0 _ dX11_isValue_19 kv_X11_278 (ct_M_deeper hc1559) rfl rfl lM_0 rfl (Nat.le_of_ble_eq_true rfl) (dl (by decide)) (by decide) ?_
    refine r_if_eq (tgt := 33) dX11_isValue_22 (by decide) (fun hc1560 => ?_) (fun hc1560 => ?_)
    · have h := ip (fun z9 => z9) hc1560 h
      refine r_iconst (v := (0 : Int32)) dX11_isValue_33 (by decide) ?_
      refine r_zret dX11_isValue_34 rfl (by decide) ?_
      have h := Option.some.inj (show some _ = some o from h)
      subst h
      exact hq
    · have h := iq (fun z9 => z9) hc1560 h
      refine r_aload_n 1 dX11_isValue_25 rfl ?_
      refine r_aload_n 2 dX11_isValue_26 rfl ?_
      obtain ⟨r1561, hc1562, h⟩ := ob (fun z9 => z9) rfl h
      refine c_V (rest := []) 0 0 _ dX11_isValue_27 kv_X11_300 (ih_6 hc1562) rfl rfl lM_0 rfl (Nat.le_of_ble_eq_true rfl) (Nat.le_refl _) (by decide) ?_
      refine r_if_ne (tgt := 35) dX11_isValue_30 (by decide) (fun hc1563 => ?_) (fun hc1563 => ?_)
      · have h := iq (fun z9 => z9) hc1563 h
        refine r_aload_n 1 dX11_isValue_35 rfl ?_
        refine r_dup dX11_isValue_36 rfl ?_
        refine r_getf (v := .int r1561.2.2.1) _ dX11_isValue_37 fl_X11_258 lM_0 rfl ?_
        refine r_iconst (v := (1 : Int32)) dX11_isValue_40 (by decide) ?_
        refine r_isub dX11_isValue_41 ?_
        refine r_putf _ dX11_isValue_42 fl_X11_258 lM_0 (Nat.le_of_ble_eq_true rfl) rfl rfl (sM_4 _) ?_
        refine r_aload_n 1 dX11_isValue_45 rfl ?_
        refine r_aload_n 2 dX11_isValue_46 rfl ?_
        refine r_bipush (v := (105 : Int32)) dX11_isValue_47 (by decide) ?_
        refine r_iconst (v := (0 : Int32)) dX11_isValue_49 (by decide) ?_
        obtain ⟨r1564, hc1565, h⟩ := ob (fun z9 => z9) rfl h
        refine c_Vv (rest := []) 0 0 _ dX11_isValue_50 kv_X11_267 (ct_M_put hc1565) rfl rfl lM_0 rfl (Nat.le_of_ble_eq_true rfl) (dl (by decide)) (by decide) ?_
        refine r_iconst (v := (1 : Int32)) dX11_isValue_53 (by decide) ?_
        refine r_zret dX11_isValue_54 rfl (by decide) ?_
        have h := Option.some.inj (show some _ = some o from h)
        subst h
        exact hq
      · have h := ip (fun z9 => z9) hc1563 h
        refine r_iconst (v := (0 : Int32)) dX11_isValue_33 (by decide) ?_
        refine r_zret dX11_isValue_34 rfl (by decide) ?_
        have h := Option.some.inj (show some _ = some o from h)
        subst h
        exact hq
set_option maxRecDepth 20000 in
set_option maxHeartbeats 4000000 in
theorem rt_M_isOfTwo {g : GG} {am : Nat → Nat} {ap : Nat → Nat} {pm : Nat} {t : va_W} {m0 m1 m2 m5 m6 m7 m8 m9 m10 m11 m12 u0 u1 u2 u3 : Int32} {m13 m15 m18 m19 m20 m21 u7 u8 u9 u10 u11 u12 u13 u14 u15 : Nat → Int32} {u5 u6 : Nat → Int64} {N : Nat} {M_token : Int32} {M_depth : Int32} {M_kind : Nat → Int32} {M_means : Nat → Int32} {M_value : Nat → Int64} {P_many : Int32} {P_order : Nat → Int32} {P_with : Nat → Int32} {P_also : Nat → Int32} {p2 : Int32} {D : Nat} {rec : Nat → Int32 → Int32 → (Int32 × Int32 × (Nat → Int32) × Int32 × (Nat → Int32) × (Nat → Int32) × (Nat → Int32)) → Option (Int32 × Int32 × Int32 × (Nat → Int32) × Int32 × (Nat → Int32) × (Nat → Int32) × (Nat → Int32))} (ih_0 : (∀ {w0 : Int32} {w1 : Int32} {w2 : Nat → Int32} {w3 : Int32} {w4 : Nat → Int32} {w5 : Nat → Int32} {w6 : Nat → Int32} {o : Int32 × Int32 × Int32 × (Nat → Int32) × Int32 × (Nat → Int32) × (Nat → Int32) × (Nat → Int32)} {t : va_W}, rec 0 0 0 (w0, w1, w2, w3, w4, w5, w6) = some o → Ct g mX11_isTest (5 + D) 0 0 [.ref (am 0), .ref (ap 0)] (wlM g am pm m0 m1 m2 w0 w1 m5 m6 m7 m8 m9 m10 m11 m12 m13 M_kind m15 w2 M_value m18 m19 m20 m21 ++ (wlP g ap u0 u1 u2 u3 w3 u5 u6 u7 u8 u9 u10 u11 u12 u13 u14 u15 w4 w5 w6 ++ t)) (Dv (some (.int o.1)) (wlM g am pm m0 m1 m2 o.2.1 o.2.2.1 m5 m6 m7 m8 m9 m10 m11 m12 m13 M_kind m15 o.2.2.2.1 M_value m18 m19 m20 m21 ++ (wlP g ap u0 u1 u2 u3 o.2.2.2.2.1 u5 u6 u7 u8 u9 u10 u11 u12 u13 u14 u15 o.2.2.2.2.2.1 o.2.2.2.2.2.2.1 o.2.2.2.2.2.2.2 ++ t))))) (ih_1 : (∀ {w0 : Int32} {w1 : Int32} {w2 : Nat → Int32} {w3 : Int32} {w4 : Nat → Int32} {w5 : Nat → Int32} {w6 : Nat → Int32} {o : Int32 × Int32 × Int32 × (Nat → Int32) × Int32 × (Nat → Int32) × (Nat → Int32) × (Nat → Int32)} {t : va_W}, rec 1 0 0 (w0, w1, w2, w3, w4, w5, w6) = some o → Ct g mX11_isBoth (5 + D) 0 0 [.ref (am 0), .ref (ap 0)] (wlM g am pm m0 m1 m2 w0 w1 m5 m6 m7 m8 m9 m10 m11 m12 m13 M_kind m15 w2 M_value m18 m19 m20 m21 ++ (wlP g ap u0 u1 u2 u3 w3 u5 u6 u7 u8 u9 u10 u11 u12 u13 u14 u15 w4 w5 w6 ++ t)) (Dv (some (.int o.1)) (wlM g am pm m0 m1 m2 o.2.1 o.2.2.1 m5 m6 m7 m8 m9 m10 m11 m12 m13 M_kind m15 o.2.2.2.1 M_value m18 m19 m20 m21 ++ (wlP g ap u0 u1 u2 u3 o.2.2.2.2.1 u5 u6 u7 u8 u9 u10 u11 u12 u13 u14 u15 o.2.2.2.2.2.1 o.2.2.2.2.2.2.1 o.2.2.2.2.2.2.2 ++ t))))) (ih_2 : (∀ {w0 : Int32} {w1 : Int32} {w2 : Nat → Int32} {w3 : Int32} {w4 : Nat → Int32} {w5 : Nat → Int32} {w6 : Nat → Int32} {o : Int32 × Int32 × Int32 × (Nat → Int32) × Int32 × (Nat → Int32) × (Nat → Int32) × (Nat → Int32)} {t : va_W}, rec 2 0 0 (w0, w1, w2, w3, w4, w5, w6) = some o → Ct g mX11_isSingle (5 + D) 0 0 [.ref (am 0), .ref (ap 0)] (wlM g am pm m0 m1 m2 w0 w1 m5 m6 m7 m8 m9 m10 m11 m12 m13 M_kind m15 w2 M_value m18 m19 m20 m21 ++ (wlP g ap u0 u1 u2 u3 w3 u5 u6 u7 u8 u9 u10 u11 u12 u13 u14 u15 w4 w5 w6 ++ t)) (Dv (some (.int o.1)) (wlM g am pm m0 m1 m2 o.2.1 o.2.2.1 m5 m6 m7 m8 m9 m10 m11 m12 m13 M_kind m15 o.2.2.2.1 M_value m18 m19 m20 m21 ++ (wlP g ap u0 u1 u2 u3 o.2.2.2.2.1 u5 u6 u7 u8 u9 u10 u11 u12 u13 u14 u15 o.2.2.2.2.2.1 o.2.2.2.2.2.2.1 o.2.2.2.2.2.2.2 ++ t))))) (ih_3 : (∀ {w0 : Int32} {w1 : Int32} {w2 : Nat → Int32} {w3 : Int32} {w4 : Nat → Int32} {w5 : Nat → Int32} {w6 : Nat → Int32} {o : Int32 × Int32 × Int32 × (Nat → Int32) × Int32 × (Nat → Int32) × (Nat → Int32) × (Nat → Int32)} {t : va_W}, rec 3 0 0 (w0, w1, w2, w3, w4, w5, w6) = some o → Ct g mX11_isCompare (5 + D) 0 0 [.ref (am 0), .ref (ap 0)] (wlM g am pm m0 m1 m2 w0 w1 m5 m6 m7 m8 m9 m10 m11 m12 m13 M_kind m15 w2 M_value m18 m19 m20 m21 ++ (wlP g ap u0 u1 u2 u3 w3 u5 u6 u7 u8 u9 u10 u11 u12 u13 u14 u15 w4 w5 w6 ++ t)) (Dv (some (.int o.1)) (wlM g am pm m0 m1 m2 o.2.1 o.2.2.1 m5 m6 m7 m8 m9 m10 m11 m12 m13 M_kind m15 o.2.2.2.1 M_value m18 m19 m20 m21 ++ (wlP g ap u0 u1 u2 u3 o.2.2.2.2.1 u5 u6 u7 u8 u9 u10 u11 u12 u13 u14 u15 o.2.2.2.2.2.1 o.2.2.2.2.2.2.1 o.2.2.2.2.2.2.2 ++ t))))) (ih_4 : (∀ {w0 : Int32} {w1 : Int32} {w2 : Nat → Int32} {w3 : Int32} {w4 : Nat → Int32} {w5 : Nat → Int32} {w6 : Nat → Int32} {o : Int32 × Int32 × Int32 × (Nat → Int32) × Int32 × (Nat → Int32) × (Nat → Int32) × (Nat → Int32)} {t : va_W}, rec 4 0 0 (w0, w1, w2, w3, w4, w5, w6) = some o → Ct g mX11_isSum (5 + D) 0 0 [.ref (am 0), .ref (ap 0)] (wlM g am pm m0 m1 m2 w0 w1 m5 m6 m7 m8 m9 m10 m11 m12 m13 M_kind m15 w2 M_value m18 m19 m20 m21 ++ (wlP g ap u0 u1 u2 u3 w3 u5 u6 u7 u8 u9 u10 u11 u12 u13 u14 u15 w4 w5 w6 ++ t)) (Dv (some (.int o.1)) (wlM g am pm m0 m1 m2 o.2.1 o.2.2.1 m5 m6 m7 m8 m9 m10 m11 m12 m13 M_kind m15 o.2.2.2.1 M_value m18 m19 m20 m21 ++ (wlP g ap u0 u1 u2 u3 o.2.2.2.2.1 u5 u6 u7 u8 u9 u10 u11 u12 u13 u14 u15 o.2.2.2.2.2.1 o.2.2.2.2.2.2.1 o.2.2.2.2.2.2.2 ++ t))))) (ih_5 : (∀ {w0 : Int32} {w1 : Int32} {w2 : Nat → Int32} {w3 : Int32} {w4 : Nat → Int32} {w5 : Nat → Int32} {w6 : Nat → Int32} {o : Int32 × Int32 × Int32 × (Nat → Int32) × Int32 × (Nat → Int32) × (Nat → Int32) × (Nat → Int32)} {t : va_W}, rec 5 0 0 (w0, w1, w2, w3, w4, w5, w6) = some o → Ct g mX11_isProduct (5 + D) 0 0 [.ref (am 0), .ref (ap 0)] (wlM g am pm m0 m1 m2 w0 w1 m5 m6 m7 m8 m9 m10 m11 m12 m13 M_kind m15 w2 M_value m18 m19 m20 m21 ++ (wlP g ap u0 u1 u2 u3 w3 u5 u6 u7 u8 u9 u10 u11 u12 u13 u14 u15 w4 w5 w6 ++ t)) (Dv (some (.int o.1)) (wlM g am pm m0 m1 m2 o.2.1 o.2.2.1 m5 m6 m7 m8 m9 m10 m11 m12 m13 M_kind m15 o.2.2.2.1 M_value m18 m19 m20 m21 ++ (wlP g ap u0 u1 u2 u3 o.2.2.2.2.1 u5 u6 u7 u8 u9 u10 u11 u12 u13 u14 u15 o.2.2.2.2.2.1 o.2.2.2.2.2.2.1 o.2.2.2.2.2.2.2 ++ t))))) (ih_6 : (∀ {w0 : Int32} {w1 : Int32} {w2 : Nat → Int32} {w3 : Int32} {w4 : Nat → Int32} {w5 : Nat → Int32} {w6 : Nat → Int32} {o : Int32 × Int32 × Int32 × (Nat → Int32) × Int32 × (Nat → Int32) × (Nat → Int32) × (Nat → Int32)} {t : va_W}, rec 6 0 0 (w0, w1, w2, w3, w4, w5, w6) = some o → Ct g mX11_isValue (5 + D) 0 0 [.ref (am 0), .ref (ap 0)] (wlM g am pm m0 m1 m2 w0 w1 m5 m6 m7 m8 m9 m10 m11 m12 m13 M_kind m15 w2 M_value m18 m19 m20 m21 ++ (wlP g ap u0 u1 u2 u3 w3 u5 u6 u7 u8 u9 u10 u11 u12 u13 u14 u15 w4 w5 w6 ++ t)) (Dv (some (.int o.1)) (wlM g am pm m0 m1 m2 o.2.1 o.2.2.1 m5 m6 m7 m8 m9 m10 m11 m12 m13 M_kind m15 o.2.2.2.1 M_value m18 m19 m20 m21 ++ (wlP g ap u0 u1 u2 u3 o.2.2.2.2.1 u5 u6 u7 u8 u9 u10 u11 u12 u13 u14 u15 o.2.2.2.2.2.1 o.2.2.2.2.2.2.1 o.2.2.2.2.2.2.2 ++ t))))) (ih_7 : (∀ {w0 : Int32} {w1 : Int32} {w2 : Nat → Int32} {w3 : Int32} {w4 : Nat → Int32} {w5 : Nat → Int32} {w6 : Nat → Int32} {p2 : Int32} {o : Int32 × Int32 × Int32 × (Nat → Int32) × Int32 × (Nat → Int32) × (Nat → Int32) × (Nat → Int32)} {t : va_W}, rec 7 p2 0 (w0, w1, w2, w3, w4, w5, w6) = some o → Ct g mX11_isOfTwo (5 + D) 0 0 [.ref (am 0), .ref (ap 0), .int p2] (wlM g am pm m0 m1 m2 w0 w1 m5 m6 m7 m8 m9 m10 m11 m12 m13 M_kind m15 w2 M_value m18 m19 m20 m21 ++ (wlP g ap u0 u1 u2 u3 w3 u5 u6 u7 u8 u9 u10 u11 u12 u13 u14 u15 w4 w5 w6 ++ t)) (Dv (some (.int o.1)) (wlM g am pm m0 m1 m2 o.2.1 o.2.2.1 m5 m6 m7 m8 m9 m10 m11 m12 m13 M_kind m15 o.2.2.2.1 M_value m18 m19 m20 m21 ++ (wlP g ap u0 u1 u2 u3 o.2.2.2.2.1 u5 u6 u7 u8 u9 u10 u11 u12 u13 u14 u15 o.2.2.2.2.2.1 o.2.2.2.2.2.2.1 o.2.2.2.2.2.2.2 ++ t))))) {o : Int32 × Int32 × Int32 × (Nat → Int32) × Int32 × (Nat → Int32) × (Nat → Int32) × (Nat → Int32)} {Q : Rs → va_W → Prop} (h : f_M_isOfTwo N rec M_token M_depth M_kind M_means M_value P_many P_order P_with P_also p2 = some o) (hq : Q (.inl (some (.int o.1))) (wlM g am pm m0 m1 m2 o.2.1 o.2.2.1 m5 m6 m7 m8 m9 m10 m11 m12 m13 M_kind m15 o.2.2.2.1 M_value m18 m19 m20 m21 ++ (wlP g ap u0 u1 u2 u3 o.2.2.2.2.1 u5 u6 u7 u8 u9 u10 u11 u12 u13 u14 u15 o.2.2.2.2.2.1 o.2.2.2.2.2.2.1 o.2.2.2.2.2.2.2 ++ t))) : R g mX11_isOfTwo (5 + (D + 1)) 0 0 0 [(0, .ref (am 0)), (1, .ref (ap 0)), (2, .int p2)] [] (wlM g am pm m0 m1 m2 M_token M_depth m5 m6 m7 m8 m9 m10 m11 m12 m13 M_kind m15 M_means M_value m18 m19 m20 m21 ++ (wlP g ap u0 u1 u2 u3 P_many u5 u6 u7 u8 u9 u10 u11 u12 u13 u14 u15 P_order P_with P_also ++ t)) Q := by
  unfold f_M_isOfTwo at h
  refine r_aload_n 0 dX11_isOfTwo_0 rfl ?_
  refine r_dup dX11_isOfTwo_1 rfl ?_
  refine r_getf (v := .int M_token) _ dX11_isOfTwo_2 fl_X11_252 lM_0 rfl ?_
  refine r_iconst (v := (1 : Int32)) dX11_isOfTwo_5 (by decide) ?_
  refine r_iadd dX11_isOfTwo_6 ?_
  refine r_putf _ dX11_isOfTwo_7 fl_X11_252 lM_0 (Nat.le_of_ble_eq_true rfl) rfl rfl (sM_3 _) ?_
  refine r_aload_n 0 dX11_isOfTwo_10 rfl ?_
  refine r_bipush (v := (40 : Int32)) dX11_isOfTwo_11 (by decide) ?_
  obtain ⟨r1566, hc1567, h⟩ := ob (fun z9 => z9) rfl h
  refine c_V (rest := []) 0 0 _ dX11_isOfTwo_13 kv_X11_278 (ct_M_deeper hc1567) rfl rfl lM_0 rfl (Nat.le_of_ble_eq_true rfl) (dl (by decide)) (by decide) ?_
  refine r_if_eq (tgt := 53) dX11_isOfTwo_16 (by decide) (fun hc1568 => ?_) (fun hc1568 => ?_)
  · have h := ip (fun z9 => z9) hc1568 h
    refine r_iconst (v := (0 : Int32)) dX11_isOfTwo_53 (by decide) ?_
    refine r_zret dX11_isOfTwo_54 rfl (by decide) ?_
    have h := Option.some.inj (show some _ = some o from h)
    subst h
    exact hq
  · have h := iq (fun z9 => z9) hc1568 h
    refine r_aload_n 0 dX11_isOfTwo_19 rfl ?_
    refine r_aload_n 1 dX11_isOfTwo_20 rfl ?_
    obtain ⟨r1569, hc1570, h⟩ := ob (fun z9 => z9) rfl h
    refine c_V (rest := []) 0 0 _ dX11_isOfTwo_21 kv_X11_294 (ih_4 hc1570) rfl rfl lM_0 rfl (Nat.le_of_ble_eq_true rfl) (Nat.le_refl _) (by decide) ?_
    refine r_if_eq (tgt := 53) dX11_isOfTwo_24 (by decide) (fun hc1571 => ?_) (fun hc1571 => ?_)
    · have h := ip (fun z9 => z9) hc1571 h
      refine r_iconst (v := (0 : Int32)) dX11_isOfTwo_53 (by decide) ?_
      refine r_zret dX11_isOfTwo_54 rfl (by decide) ?_
      have h := Option.some.inj (show some _ = some o from h)
      subst h
      exact hq
    · have h := iq (fun z9 => z9) hc1571 h
      refine r_aload_n 0 dX11_isOfTwo_27 rfl ?_
      refine r_bipush (v := (44 : Int32)) dX11_isOfTwo_28 (by decide) ?_
      obtain ⟨r1572, hc1573, h⟩ := ob (fun z9 => z9) rfl h
      refine c_V (rest := []) 0 0 _ dX11_isOfTwo_30 kv_X11_255 (ct_M_eat hc1573) rfl rfl lM_0 rfl (Nat.le_of_ble_eq_true rfl) (dl (by decide)) (by decide) ?_
      refine r_if_eq (tgt := 53) dX11_isOfTwo_33 (by decide) (fun hc1574 => ?_) (fun hc1574 => ?_)
      · have h := ip (fun z9 => z9) hc1574 h
        refine r_iconst (v := (0 : Int32)) dX11_isOfTwo_53 (by decide) ?_
        refine r_zret dX11_isOfTwo_54 rfl (by decide) ?_
        have h := Option.some.inj (show some _ = some o from h)
        subst h
        exact hq
      · have h := iq (fun z9 => z9) hc1574 h
        refine r_aload_n 0 dX11_isOfTwo_36 rfl ?_
        refine r_aload_n 1 dX11_isOfTwo_37 rfl ?_
        obtain ⟨r1575, hc1576, h⟩ := ob (fun z9 => z9) rfl h
        refine c_V (rest := []) 0 0 _ dX11_isOfTwo_38 kv_X11_294 (ih_4 hc1576) rfl rfl lM_0 rfl (Nat.le_of_ble_eq_true rfl) (Nat.le_refl _) (by decide) ?_
        refine r_if_eq (tgt := 53) dX11_isOfTwo_41 (by decide) (fun hc1577 => ?_) (fun hc1577 => ?_)
        · have h := ip (fun z9 => z9) hc1577 h
          refine r_iconst (v := (0 : Int32)) dX11_isOfTwo_53 (by decide) ?_
          refine r_zret dX11_isOfTwo_54 rfl (by decide) ?_
          have h := Option.some.inj (show some _ = some o from h)
          subst h
          exact hq
        · have h := iq (fun z9 => z9) hc1577 h
          refine r_aload_n 0 dX11_isOfTwo_44 rfl ?_
          refine r_bipush (v := (41 : Int32)) dX11_isOfTwo_45 (by decide) ?_
          obtain ⟨r1578, hc1579, h⟩ := ob (fun z9 => z9) rfl h
          refine c_V (rest := []) 0 0 _ dX11_isOfTwo_47 kv_X11_284 (ct_M_closes hc1579) rfl rfl lM_0 rfl (Nat.le_of_ble_eq_true rfl) (dl (by decide)) (by decide) ?_
          refine r_if_ne (tgt := 55) dX11_isOfTwo_50 (by decide) (fun hc1580 => ?_) (fun hc1580 => ?_)
          · have h := iq (fun z9 => z9) hc1580 h
            refine r_aload_n 0 dX11_isOfTwo_55 rfl ?_
            refine r_aload_n 1 dX11_isOfTwo_56 rfl ?_
            refine r_iload_n 2 dX11_isOfTwo_57 rfl ?_
            refine r_iconst (v := (0 : Int32)) dX11_isOfTwo_58 (by decide) ?_
            obtain ⟨r1581, hc1582, h⟩ := ob (fun z9 => z9) rfl h
            refine c_Vv (rest := []) 0 0 _ dX11_isOfTwo_59 kv_X11_267 (ct_M_put hc1582) rfl rfl lM_0 rfl (Nat.le_of_ble_eq_true rfl) (dl (by decide)) (by decide) ?_
            refine r_iconst (v := (1 : Int32)) dX11_isOfTwo_62 (by decide) ?_
            refine r_zret dX11_isOfTwo_63 rfl (by decide) ?_
            have h := Option.some.inj (show some _ = some o from h)
            subst h
            exact hq
          · have h := ip (fun z9 => z9) hc1580 h
            refine r_iconst (v := (0 : Int32)) dX11_isOfTwo_53 (by decide) ?_
            refine r_zret dX11_isOfTwo_54 rfl (by decide) ?_
            have h := Option.some.inj (show some _ = some o from h)
            subst h
            exact hq
theorem ct_M_parse {g : GG} {am : Nat → Nat} {ap : Nat → Nat} {pm : Nat} {N : Nat} {m0 m1 m2 m5 m6 m7 m8 m9 m10 m11 m12 u0 u1 u2 u3 : Int32} {m13 m15 m18 m19 m20 m21 u7 u8 u9 u10 u11 u12 u13 u14 u15 : Nat → Int32} {u5 u6 : Nat → Int64} {M_kind : Nat → Int32} {M_value : Nat → Int64} : ∀ D : Nat, (∀ {w0 : Int32} {w1 : Int32} {w2 : Nat → Int32} {w3 : Int32} {w4 : Nat → Int32} {w5 : Nat → Int32} {w6 : Nat → Int32} {o : Int32 × Int32 × Int32 × (Nat → Int32) × Int32 × (Nat → Int32) × (Nat → Int32) × (Nat → Int32)} {t : va_W}, f_M_parse N M_kind M_value D 0 0 0 (w0, w1, w2, w3, w4, w5, w6) = some o → Ct g mX11_isTest (5 + D) 0 0 [.ref (am 0), .ref (ap 0)] (wlM g am pm m0 m1 m2 w0 w1 m5 m6 m7 m8 m9 m10 m11 m12 m13 M_kind m15 w2 M_value m18 m19 m20 m21 ++ (wlP g ap u0 u1 u2 u3 w3 u5 u6 u7 u8 u9 u10 u11 u12 u13 u14 u15 w4 w5 w6 ++ t)) (Dv (some (.int o.1)) (wlM g am pm m0 m1 m2 o.2.1 o.2.2.1 m5 m6 m7 m8 m9 m10 m11 m12 m13 M_kind m15 o.2.2.2.1 M_value m18 m19 m20 m21 ++ (wlP g ap u0 u1 u2 u3 o.2.2.2.2.1 u5 u6 u7 u8 u9 u10 u11 u12 u13 u14 u15 o.2.2.2.2.2.1 o.2.2.2.2.2.2.1 o.2.2.2.2.2.2.2 ++ t)))) ∧ (∀ {w0 : Int32} {w1 : Int32} {w2 : Nat → Int32} {w3 : Int32} {w4 : Nat → Int32} {w5 : Nat → Int32} {w6 : Nat → Int32} {o : Int32 × Int32 × Int32 × (Nat → Int32) × Int32 × (Nat → Int32) × (Nat → Int32) × (Nat → Int32)} {t : va_W}, f_M_parse N M_kind M_value D 1 0 0 (w0, w1, w2, w3, w4, w5, w6) = some o → Ct g mX11_isBoth (5 + D) 0 0 [.ref (am 0), .ref (ap 0)] (wlM g am pm m0 m1 m2 w0 w1 m5 m6 m7 m8 m9 m10 m11 m12 m13 M_kind m15 w2 M_value m18 m19 m20 m21 ++ (wlP g ap u0 u1 u2 u3 w3 u5 u6 u7 u8 u9 u10 u11 u12 u13 u14 u15 w4 w5 w6 ++ t)) (Dv (some (.int o.1)) (wlM g am pm m0 m1 m2 o.2.1 o.2.2.1 m5 m6 m7 m8 m9 m10 m11 m12 m13 M_kind m15 o.2.2.2.1 M_value m18 m19 m20 m21 ++ (wlP g ap u0 u1 u2 u3 o.2.2.2.2.1 u5 u6 u7 u8 u9 u10 u11 u12 u13 u14 u15 o.2.2.2.2.2.1 o.2.2.2.2.2.2.1 o.2.2.2.2.2.2.2 ++ t)))) ∧ (∀ {w0 : Int32} {w1 : Int32} {w2 : Nat → Int32} {w3 : Int32} {w4 : Nat → Int32} {w5 : Nat → Int32} {w6 : Nat → Int32} {o : Int32 × Int32 × Int32 × (Nat → Int32) × Int32 × (Nat → Int32) × (Nat → Int32) × (Nat → Int32)} {t : va_W}, f_M_parse N M_kind M_value D 2 0 0 (w0, w1, w2, w3, w4, w5, w6) = some o → Ct g mX11_isSingle (5 + D) 0 0 [.ref (am 0), .ref (ap 0)] (wlM g am pm m0 m1 m2 w0 w1 m5 m6 m7 m8 m9 m10 m11 m12 m13 M_kind m15 w2 M_value m18 m19 m20 m21 ++ (wlP g ap u0 u1 u2 u3 w3 u5 u6 u7 u8 u9 u10 u11 u12 u13 u14 u15 w4 w5 w6 ++ t)) (Dv (some (.int o.1)) (wlM g am pm m0 m1 m2 o.2.1 o.2.2.1 m5 m6 m7 m8 m9 m10 m11 m12 m13 M_kind m15 o.2.2.2.1 M_value m18 m19 m20 m21 ++ (wlP g ap u0 u1 u2 u3 o.2.2.2.2.1 u5 u6 u7 u8 u9 u10 u11 u12 u13 u14 u15 o.2.2.2.2.2.1 o.2.2.2.2.2.2.1 o.2.2.2.2.2.2.2 ++ t)))) ∧ (∀ {w0 : Int32} {w1 : Int32} {w2 : Nat → Int32} {w3 : Int32} {w4 : Nat → Int32} {w5 : Nat → Int32} {w6 : Nat → Int32} {o : Int32 × Int32 × Int32 × (Nat → Int32) × Int32 × (Nat → Int32) × (Nat → Int32) × (Nat → Int32)} {t : va_W}, f_M_parse N M_kind M_value D 3 0 0 (w0, w1, w2, w3, w4, w5, w6) = some o → Ct g mX11_isCompare (5 + D) 0 0 [.ref (am 0), .ref (ap 0)] (wlM g am pm m0 m1 m2 w0 w1 m5 m6 m7 m8 m9 m10 m11 m12 m13 M_kind m15 w2 M_value m18 m19 m20 m21 ++ (wlP g ap u0 u1 u2 u3 w3 u5 u6 u7 u8 u9 u10 u11 u12 u13 u14 u15 w4 w5 w6 ++ t)) (Dv (some (.int o.1)) (wlM g am pm m0 m1 m2 o.2.1 o.2.2.1 m5 m6 m7 m8 m9 m10 m11 m12 m13 M_kind m15 o.2.2.2.1 M_value m18 m19 m20 m21 ++ (wlP g ap u0 u1 u2 u3 o.2.2.2.2.1 u5 u6 u7 u8 u9 u10 u11 u12 u13 u14 u15 o.2.2.2.2.2.1 o.2.2.2.2.2.2.1 o.2.2.2.2.2.2.2 ++ t)))) ∧ (∀ {w0 : Int32} {w1 : Int32} {w2 : Nat → Int32} {w3 : Int32} {w4 : Nat → Int32} {w5 : Nat → Int32} {w6 : Nat → Int32} {o : Int32 × Int32 × Int32 × (Nat → Int32) × Int32 × (Nat → Int32) × (Nat → Int32) × (Nat → Int32)} {t : va_W}, f_M_parse N M_kind M_value D 4 0 0 (w0, w1, w2, w3, w4, w5, w6) = some o → Ct g mX11_isSum (5 + D) 0 0 [.ref (am 0), .ref (ap 0)] (wlM g am pm m0 m1 m2 w0 w1 m5 m6 m7 m8 m9 m10 m11 m12 m13 M_kind m15 w2 M_value m18 m19 m20 m21 ++ (wlP g ap u0 u1 u2 u3 w3 u5 u6 u7 u8 u9 u10 u11 u12 u13 u14 u15 w4 w5 w6 ++ t)) (Dv (some (.int o.1)) (wlM g am pm m0 m1 m2 o.2.1 o.2.2.1 m5 m6 m7 m8 m9 m10 m11 m12 m13 M_kind m15 o.2.2.2.1 M_value m18 m19 m20 m21 ++ (wlP g ap u0 u1 u2 u3 o.2.2.2.2.1 u5 u6 u7 u8 u9 u10 u11 u12 u13 u14 u15 o.2.2.2.2.2.1 o.2.2.2.2.2.2.1 o.2.2.2.2.2.2.2 ++ t)))) ∧ (∀ {w0 : Int32} {w1 : Int32} {w2 : Nat → Int32} {w3 : Int32} {w4 : Nat → Int32} {w5 : Nat → Int32} {w6 : Nat → Int32} {o : Int32 × Int32 × Int32 × (Nat → Int32) × Int32 × (Nat → Int32) × (Nat → Int32) × (Nat → Int32)} {t : va_W}, f_M_parse N M_kind M_value D 5 0 0 (w0, w1, w2, w3, w4, w5, w6) = some o → Ct g mX11_isProduct (5 + D) 0 0 [.ref (am 0), .ref (ap 0)] (wlM g am pm m0 m1 m2 w0 w1 m5 m6 m7 m8 m9 m10 m11 m12 m13 M_kind m15 w2 M_value m18 m19 m20 m21 ++ (wlP g ap u0 u1 u2 u3 w3 u5 u6 u7 u8 u9 u10 u11 u12 u13 u14 u15 w4 w5 w6 ++ t)) (Dv (some (.int o.1)) (wlM g am pm m0 m1 m2 o.2.1 o.2.2.1 m5 m6 m7 m8 m9 m10 m11 m12 m13 M_kind m15 o.2.2.2.1 M_value m18 m19 m20 m21 ++ (wlP g ap u0 u1 u2 u3 o.2.2.2.2.1 u5 u6 u7 u8 u9 u10 u11 u12 u13 u14 u15 o.2.2.2.2.2.1 o.2.2.2.2.2.2.1 o.2.2.2.2.2.2.2 ++ t)))) ∧ (∀ {w0 : Int32} {w1 : Int32} {w2 : Nat → Int32} {w3 : Int32} {w4 : Nat → Int32} {w5 : Nat → Int32} {w6 : Nat → Int32} {o : Int32 × Int32 × Int32 × (Nat → Int32) × Int32 × (Nat → Int32) × (Nat → Int32) × (Nat → Int32)} {t : va_W}, f_M_parse N M_kind M_value D 6 0 0 (w0, w1, w2, w3, w4, w5, w6) = some o → Ct g mX11_isValue (5 + D) 0 0 [.ref (am 0), .ref (ap 0)] (wlM g am pm m0 m1 m2 w0 w1 m5 m6 m7 m8 m9 m10 m11 m12 m13 M_kind m15 w2 M_value m18 m19 m20 m21 ++ (wlP g ap u0 u1 u2 u3 w3 u5 u6 u7 u8 u9 u10 u11 u12 u13 u14 u15 w4 w5 w6 ++ t)) (Dv (some (.int o.1)) (wlM g am pm m0 m1 m2 o.2.1 o.2.2.1 m5 m6 m7 m8 m9 m10 m11 m12 m13 M_kind m15 o.2.2.2.1 M_value m18 m19 m20 m21 ++ (wlP g ap u0 u1 u2 u3 o.2.2.2.2.1 u5 u6 u7 u8 u9 u10 u11 u12 u13 u14 u15 o.2.2.2.2.2.1 o.2.2.2.2.2.2.1 o.2.2.2.2.2.2.2 ++ t)))) ∧ (∀ {w0 : Int32} {w1 : Int32} {w2 : Nat → Int32} {w3 : Int32} {w4 : Nat → Int32} {w5 : Nat → Int32} {w6 : Nat → Int32} {p2 : Int32} {o : Int32 × Int32 × Int32 × (Nat → Int32) × Int32 × (Nat → Int32) × (Nat → Int32) × (Nat → Int32)} {t : va_W}, f_M_parse N M_kind M_value D 7 p2 0 (w0, w1, w2, w3, w4, w5, w6) = some o → Ct g mX11_isOfTwo (5 + D) 0 0 [.ref (am 0), .ref (ap 0), .int p2] (wlM g am pm m0 m1 m2 w0 w1 m5 m6 m7 m8 m9 m10 m11 m12 m13 M_kind m15 w2 M_value m18 m19 m20 m21 ++ (wlP g ap u0 u1 u2 u3 w3 u5 u6 u7 u8 u9 u10 u11 u12 u13 u14 u15 w4 w5 w6 ++ t)) (Dv (some (.int o.1)) (wlM g am pm m0 m1 m2 o.2.1 o.2.2.1 m5 m6 m7 m8 m9 m10 m11 m12 m13 M_kind m15 o.2.2.2.1 M_value m18 m19 m20 m21 ++ (wlP g ap u0 u1 u2 u3 o.2.2.2.2.1 u5 u6 u7 u8 u9 u10 u11 u12 u13 u14 u15 o.2.2.2.2.2.1 o.2.2.2.2.2.2.1 o.2.2.2.2.2.2.2 ++ t)))) := by
  intro D
  induction D with
  | zero => exact ⟨(fun h => nomatch (show (none : Option _) = some _ from h)), (fun h => nomatch (show (none : Option _) = some _ from h)), (fun h => nomatch (show (none : Option _) = some _ from h)), (fun h => nomatch (show (none : Option _) = some _ from h)), (fun h => nomatch (show (none : Option _) = some _ from h)), (fun h => nomatch (show (none : Option _) = some _ from h)), (fun h => nomatch (show (none : Option _) = some _ from h)), (fun h => nomatch (show (none : Option _) = some _ from h))⟩
  | succ D ih =>
    obtain ⟨i0, i1, i2, i3, i4, i5, i6, i7⟩ := ih
    exact ⟨(fun h => Ct.ofR (by decide +kernel) rfl (Nat.le_of_ble_eq_true rfl) (rt_M_isTest i0 i1 i2 i3 i4 i5 i6 i7 (show f_M_isTest N (f_M_parse N M_kind M_value D) _ _ M_kind _ M_value _ _ _ _ = some _ from h) ⟨rfl, rfl⟩)), (fun h => Ct.ofR (by decide +kernel) rfl (Nat.le_of_ble_eq_true rfl) (rt_M_isBoth i0 i1 i2 i3 i4 i5 i6 i7 (show f_M_isBoth N (f_M_parse N M_kind M_value D) _ _ M_kind _ M_value _ _ _ _ = some _ from h) ⟨rfl, rfl⟩)), (fun h => Ct.ofR (by decide +kernel) rfl (Nat.le_of_ble_eq_true rfl) (rt_M_isSingle i0 i1 i2 i3 i4 i5 i6 i7 (show f_M_isSingle N (f_M_parse N M_kind M_value D) _ _ M_kind _ M_value _ _ _ _ = some _ from h) ⟨rfl, rfl⟩)), (fun h => Ct.ofR (by decide +kernel) rfl (Nat.le_of_ble_eq_true rfl) (rt_M_isCompare i0 i1 i2 i3 i4 i5 i6 i7 (show f_M_isCompare N (f_M_parse N M_kind M_value D) _ _ M_kind _ M_value _ _ _ _ = some _ from h) ⟨rfl, rfl⟩)), (fun h => Ct.ofR (by decide +kernel) rfl (Nat.le_of_ble_eq_true rfl) (rt_M_isSum i0 i1 i2 i3 i4 i5 i6 i7 (show f_M_isSum N (f_M_parse N M_kind M_value D) _ _ M_kind _ M_value _ _ _ _ = some _ from h) ⟨rfl, rfl⟩)), (fun h => Ct.ofR (by decide +kernel) rfl (Nat.le_of_ble_eq_true rfl) (rt_M_isProduct i0 i1 i2 i3 i4 i5 i6 i7 (show f_M_isProduct N (f_M_parse N M_kind M_value D) _ _ M_kind _ M_value _ _ _ _ = some _ from h) ⟨rfl, rfl⟩)), (fun h => Ct.ofR (by decide +kernel) rfl (Nat.le_of_ble_eq_true rfl) (rt_M_isValue i0 i1 i2 i3 i4 i5 i6 i7 (show f_M_isValue N (f_M_parse N M_kind M_value D) _ _ M_kind _ M_value _ _ _ _ = some _ from h) ⟨rfl, rfl⟩)), (fun h => Ct.ofR (by decide +kernel) rfl (Nat.le_of_ble_eq_true rfl) (rt_M_isOfTwo i0 i1 i2 i3 i4 i5 i6 i7 (show f_M_isOfTwo N (f_M_parse N M_kind M_value D) _ _ M_kind _ M_value _ _ _ _ _ = some _ from h) ⟨rfl, rfl⟩))⟩
theorem ct_M_parse_0 {g : GG} {am : Nat → Nat} {ap : Nat → Nat} {pm : Nat} {N : Nat} {m0 m1 m2 m5 m6 m7 m8 m9 m10 m11 m12 u0 u1 u2 u3 : Int32} {m13 m15 m18 m19 m20 m21 u7 u8 u9 u10 u11 u12 u13 u14 u15 : Nat → Int32} {u5 u6 : Nat → Int64} {M_kind : Nat → Int32} {M_value : Nat → Int64} : ∀ {w0 : Int32} {w1 : Int32} {w2 : Nat → Int32} {w3 : Int32} {w4 : Nat → Int32} {w5 : Nat → Int32} {w6 : Nat → Int32} {o : Int32 × Int32 × Int32 × (Nat → Int32) × Int32 × (Nat → Int32) × (Nat → Int32) × (Nat → Int32)} {t : va_W}, f_M_parse N M_kind M_value 64 0 0 0 (w0, w1, w2, w3, w4, w5, w6) = some o → Ct g mX11_isTest (69) 0 0 [.ref (am 0), .ref (ap 0)] (wlM g am pm m0 m1 m2 w0 w1 m5 m6 m7 m8 m9 m10 m11 m12 m13 M_kind m15 w2 M_value m18 m19 m20 m21 ++ (wlP g ap u0 u1 u2 u3 w3 u5 u6 u7 u8 u9 u10 u11 u12 u13 u14 u15 w4 w5 w6 ++ t)) (Dv (some (.int o.1)) (wlM g am pm m0 m1 m2 o.2.1 o.2.2.1 m5 m6 m7 m8 m9 m10 m11 m12 m13 M_kind m15 o.2.2.2.1 M_value m18 m19 m20 m21 ++ (wlP g ap u0 u1 u2 u3 o.2.2.2.2.1 u5 u6 u7 u8 u9 u10 u11 u12 u13 u14 u15 o.2.2.2.2.2.1 o.2.2.2.2.2.2.1 o.2.2.2.2.2.2.2 ++ t))) := (ct_M_parse 64).1
theorem ct_M_parse_1 {g : GG} {am : Nat → Nat} {ap : Nat → Nat} {pm : Nat} {N : Nat} {m0 m1 m2 m5 m6 m7 m8 m9 m10 m11 m12 u0 u1 u2 u3 : Int32} {m13 m15 m18 m19 m20 m21 u7 u8 u9 u10 u11 u12 u13 u14 u15 : Nat → Int32} {u5 u6 : Nat → Int64} {M_kind : Nat → Int32} {M_value : Nat → Int64} : ∀ {w0 : Int32} {w1 : Int32} {w2 : Nat → Int32} {w3 : Int32} {w4 : Nat → Int32} {w5 : Nat → Int32} {w6 : Nat → Int32} {o : Int32 × Int32 × Int32 × (Nat → Int32) × Int32 × (Nat → Int32) × (Nat → Int32) × (Nat → Int32)} {t : va_W}, f_M_parse N M_kind M_value 64 1 0 0 (w0, w1, w2, w3, w4, w5, w6) = some o → Ct g mX11_isBoth (69) 0 0 [.ref (am 0), .ref (ap 0)] (wlM g am pm m0 m1 m2 w0 w1 m5 m6 m7 m8 m9 m10 m11 m12 m13 M_kind m15 w2 M_value m18 m19 m20 m21 ++ (wlP g ap u0 u1 u2 u3 w3 u5 u6 u7 u8 u9 u10 u11 u12 u13 u14 u15 w4 w5 w6 ++ t)) (Dv (some (.int o.1)) (wlM g am pm m0 m1 m2 o.2.1 o.2.2.1 m5 m6 m7 m8 m9 m10 m11 m12 m13 M_kind m15 o.2.2.2.1 M_value m18 m19 m20 m21 ++ (wlP g ap u0 u1 u2 u3 o.2.2.2.2.1 u5 u6 u7 u8 u9 u10 u11 u12 u13 u14 u15 o.2.2.2.2.2.1 o.2.2.2.2.2.2.1 o.2.2.2.2.2.2.2 ++ t))) := (ct_M_parse 64).2.1
theorem ct_M_parse_2 {g : GG} {am : Nat → Nat} {ap : Nat → Nat} {pm : Nat} {N : Nat} {m0 m1 m2 m5 m6 m7 m8 m9 m10 m11 m12 u0 u1 u2 u3 : Int32} {m13 m15 m18 m19 m20 m21 u7 u8 u9 u10 u11 u12 u13 u14 u15 : Nat → Int32} {u5 u6 : Nat → Int64} {M_kind : Nat → Int32} {M_value : Nat → Int64} : ∀ {w0 : Int32} {w1 : Int32} {w2 : Nat → Int32} {w3 : Int32} {w4 : Nat → Int32} {w5 : Nat → Int32} {w6 : Nat → Int32} {o : Int32 × Int32 × Int32 × (Nat → Int32) × Int32 × (Nat → Int32) × (Nat → Int32) × (Nat → Int32)} {t : va_W}, f_M_parse N M_kind M_value 64 2 0 0 (w0, w1, w2, w3, w4, w5, w6) = some o → Ct g mX11_isSingle (69) 0 0 [.ref (am 0), .ref (ap 0)] (wlM g am pm m0 m1 m2 w0 w1 m5 m6 m7 m8 m9 m10 m11 m12 m13 M_kind m15 w2 M_value m18 m19 m20 m21 ++ (wlP g ap u0 u1 u2 u3 w3 u5 u6 u7 u8 u9 u10 u11 u12 u13 u14 u15 w4 w5 w6 ++ t)) (Dv (some (.int o.1)) (wlM g am pm m0 m1 m2 o.2.1 o.2.2.1 m5 m6 m7 m8 m9 m10 m11 m12 m13 M_kind m15 o.2.2.2.1 M_value m18 m19 m20 m21 ++ (wlP g ap u0 u1 u2 u3 o.2.2.2.2.1 u5 u6 u7 u8 u9 u10 u11 u12 u13 u14 u15 o.2.2.2.2.2.1 o.2.2.2.2.2.2.1 o.2.2.2.2.2.2.2 ++ t))) := (ct_M_parse 64).2.2.1
theorem ct_M_parse_3 {g : GG} {am : Nat → Nat} {ap : Nat → Nat} {pm : Nat} {N : Nat} {m0 m1 m2 m5 m6 m7 m8 m9 m10 m11 m12 u0 u1 u2 u3 : Int32} {m13 m15 m18 m19 m20 m21 u7 u8 u9 u10 u11 u12 u13 u14 u15 : Nat → Int32} {u5 u6 : Nat → Int64} {M_kind : Nat → Int32} {M_value : Nat → Int64} : ∀ {w0 : Int32} {w1 : Int32} {w2 : Nat → Int32} {w3 : Int32} {w4 : Nat → Int32} {w5 : Nat → Int32} {w6 : Nat → Int32} {o : Int32 × Int32 × Int32 × (Nat → Int32) × Int32 × (Nat → Int32) × (Nat → Int32) × (Nat → Int32)} {t : va_W}, f_M_parse N M_kind M_value 64 3 0 0 (w0, w1, w2, w3, w4, w5, w6) = some o → Ct g mX11_isCompare (69) 0 0 [.ref (am 0), .ref (ap 0)] (wlM g am pm m0 m1 m2 w0 w1 m5 m6 m7 m8 m9 m10 m11 m12 m13 M_kind m15 w2 M_value m18 m19 m20 m21 ++ (wlP g ap u0 u1 u2 u3 w3 u5 u6 u7 u8 u9 u10 u11 u12 u13 u14 u15 w4 w5 w6 ++ t)) (Dv (some (.int o.1)) (wlM g am pm m0 m1 m2 o.2.1 o.2.2.1 m5 m6 m7 m8 m9 m10 m11 m12 m13 M_kind m15 o.2.2.2.1 M_value m18 m19 m20 m21 ++ (wlP g ap u0 u1 u2 u3 o.2.2.2.2.1 u5 u6 u7 u8 u9 u10 u11 u12 u13 u14 u15 o.2.2.2.2.2.1 o.2.2.2.2.2.2.1 o.2.2.2.2.2.2.2 ++ t))) := (ct_M_parse 64).2.2.2.1
theorem ct_M_parse_4 {g : GG} {am : Nat → Nat} {ap : Nat → Nat} {pm : Nat} {N : Nat} {m0 m1 m2 m5 m6 m7 m8 m9 m10 m11 m12 u0 u1 u2 u3 : Int32} {m13 m15 m18 m19 m20 m21 u7 u8 u9 u10 u11 u12 u13 u14 u15 : Nat → Int32} {u5 u6 : Nat → Int64} {M_kind : Nat → Int32} {M_value : Nat → Int64} : ∀ {w0 : Int32} {w1 : Int32} {w2 : Nat → Int32} {w3 : Int32} {w4 : Nat → Int32} {w5 : Nat → Int32} {w6 : Nat → Int32} {o : Int32 × Int32 × Int32 × (Nat → Int32) × Int32 × (Nat → Int32) × (Nat → Int32) × (Nat → Int32)} {t : va_W}, f_M_parse N M_kind M_value 64 4 0 0 (w0, w1, w2, w3, w4, w5, w6) = some o → Ct g mX11_isSum (69) 0 0 [.ref (am 0), .ref (ap 0)] (wlM g am pm m0 m1 m2 w0 w1 m5 m6 m7 m8 m9 m10 m11 m12 m13 M_kind m15 w2 M_value m18 m19 m20 m21 ++ (wlP g ap u0 u1 u2 u3 w3 u5 u6 u7 u8 u9 u10 u11 u12 u13 u14 u15 w4 w5 w6 ++ t)) (Dv (some (.int o.1)) (wlM g am pm m0 m1 m2 o.2.1 o.2.2.1 m5 m6 m7 m8 m9 m10 m11 m12 m13 M_kind m15 o.2.2.2.1 M_value m18 m19 m20 m21 ++ (wlP g ap u0 u1 u2 u3 o.2.2.2.2.1 u5 u6 u7 u8 u9 u10 u11 u12 u13 u14 u15 o.2.2.2.2.2.1 o.2.2.2.2.2.2.1 o.2.2.2.2.2.2.2 ++ t))) := (ct_M_parse 64).2.2.2.2.1
theorem ct_M_parse_5 {g : GG} {am : Nat → Nat} {ap : Nat → Nat} {pm : Nat} {N : Nat} {m0 m1 m2 m5 m6 m7 m8 m9 m10 m11 m12 u0 u1 u2 u3 : Int32} {m13 m15 m18 m19 m20 m21 u7 u8 u9 u10 u11 u12 u13 u14 u15 : Nat → Int32} {u5 u6 : Nat → Int64} {M_kind : Nat → Int32} {M_value : Nat → Int64} : ∀ {w0 : Int32} {w1 : Int32} {w2 : Nat → Int32} {w3 : Int32} {w4 : Nat → Int32} {w5 : Nat → Int32} {w6 : Nat → Int32} {o : Int32 × Int32 × Int32 × (Nat → Int32) × Int32 × (Nat → Int32) × (Nat → Int32) × (Nat → Int32)} {t : va_W}, f_M_parse N M_kind M_value 64 5 0 0 (w0, w1, w2, w3, w4, w5, w6) = some o → Ct g mX11_isProduct (69) 0 0 [.ref (am 0), .ref (ap 0)] (wlM g am pm m0 m1 m2 w0 w1 m5 m6 m7 m8 m9 m10 m11 m12 m13 M_kind m15 w2 M_value m18 m19 m20 m21 ++ (wlP g ap u0 u1 u2 u3 w3 u5 u6 u7 u8 u9 u10 u11 u12 u13 u14 u15 w4 w5 w6 ++ t)) (Dv (some (.int o.1)) (wlM g am pm m0 m1 m2 o.2.1 o.2.2.1 m5 m6 m7 m8 m9 m10 m11 m12 m13 M_kind m15 o.2.2.2.1 M_value m18 m19 m20 m21 ++ (wlP g ap u0 u1 u2 u3 o.2.2.2.2.1 u5 u6 u7 u8 u9 u10 u11 u12 u13 u14 u15 o.2.2.2.2.2.1 o.2.2.2.2.2.2.1 o.2.2.2.2.2.2.2 ++ t))) := (ct_M_parse 64).2.2.2.2.2.1
theorem ct_M_parse_6 {g : GG} {am : Nat → Nat} {ap : Nat → Nat} {pm : Nat} {N : Nat} {m0 m1 m2 m5 m6 m7 m8 m9 m10 m11 m12 u0 u1 u2 u3 : Int32} {m13 m15 m18 m19 m20 m21 u7 u8 u9 u10 u11 u12 u13 u14 u15 : Nat → Int32} {u5 u6 : Nat → Int64} {M_kind : Nat → Int32} {M_value : Nat → Int64} : ∀ {w0 : Int32} {w1 : Int32} {w2 : Nat → Int32} {w3 : Int32} {w4 : Nat → Int32} {w5 : Nat → Int32} {w6 : Nat → Int32} {o : Int32 × Int32 × Int32 × (Nat → Int32) × Int32 × (Nat → Int32) × (Nat → Int32) × (Nat → Int32)} {t : va_W}, f_M_parse N M_kind M_value 64 6 0 0 (w0, w1, w2, w3, w4, w5, w6) = some o → Ct g mX11_isValue (69) 0 0 [.ref (am 0), .ref (ap 0)] (wlM g am pm m0 m1 m2 w0 w1 m5 m6 m7 m8 m9 m10 m11 m12 m13 M_kind m15 w2 M_value m18 m19 m20 m21 ++ (wlP g ap u0 u1 u2 u3 w3 u5 u6 u7 u8 u9 u10 u11 u12 u13 u14 u15 w4 w5 w6 ++ t)) (Dv (some (.int o.1)) (wlM g am pm m0 m1 m2 o.2.1 o.2.2.1 m5 m6 m7 m8 m9 m10 m11 m12 m13 M_kind m15 o.2.2.2.1 M_value m18 m19 m20 m21 ++ (wlP g ap u0 u1 u2 u3 o.2.2.2.2.1 u5 u6 u7 u8 u9 u10 u11 u12 u13 u14 u15 o.2.2.2.2.2.1 o.2.2.2.2.2.2.1 o.2.2.2.2.2.2.2 ++ t))) := (ct_M_parse 64).2.2.2.2.2.2.1
theorem ct_M_parse_7 {g : GG} {am : Nat → Nat} {ap : Nat → Nat} {pm : Nat} {N : Nat} {m0 m1 m2 m5 m6 m7 m8 m9 m10 m11 m12 u0 u1 u2 u3 : Int32} {m13 m15 m18 m19 m20 m21 u7 u8 u9 u10 u11 u12 u13 u14 u15 : Nat → Int32} {u5 u6 : Nat → Int64} {M_kind : Nat → Int32} {M_value : Nat → Int64} : ∀ {w0 : Int32} {w1 : Int32} {w2 : Nat → Int32} {w3 : Int32} {w4 : Nat → Int32} {w5 : Nat → Int32} {w6 : Nat → Int32} {p2 : Int32} {o : Int32 × Int32 × Int32 × (Nat → Int32) × Int32 × (Nat → Int32) × (Nat → Int32) × (Nat → Int32)} {t : va_W}, f_M_parse N M_kind M_value 64 7 p2 0 (w0, w1, w2, w3, w4, w5, w6) = some o → Ct g mX11_isOfTwo (69) 0 0 [.ref (am 0), .ref (ap 0), .int p2] (wlM g am pm m0 m1 m2 w0 w1 m5 m6 m7 m8 m9 m10 m11 m12 m13 M_kind m15 w2 M_value m18 m19 m20 m21 ++ (wlP g ap u0 u1 u2 u3 w3 u5 u6 u7 u8 u9 u10 u11 u12 u13 u14 u15 w4 w5 w6 ++ t)) (Dv (some (.int o.1)) (wlM g am pm m0 m1 m2 o.2.1 o.2.2.1 m5 m6 m7 m8 m9 m10 m11 m12 m13 M_kind m15 o.2.2.2.1 M_value m18 m19 m20 m21 ++ (wlP g ap u0 u1 u2 u3 o.2.2.2.2.1 u5 u6 u7 u8 u9 u10 u11 u12 u13 u14 u15 o.2.2.2.2.2.1 o.2.2.2.2.2.2.1 o.2.2.2.2.2.2.2 ++ t))) := (ct_M_parse 64).2.2.2.2.2.2.2
