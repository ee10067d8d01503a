set_option maxRecDepth 20000 in
set_option maxHeartbeats 4000000 in
theorem rt_M_isTold {g : GG} {am : Nat → Nat} {pm : Nat} {t : va_W} {m0 m1 m2 m4 m5 m6 m7 m8 m9 m10 m11 m12 : Int32} {m13 m15 m18 m19 m20 m21 : Nat → Int32} {m17 : Nat → Int64} {M_token : Int32} {M_kind : Nat → Int32} {M_means : Nat → Int32} {o : Int32 × Int32 × (Nat → Int32)} {Q : Rs → va_W → Prop} (h : f_M_isTold M_token M_kind M_means = some o) (hq : Q (.inl (some (.int o.1))) (wlM g am pm m0 m1 m2 o.2.1 m4 m5 m6 m7 m8 m9 m10 m11 m12 m13 M_kind m15 o.2.2 m17 m18 m19 m20 m21 ++ t)) : R g mX11_isTold 3 0 0 0 [(0, .ref (am 0))] [] (wlM g am pm m0 m1 m2 M_token m4 m5 m6 m7 m8 m9 m10 m11 m12 m13 M_kind m15 M_means m17 m18 m19 m20 m21 ++ t) Q := by
  unfold f_M_isTold at h
  refine r_aload_n 0 dX11_isTold_0 rfl ?_
  refine r_getf (v := .ref (am 4)) _ dX11_isTold_1 fl_X11_30 lM_0 rfl ?_
  refine r_aload_n 0 dX11_isTold_4 rfl ?_
  refine r_getf (v := .int M_token) _ dX11_isTold_5 fl_X11_252 lM_0 rfl ?_
  refine r_iconst (v := (3 : Int32)) dX11_isTold_8 (by decide) ?_
  obtain ⟨hb1901, h⟩ := gd (fun z9 => z9) rfl h
  refine r_iast _ dX11_isTold_9 lM_4 hb1901 (sM_16 _) ?_
  refine r_aload_n 0 dX11_isTold_10 rfl ?_
  refine r_dup dX11_isTold_11 rfl ?_
  refine r_getf (v := .int M_token) _ dX11_isTold_12 fl_X11_252 lM_0 rfl ?_
  refine r_iconst (v := (1 : Int32)) dX11_isTold_15 (by decide) ?_
  refine r_iadd dX11_isTold_16 ?_
  refine r_putf _ dX11_isTold_17 fl_X11_252 lM_0 (Nat.le_of_ble_eq_true rfl) rfl rfl (sM_3 _) ?_
  refine r_aload_n 0 dX11_isTold_20 rfl ?_
  refine r_bipush (v := (30 : Int32)) dX11_isTold_21 (by decide) ?_
  refine r_iconst (v := (4 : Int32)) dX11_isTold_23 (by decide) ?_
  obtain ⟨r1902, hc1903, h⟩ := ob (fun z9 => z9) rfl h
  refine c_V (rest := []) 0 0 _ dX11_isTold_24 kv_X11_264 (ct_M_eatAs hc1903) rfl rfl lM_0 rfl (Nat.le_of_ble_eq_true rfl) (by decide) (by decide) ?_
  refine r_if_eq (tgt := 40) dX11_isTold_27 (by decide) (fun hc1904 => ?_) (fun hc1904 => ?_)
  · have h := ip (fun z9 => z9) hc1904 h
    refine r_iconst (v := (0 : Int32)) dX11_isTold_40 (by decide) ?_
    refine r_zret dX11_isTold_41 rfl (by decide) ?_
    have h := Option.some.inj (show some _ = some o from h)
    subst h
    exact hq
  · have h := iq (fun z9 => z9) hc1904 h
    refine r_aload_n 0 dX11_isTold_30 rfl ?_
    refine r_bipush (v := (30 : Int32)) dX11_isTold_31 (by decide) ?_
    refine r_iconst (v := (5 : Int32)) dX11_isTold_33 (by decide) ?_
    obtain ⟨r1905, hc1906, h⟩ := ob (fun z9 => z9) rfl h
    refine c_V (rest := []) 0 0 _ dX11_isTold_34 kv_X11_264 (ct_M_eatAs hc1906) rfl rfl lM_0 rfl (Nat.le_of_ble_eq_true rfl) (by decide) (by decide) ?_
    refine r_if_ne (tgt := 42) dX11_isTold_37 (by decide) (fun hc1907 => ?_) (fun hc1907 => ?_)
    · have h := iq (fun z9 => z9) hc1907 h
      refine r_aload_n 0 dX11_isTold_42 rfl ?_
      refine r_iconst (v := (5 : Int32)) dX11_isTold_43 (by decide) ?_
      obtain ⟨r1908, hc1909, h⟩ := ob (fun z9 => z9) rfl h
      refine c_V (rest := []) 0 0 _ dX11_isTold_44 kv_X11_255 (ct_M_eat hc1909) rfl rfl lM_0 rfl (Nat.le_of_ble_eq_true rfl) (by decide) (by decide) ?_
      refine r_if_ne (tgt := 59) dX11_isTold_47 (by decide) (fun hc1910 => ?_) (fun hc1910 => ?_)
      · have h := iq (fun z9 => z9) hc1910 h
        refine r_aload_n 0 dX11_isTold_59 rfl ?_
        refine r_bipush (v := (30 : Int32)) dX11_isTold_60 (by decide) ?_
        refine r_bipush (v := (6 : Int32)) dX11_isTold_62 (by decide) ?_
        obtain ⟨r1911, hc1912, h⟩ := ob (fun z9 => z9) rfl h
        refine c_V (rest := []) 0 0 _ dX11_isTold_64 kv_X11_264 (ct_M_eatAs hc1912) rfl rfl lM_0 rfl (Nat.le_of_ble_eq_true rfl) (by decide) (by decide) ?_
        obtain ⟨hb1913, h⟩ := gd (fun z9 => z9) rfl h
        refine r_zret dX11_isTold_67 rfl (zB_n hb1913) ?_
        have h := Option.some.inj (show some _ = some o from h)
        subst h
        exact hq
      · have h := ip (fun z9 => z9) hc1910 h
        refine r_aload_n 0 dX11_isTold_50 rfl ?_
        refine r_bipush (v := (6 : Int32)) dX11_isTold_51 (by decide) ?_
        obtain ⟨r1914, hc1915, h⟩ := ob (fun z9 => z9) rfl h
        refine c_V (rest := []) 0 0 _ dX11_isTold_53 kv_X11_255 (ct_M_eat hc1915) rfl rfl lM_0 rfl (Nat.le_of_ble_eq_true rfl) (by decide) (by decide) ?_
        refine r_if_eq (tgt := 68) dX11_isTold_56 (by decide) (fun hc1916 => ?_) (fun hc1916 => ?_)
        · have h := ip (fun z9 => z9) hc1916 h
          refine r_aload_n 0 dX11_isTold_68 rfl ?_
          refine r_iconst (v := (3 : Int32)) dX11_isTold_69 (by decide) ?_
          obtain ⟨r1917, hc1918, h⟩ := ob (fun z9 => z9) rfl h
          refine c_V (rest := []) 0 0 _ dX11_isTold_70 kv_X11_255 (ct_M_eat hc1918) rfl rfl lM_0 rfl (Nat.le_of_ble_eq_true rfl) (by decide) (by decide) ?_
          refine r_if_eq (tgt := 110) dX11_isTold_73 (by decide) (fun hc1919 => ?_) (fun hc1919 => ?_)
          · have h := ip (fun z9 => z9) hc1919 h
            refine r_iconst (v := (0 : Int32)) dX11_isTold_110 (by decide) ?_
            refine r_zret dX11_isTold_111 rfl (by decide) ?_
            have h := Option.some.inj (show some _ = some o from h)
            subst h
            exact hq
          · have h := iq (fun z9 => z9) hc1919 h
            refine r_aload_n 0 dX11_isTold_76 rfl ?_
            refine r_bipush (v := (31 : Int32)) dX11_isTold_77 (by decide) ?_
            refine r_bipush (v := (7 : Int32)) dX11_isTold_79 (by decide) ?_
            obtain ⟨r1920, hc1921, h⟩ := ob (fun z9 => z9) rfl h
            refine c_V (rest := []) 0 0 _ dX11_isTold_81 kv_X11_264 (ct_M_eatAs hc1921) rfl rfl lM_0 rfl (Nat.le_of_ble_eq_true rfl) (by decide) (by decide) ?_
            refine r_if_eq (tgt := 110) dX11_isTold_84 (by decide) (fun hc1922 => ?_) (fun hc1922 => ?_)
            · have h := ip (fun z9 => z9) hc1922 h
              refine r_iconst (v := (0 : Int32)) dX11_isTold_110 (by decide) ?_
              refine r_zret dX11_isTold_111 rfl (by decide) ?_
              have h := Option.some.inj (show some _ = some o from h)
              subst h
              exact hq
            · have h := iq (fun z9 => z9) hc1922 h
              refine r_aload_n 0 dX11_isTold_87 rfl ?_
              refine r_iconst (v := (4 : Int32)) dX11_isTold_88 (by decide) ?_
              obtain ⟨r1923, hc1924, h⟩ := ob (fun z9 => z9) rfl h
              refine c_V (rest := []) 0 0 _ dX11_isTold_89 kv_X11_255 (ct_M_eat hc1924) rfl rfl lM_0 rfl (Nat.le_of_ble_eq_true rfl) (by decide) (by decide) ?_
              refine r_if_eq (tgt := 106) dX11_isTold_92 (by decide) (fun hc1925 => ?_) (fun hc1925 => ?_)
              · have h := ip (fun z9 => z9) hc1925 h
                refine r_iconst (v := (1 : Int32)) dX11_isTold_106 (by decide) ?_
                refine r_goto (tgt := 111) dX11_isTold_107 (by decide) ?_
                refine r_zret dX11_isTold_111 rfl (by decide) ?_
                have h := Option.some.inj (show some _ = some o from h)
                subst h
                exact hq
              · have h := iq (fun z9 => z9) hc1925 h
                refine r_aload_n 0 dX11_isTold_95 rfl ?_
                refine r_bipush (v := (31 : Int32)) dX11_isTold_96 (by decide) ?_
                refine r_bipush (v := (8 : Int32)) dX11_isTold_98 (by decide) ?_
                obtain ⟨r1926, hc1927, h⟩ := ob (fun z9 => z9) rfl h
                refine c_V (rest := []) 0 0 _ dX11_isTold_100 kv_X11_264 (ct_M_eatAs hc1927) rfl rfl lM_0 rfl (Nat.le_of_ble_eq_true rfl) (by decide) (by decide) ?_
                refine r_if_eq (tgt := 110) dX11_isTold_103 (by decide) (fun hc1928 => ?_) (fun hc1928 => ?_)
                · have h := ip (fun z9 => z9) hc1928 h
                  refine r_iconst (v := (0 : Int32)) dX11_isTold_110 (by decide) ?_
                  refine r_zret dX11_isTold_111 rfl (by decide) ?_
                  have h := Option.some.inj (show some _ = some o from h)
                  subst h
                  exact hq
                · have h := iq (fun z9 => z9) hc1928 h
                  refine r_iconst (v := (1 : Int32)) dX11_isTold_106 (by decide) ?_
                  refine r_goto (tgt := 111) dX11_isTold_107 (by decide) ?_
                  refine r_zret dX11_isTold_111 rfl (by decide) ?_
                  have h := Option.some.inj (show some _ = some o from h)
                  subst h
                  exact hq
        · have h := iq (fun z9 => z9) hc1916 h
          refine r_aload_n 0 dX11_isTold_59 rfl ?_
          refine r_bipush (v := (30 : Int32)) dX11_isTold_60 (by decide) ?_
          refine r_bipush (v := (6 : Int32)) dX11_isTold_62 (by decide) ?_
          obtain ⟨r1929, hc1930, h⟩ := ob (fun z9 => z9) rfl h
          refine c_V (rest := []) 0 0 _ dX11_isTold_64 kv_X11_264 (ct_M_eatAs hc1930) rfl rfl lM_0 rfl (Nat.le_of_ble_eq_true rfl) (by decide) (by decide) ?_
          obtain ⟨hb1931, h⟩ := gd (fun z9 => z9) rfl h
          refine r_zret dX11_isTold_67 rfl (zB_n hb1931) ?_
          have h := Option.some.inj (show some _ = some o from h)
          subst h
          exact hq
    · have h := ip (fun z9 => z9) hc1907 h
      refine r_iconst (v := (0 : Int32)) dX11_isTold_40 (by decide) ?_
      refine r_zret dX11_isTold_41 rfl (by decide) ?_
      have h := Option.some.inj (show some _ = some o from h)
      subst h
      exact hq
theorem ct_M_isTold {g : GG} {am : Nat → Nat} {pm : Nat} {t : va_W} {m0 m1 m2 m4 m5 m6 m7 m8 m9 m10 m11 m12 : Int32} {m13 m15 m18 m19 m20 m21 : Nat → Int32} {m17 : Nat → Int64} {M_token : Int32} {M_kind : Nat → Int32} {M_means : Nat → Int32} {o : Int32 × Int32 × (Nat → Int32)} (h : f_M_isTold M_token M_kind M_means = some o) : Ct g mX11_isTold 3 0 0 [.ref (am 0)] (wlM g am pm m0 m1 m2 M_token m4 m5 m6 m7 m8 m9 m10 m11 m12 m13 M_kind m15 M_means m17 m18 m19 m20 m21 ++ t) (Dv (some (.int o.1)) (wlM g am pm m0 m1 m2 o.2.1 m4 m5 m6 m7 m8 m9 m10 m11 m12 m13 M_kind m15 o.2.2 m17 m18 m19 m20 m21 ++ t)) := Ct.ofR (by decide +kernel) rfl (Nat.le_of_ble_eq_true rfl) (rt_M_isTold h ⟨rfl, rfl⟩)
set_option maxRecDepth 20000 in
set_option maxHeartbeats 4000000 in
theorem rt_M_isOrder {g : GG} {am : Nat → Nat} {ap : Nat → Nat} {pm : Nat} {t : va_W} {m0 m1 m2 m6 m7 m8 m9 m10 m11 m12 u0 u1 u2 u3 : Int32} {m13 m15 m18 m19 m20 m21 u7 u8 u9 u10 u11 u13 : Nat → Int32} {u5 u6 : Nat → Int64} {N : Nat} {M_token : Int32} {M_depth : Int32} {M_ordersRead : Int32} {M_kind : Nat → Int32} {M_means : Nat → Int32} {M_value : Nat → Int64} {P_many : Int32} {P_does : Nat → Int32} {P_begins : Nat → Int32} {P_ends : Nat → Int32} {P_order : Nat → Int32} {P_with : Nat → Int32} {P_also : Nat → Int32} {o : Int32 × Int32 × Int32 × Int32 × (Nat → Int32) × Int32 × (Nat → Int32) × (Nat → Int32) × (Nat → Int32) × (Nat → Int32) × (Nat → Int32) × (Nat → Int32)} {Q : Rs → va_W → Prop} (h : f_M_isOrder N M_token M_depth M_ordersRead M_kind M_means M_value P_many P_does P_begins P_ends P_order P_with P_also = some o) (hq : Q (.inl (some (.int o.1))) (wlM g am pm m0 m1 m2 o.2.1 o.2.2.1 o.2.2.2.1 m6 m7 m8 m9 m10 m11 m12 m13 M_kind m15 o.2.2.2.2.1 M_value m18 m19 m20 m21 ++ (wlP g ap u0 u1 u2 u3 o.2.2.2.2.2.1 u5 u6 u7 u8 u9 u10 u11 o.2.2.2.2.2.2.1 u13 o.2.2.2.2.2.2.2.1 o.2.2.2.2.2.2.2.2.1 o.2.2.2.2.2.2.2.2.2.1 o.2.2.2.2.2.2.2.2.2.2.1 o.2.2.2.2.2.2.2.2.2.2.2 ++ t))) : R g mX11_isOrder 70 0 0 0 [(0, .ref (am 0)), (1, .ref (ap 0))] [] (wlM g am pm m0 m1 m2 M_token M_depth M_ordersRead m6 m7 m8 m9 m10 m11 m12 m13 M_kind m15 M_means M_value m18 m19 m20 m21 ++ (wlP g ap u0 u1 u2 u3 P_many u5 u6 u7 u8 u9 u10 u11 P_does u13 P_begins P_ends P_order P_with P_also ++ t)) Q := by
  unfold f_M_isOrder at h
  refine r_bipush (v := (15 : Int32)) dX11_isOrder_0 (by decide) ?_
  refine r_aload_n 0 dX11_isOrder_2 rfl ?_
  refine r_getf (v := .int M_ordersRead) _ dX11_isOrder_3 fl_X11_307 lM_0 rfl ?_
  refine c_mmin (rest := []) dX11_isOrder_6 ks_X11_125 (Nat.le_of_ble_eq_true rfl) (by decide) ?_
  refine r_istore_n [(2, .int (f_J9_min_7cf53 (15 : Int32) M_ordersRead)), (0, .ref (am 0)), (1, .ref (ap 0))] dX11_isOrder_9 (by decide) rfl ?_
  refine r_aload_n 1 dX11_isOrder_10 rfl ?_
  refine r_dup dX11_isOrder_11 rfl ?_
  refine r_getf (v := .int M_ordersRead) _ dX11_isOrder_12 fl_X11_307 lM_0 rfl ?_
  refine r_iconst (v := (1 : Int32)) dX11_isOrder_15 (by decide) ?_
  refine r_iadd dX11_isOrder_16 ?_
  refine r_putf _ dX11_isOrder_17 fl_X11_307 lM_0 (Nat.le_of_ble_eq_true rfl) rfl rfl (sM_5 _) ?_
  refine r_aload_n 2 dX11_isOrder_20 rfl ?_
  refine r_getf (v := .ref (ap 8)) _ dX11_isOrder_21 fl_X11_153 lP_0 rfl ?_
  refine r_iload_n 0 dX11_isOrder_24 rfl ?_
  refine r_aload_n 1 dX11_isOrder_25 rfl ?_
  refine r_getf (v := .ref (am 2)) _ dX11_isOrder_26 fl_X11_24 lM_0 rfl ?_
  refine r_aload_n 1 dX11_isOrder_29 rfl ?_
  refine r_getf (v := .int M_token) _ dX11_isOrder_30 fl_X11_252 lM_0 rfl ?_
  obtain ⟨hb1932, h⟩ := gd (fun z9 => z9) rfl h
  refine r_iald _ dX11_isOrder_33 lM_2 hb1932 ?_
  obtain ⟨hb1933, h⟩ := gd (fun z9 => z9) rfl h
  refine r_iast _ dX11_isOrder_34 lP_8 hb1933 (sP_12 _) ?_
  refine r_aload_n 1 dX11_isOrder_35 rfl ?_
  refine r_getf (v := .ref (am 4)) _ dX11_isOrder_36 fl_X11_30 lM_0 rfl ?_
  refine r_aload_n 1 dX11_isOrder_39 rfl ?_
  refine r_getf (v := .int M_token) _ dX11_isOrder_40 fl_X11_252 lM_0 rfl ?_
  refine r_bipush (v := (9 : Int32)) dX11_isOrder_43 (by decide) ?_
  obtain ⟨hb1934, h⟩ := gd (fun z9 => z9) rfl h
  refine r_iast _ dX11_isOrder_45 lM_4 hb1934 (sM_16 _) ?_
  refine r_aload_n 1 dX11_isOrder_46 rfl ?_
  refine r_dup dX11_isOrder_47 rfl ?_
  refine r_getf (v := .int M_token) _ dX11_isOrder_48 fl_X11_252 lM_0 rfl ?_
  refine r_iconst (v := (1 : Int32)) dX11_isOrder_51 (by decide) ?_
  refine r_iadd dX11_isOrder_52 ?_
  refine r_putf _ dX11_isOrder_53 fl_X11_252 lM_0 (Nat.le_of_ble_eq_true rfl) rfl rfl (sM_3 _) ?_
  refine r_aload_n 1 dX11_isOrder_56 rfl ?_
  refine r_bipush (v := (30 : Int32)) dX11_isOrder_57 (by decide) ?_
  refine r_bipush (v := (10 : Int32)) dX11_isOrder_59 (by decide) ?_
  obtain ⟨r1935, hc1936, h⟩ := ob (fun z9 => z9) rfl h
  refine c_V (rest := []) 0 0 _ dX11_isOrder_61 kv_X11_264 (ct_M_eatAs hc1936) rfl rfl lM_0 rfl (Nat.le_of_ble_eq_true rfl) (by decide) (by decide) ?_
  refine r_if_ne (tgt := 69) dX11_isOrder_64 (by decide) (fun hc1937 => ?_) (fun hc1937 => ?_)
  · have h := iq (fun z9 => z9) hc1937 h
    refine r_aload_n 2 dX11_isOrder_69 rfl ?_
    refine r_getf (v := .ref (ap 10)) _ dX11_isOrder_70 fl_X11_181 lP_0 rfl ?_
    refine r_iload_n 0 dX11_isOrder_73 rfl ?_
    refine r_aload_n 2 dX11_isOrder_74 rfl ?_
    refine r_getf (v := .int P_many) _ dX11_isOrder_75 fl_X11_261 lP_0 rfl ?_
    obtain ⟨hb1938, h⟩ := gd (fun z9 => z9) rfl h
    refine r_iast _ dX11_isOrder_78 lP_10 hb1938 (sP_14 _) ?_
    refine r_aload_n 1 dX11_isOrder_79 rfl ?_
    refine r_bipush (v := (9 : Int32)) dX11_isOrder_80 (by decide) ?_
    obtain ⟨r1939, hc1940, h⟩ := ob (fun z9 => z9) rfl h
    refine c_V (rest := []) 0 0 _ dX11_isOrder_82 kv_X11_255 (ct_M_eat hc1940) rfl rfl lM_0 rfl (Nat.le_of_ble_eq_true rfl) (by decide) (by decide) ?_
    refine r_if_eq (tgt := 98) dX11_isOrder_85 (by decide) (fun hc1941 => ?_) (fun hc1941 => ?_)
    · have h := ip (fun z9 => z9) hc1941 h
      refine r_aload_n 2 dX11_isOrder_98 rfl ?_
      refine r_getf (v := .ref (ap 11)) _ dX11_isOrder_99 fl_X11_184 lP_0 rfl ?_
      refine r_iload_n 0 dX11_isOrder_102 rfl ?_
      refine r_aload_n 2 dX11_isOrder_103 rfl ?_
      refine r_getf (v := .int P_many) _ dX11_isOrder_104 fl_X11_261 lP_0 rfl ?_
      obtain ⟨hb1942, h⟩ := gd (fun z9 => z9) rfl h
      refine r_iast _ dX11_isOrder_107 lP_11 hb1942 (sP_15 _) ?_
      refine r_iconst (v := (1 : Int32)) dX11_isOrder_108 (by decide) ?_
      refine r_zret dX11_isOrder_109 rfl (by decide) ?_
      have h := Option.some.inj (show some _ = some o from h)
      subst h
      exact hq
    · have h := iq (fun z9 => z9) hc1941 h
      refine r_aload_n 1 dX11_isOrder_88 rfl ?_
      refine r_aload_n 2 dX11_isOrder_89 rfl ?_
      obtain ⟨r1943, hc1944, h⟩ := ob (fun z9 => z9) rfl h
      refine c_V (rest := []) 0 0 _ dX11_isOrder_90 kv_X11_281 (ct_M_parse_0 hc1944) rfl rfl lM_0 rfl (Nat.le_of_ble_eq_true rfl) (by decide) (by decide) ?_
      refine r_if_ne (tgt := 98) dX11_isOrder_93 (by decide) (fun hc1945 => ?_) (fun hc1945 => ?_)
      · have h := iq (fun z9 => z9) hc1945 h
        refine r_aload_n 2 dX11_isOrder_98 rfl ?_
        refine r_getf (v := .ref (ap 11)) _ dX11_isOrder_99 fl_X11_184 lP_0 rfl ?_
        refine r_iload_n 0 dX11_isOrder_102 rfl ?_
        refine r_aload_n 2 dX11_isOrder_103 rfl ?_
        refine r_getf (v := .int r1943.2.2.2.2.1) _ dX11_isOrder_104 fl_X11_261 lP_0 rfl ?_
        obtain ⟨hb1946, h⟩ := gd (fun z9 => z9) rfl h
        refine r_iast _ dX11_isOrder_107 lP_11 hb1946 (sP_15 _) ?_
        refine r_iconst (v := (1 : Int32)) dX11_isOrder_108 (by decide) ?_
        refine r_zret dX11_isOrder_109 rfl (by decide) ?_
        have h := Option.some.inj (show some _ = some o from h)
        subst h
        exact hq
      · have h := ip (fun z9 => z9) hc1945 h
        refine r_iconst (v := (0 : Int32)) dX11_isOrder_96 (by decide) ?_
        refine r_zret dX11_isOrder_97 rfl (by decide) ?_
        have h := Option.some.inj (show some _ = some o from h)
        subst h
        exact hq
  · have h := ip (fun z9 => z9) hc1937 h
    refine r_iconst (v := (0 : Int32)) dX11_isOrder_67 (by decide) ?_
    refine r_zret dX11_isOrder_68 rfl (by decide) ?_
    have h := Option.some.inj (show some _ = some o from h)
    subst h
    exact hq
theorem ct_M_isOrder {g : GG} {am : Nat → Nat} {ap : Nat → Nat} {pm : Nat} {t : va_W} {m0 m1 m2 m6 m7 m8 m9 m10 m11 m12 u0 u1 u2 u3 : Int32} {m13 m15 m18 m19 m20 m21 u7 u8 u9 u10 u11 u13 : Nat → Int32} {u5 u6 : Nat → Int64} {N : Nat} {M_token : Int32} {M_depth : Int32} {M_ordersRead : Int32} {M_kind : Nat → Int32} {M_means : Nat → Int32} {M_value : Nat → Int64} {P_many : Int32} {P_does : Nat → Int32} {P_begins : Nat → Int32} {P_ends : Nat → Int32} {P_order : Nat → Int32} {P_with : Nat → Int32} {P_also : Nat → Int32} {o : Int32 × Int32 × Int32 × Int32 × (Nat → Int32) × Int32 × (Nat → Int32) × (Nat → Int32) × (Nat → Int32) × (Nat → Int32) × (Nat → Int32) × (Nat → Int32)} (h : f_M_isOrder N M_token M_depth M_ordersRead M_kind M_means M_value P_many P_does P_begins P_ends P_order P_with P_also = some o) : Ct g mX11_isOrder 70 0 0 [.ref (am 0), .ref (ap 0)] (wlM g am pm m0 m1 m2 M_token M_depth M_ordersRead m6 m7 m8 m9 m10 m11 m12 m13 M_kind m15 M_means M_value m18 m19 m20 m21 ++ (wlP g ap u0 u1 u2 u3 P_many u5 u6 u7 u8 u9 u10 u11 P_does u13 P_begins P_ends P_order P_with P_also ++ t)) (Dv (some (.int o.1)) (wlM g am pm m0 m1 m2 o.2.1 o.2.2.1 o.2.2.2.1 m6 m7 m8 m9 m10 m11 m12 m13 M_kind m15 o.2.2.2.2.1 M_value m18 m19 m20 m21 ++ (wlP g ap u0 u1 u2 u3 o.2.2.2.2.2.1 u5 u6 u7 u8 u9 u10 u11 o.2.2.2.2.2.2.1 u13 o.2.2.2.2.2.2.2.1 o.2.2.2.2.2.2.2.2.1 o.2.2.2.2.2.2.2.2.2.1 o.2.2.2.2.2.2.2.2.2.2.1 o.2.2.2.2.2.2.2.2.2.2.2 ++ t))) := Ct.ofR (by decide +kernel) rfl (Nat.le_of_ble_eq_true rfl) (rt_M_isOrder h ⟨rfl, rfl⟩)
set_option maxRecDepth 20000 in
set_option maxHeartbeats 4000000 in
theorem rt_M_isLine {g : GG} {am : Nat → Nat} {ap : Nat → Nat} {pm : Nat} {t : va_W} {m0 m1 m2 m6 m7 m8 m9 m10 m11 m12 u0 u1 u2 u3 : Int32} {m13 m15 m18 m19 m20 m21 u7 u8 u9 u10 u11 u13 : Nat → Int32} {u5 u6 : Nat → Int64} {N : Nat} {M_token : Int32} {M_depth : Int32} {M_ordersRead : Int32} {M_kind : Nat → Int32} {M_means : Nat → Int32} {M_value : Nat → Int64} {P_many : Int32} {P_does : Nat → Int32} {P_begins : Nat → Int32} {P_ends : Nat → Int32} {P_order : Nat → Int32} {P_with : Nat → Int32} {P_also : Nat → Int32} {o : Int32 × Int32 × Int32 × Int32 × (Nat → Int32) × Int32 × (Nat → Int32) × (Nat → Int32) × (Nat → Int32) × (Nat → Int32) × (Nat → Int32) × (Nat → Int32)} {Q : Rs → va_W → Prop} (h : f_M_isLine N M_token M_depth M_ordersRead M_kind M_means M_value P_many P_does P_begins P_ends P_order P_with P_also = some o) (hq : Q (.inl (some (.int o.1))) (wlM g am pm m0 m1 m2 o.2.1 o.2.2.1 o.2.2.2.1 m6 m7 m8 m9 m10 m11 m12 m13 M_kind m15 o.2.2.2.2.1 M_value m18 m19 m20 m21 ++ (wlP g ap u0 u1 u2 u3 o.2.2.2.2.2.1 u5 u6 u7 u8 u9 u10 u11 o.2.2.2.2.2.2.1 u13 o.2.2.2.2.2.2.2.1 o.2.2.2.2.2.2.2.2.1 o.2.2.2.2.2.2.2.2.2.1 o.2.2.2.2.2.2.2.2.2.2.1 o.2.2.2.2.2.2.2.2.2.2.2 ++ t))) : R g mX11_isLine 71 0 0 0 [(0, .ref (am 0)), (1, .ref (ap 0))] [] (wlM g am pm m0 m1 m2 M_token M_depth M_ordersRead m6 m7 m8 m9 m10 m11 m12 m13 M_kind m15 M_means M_value m18 m19 m20 m21 ++ (wlP g ap u0 u1 u2 u3 P_many u5 u6 u7 u8 u9 u10 u11 P_does u13 P_begins P_ends P_order P_with P_also ++ t)) Q := by
  unfold f_M_isLine at h
  refine r_aload_n 0 dX11_isLine_0 rfl ?_
  refine r_getf (v := .ref (am 2)) _ dX11_isLine_1 fl_X11_24 lM_0 rfl ?_
  refine r_aload_n 0 dX11_isLine_4 rfl ?_
  refine r_getf (v := .int M_token) _ dX11_isLine_5 fl_X11_252 lM_0 rfl ?_
  obtain ⟨hb1947, h⟩ := gd (fun z9 => z9) rfl h
  refine r_iald _ dX11_isLine_8 lM_2 hb1947 ?_
  refine r_istore_n [(2, .int (M_kind M_token.toNatClampNeg)), (0, .ref (am 0)), (1, .ref (ap 0))] dX11_isLine_9 (by decide) rfl ?_
  refine r_iload_n 0 dX11_isLine_10 rfl ?_
  refine r_if_eq (tgt := 19) dX11_isLine_11 (by decide) (fun hc1948 => ?_) (fun hc1948 => ?_)
  · have h := ip (fun z9 => z9) hc1948 h
    refine r_aload_n 1 dX11_isLine_19 rfl ?_
    refine r_dup dX11_isLine_20 rfl ?_
    refine r_getf (v := .int M_token) _ dX11_isLine_21 fl_X11_252 lM_0 rfl ?_
    refine r_iconst (v := (1 : Int32)) dX11_isLine_24 (by decide) ?_
    refine r_iadd dX11_isLine_25 ?_
    refine r_putf _ dX11_isLine_26 fl_X11_252 lM_0 (Nat.le_of_ble_eq_true rfl) rfl rfl (sM_3 _) ?_
    refine r_aload_n 1 dX11_isLine_29 rfl ?_
    refine r_bipush (v := (30 : Int32)) dX11_isLine_30 (by decide) ?_
    refine r_iload_n 0 dX11_isLine_32 rfl ?_
    refine r_if_ne (tgt := 40) dX11_isLine_33 (by decide) (fun hc1949 => ?_) (fun hc1949 => ?_)
    · have h := iq (fun z9 => z9) hc1949 h
      refine r_iconst (v := (2 : Int32)) dX11_isLine_40 (by decide) ?_
      obtain ⟨r1950, hc1951, h⟩ := ob (fun z9 => z9) rfl h
      refine c_V (rest := []) 0 0 _ dX11_isLine_41 kv_X11_264 (ct_M_eatAs hc1951) rfl rfl lM_0 rfl (Nat.le_of_ble_eq_true rfl) (by decide) (by decide) ?_
      obtain ⟨hb1952, h⟩ := gd (fun z9 => z9) rfl h
      refine r_zret dX11_isLine_44 rfl (zB_n hb1952) ?_
      have h := Option.some.inj (show some _ = some o from h)
      subst h
      exact hq
    · have h := ip (fun z9 => z9) hc1949 h
      refine r_iconst (v := (1 : Int32)) dX11_isLine_36 (by decide) ?_
      refine r_goto (tgt := 41) dX11_isLine_37 (by decide) ?_
      obtain ⟨r1953, hc1954, h⟩ := ob (fun z9 => z9) rfl h
      refine c_V (rest := []) 0 0 _ dX11_isLine_41 kv_X11_264 (ct_M_eatAs hc1954) rfl rfl lM_0 rfl (Nat.le_of_ble_eq_true rfl) (by decide) (by decide) ?_
      obtain ⟨hb1955, h⟩ := gd (fun z9 => z9) rfl h
      refine r_zret dX11_isLine_44 rfl (zB_n hb1955) ?_
      have h := Option.some.inj (show some _ = some o from h)
      subst h
      exact hq
  · have h := iq (fun z9 => z9) hc1948 h
    refine r_iload_n 0 dX11_isLine_14 rfl ?_
    refine r_iconst (v := (1 : Int32)) dX11_isLine_15 (by decide) ?_
    refine r_icmp_ne (tgt := 45) dX11_isLine_16 (by decide) (fun hc1956 => ?_) (fun hc1956 => ?_)
    · have h := iq (fun z9 => z9) hc1956 h
      refine r_iload_n 0 dX11_isLine_45 rfl ?_
      refine r_iconst (v := (2 : Int32)) dX11_isLine_46 (by decide) ?_
      refine r_icmp_ne (tgt := 55) dX11_isLine_47 (by decide) (fun hc1957 => ?_) (fun hc1957 => ?_)
      · have h := iq (fun z9 => z9) hc1957 h
        refine r_iload_n 0 dX11_isLine_55 rfl ?_
        refine r_bipush (v := (7 : Int32)) dX11_isLine_56 (by decide) ?_
        refine r_icmp_eq (tgt := 67) dX11_isLine_58 (by decide) (fun hc1958 => ?_) (fun hc1958 => ?_)
        · have h := ip (fun z9 => z9) hc1958 h
          refine r_aload_n 1 dX11_isLine_67 rfl ?_
          refine r_aload_n 2 dX11_isLine_68 rfl ?_
          obtain ⟨r1959, hc1960, h⟩ := ob (fun z9 => z9) rfl h
          refine c_V (rest := []) 0 0 _ dX11_isLine_69 kv_X11_314 (ct_M_isOrder hc1960) rfl rfl lM_0 rfl (Nat.le_of_ble_eq_true rfl) (by decide) (by decide) ?_
          refine r_if_eq (tgt := 79) dX11_isLine_72 (by decide) (fun hc1961 => ?_) (fun hc1961 => ?_)
          · have h := ip (fun z9 => z9) hc1961 h
            refine r_iconst (v := (0 : Int32)) dX11_isLine_79 (by decide) ?_
            refine r_zret dX11_isLine_80 rfl (by decide) ?_
            have h := Option.some.inj (show some _ = some o from h)
            subst h
            exact hq
          · have h := iq (fun z9 => z9) hc1961 h
            refine r_iconst (v := (1 : Int32)) dX11_isLine_75 (by decide) ?_
            refine r_goto (tgt := 80) dX11_isLine_76 (by decide) ?_
            refine r_zret dX11_isLine_80 rfl (by decide) ?_
            have h := Option.some.inj (show some _ = some o from h)
            subst h
            exact hq
        · have h := iq (fun z9 => z9) hc1958 h
          refine r_iload_n 0 dX11_isLine_61 rfl ?_
          refine r_bipush (v := (8 : Int32)) dX11_isLine_62 (by decide) ?_
          refine r_icmp_ne (tgt := 79) dX11_isLine_64 (by decide) (fun hc1962 => ?_) (fun hc1962 => ?_)
          · have h := iq (fun z9 => z9) hc1962 h
            refine r_iconst (v := (0 : Int32)) dX11_isLine_79 (by decide) ?_
            refine r_zret dX11_isLine_80 rfl (by decide) ?_
            have h := Option.some.inj (show some _ = some o from h)
            subst h
            exact hq
          · have h := ip (fun z9 => z9) hc1962 h
            refine r_aload_n 1 dX11_isLine_67 rfl ?_
            refine r_aload_n 2 dX11_isLine_68 rfl ?_
            obtain ⟨r1963, hc1964, h⟩ := ob (fun z9 => z9) rfl h
            refine c_V (rest := []) 0 0 _ dX11_isLine_69 kv_X11_314 (ct_M_isOrder hc1964) rfl rfl lM_0 rfl (Nat.le_of_ble_eq_true rfl) (by decide) (by decide) ?_
            refine r_if_eq (tgt := 79) dX11_isLine_72 (by decide) (fun hc1965 => ?_) (fun hc1965 => ?_)
            · have h := ip (fun z9 => z9) hc1965 h
              refine r_iconst (v := (0 : Int32)) dX11_isLine_79 (by decide) ?_
              refine r_zret dX11_isLine_80 rfl (by decide) ?_
              have h := Option.some.inj (show some _ = some o from h)
              subst h
              exact hq
            · have h := iq (fun z9 => z9) hc1965 h
              refine r_iconst (v := (1 : Int32)) dX11_isLine_75 (by decide) ?_
              refine r_goto (tgt := 80) dX11_isLine_76 (by decide) ?_
              refine r_zret dX11_isLine_80 rfl (by decide) ?_
              have h := Option.some.inj (show some _ = some o from h)
              subst h
              exact hq
      · have h := ip (fun z9 => z9) hc1957 h
        refine r_aload_n 1 dX11_isLine_50 rfl ?_
        obtain ⟨r1966, hc1967, h⟩ := ob (fun z9 => z9) rfl h
        refine c_V (rest := []) 0 0 _ dX11_isLine_51 kv_X11_310 (ct_M_isTold hc1967) rfl rfl lM_0 rfl (Nat.le_of_ble_eq_true rfl) (by decide) (by decide) ?_
        obtain ⟨hb1968, h⟩ := gd (fun z9 => z9) rfl h
        refine r_zret dX11_isLine_54 rfl (zB_n hb1968) ?_
        have h := Option.some.inj (show some _ = some o from h)
        subst h
        exact hq
    · have h := ip (fun z9 => z9) hc1956 h
      refine r_aload_n 1 dX11_isLine_19 rfl ?_
      refine r_dup dX11_isLine_20 rfl ?_
      refine r_getf (v := .int M_token) _ dX11_isLine_21 fl_X11_252 lM_0 rfl ?_
      refine r_iconst (v := (1 : Int32)) dX11_isLine_24 (by decide) ?_
      refine r_iadd dX11_isLine_25 ?_
      refine r_putf _ dX11_isLine_26 fl_X11_252 lM_0 (Nat.le_of_ble_eq_true rfl) rfl rfl (sM_3 _) ?_
      refine r_aload_n 1 dX11_isLine_29 rfl ?_
      refine r_bipush (v := (30 : Int32)) dX11_isLine_30 (by decide) ?_
      refine r_iload_n 0 dX11_isLine_32 rfl ?_
      refine r_if_ne (tgt := 40) dX11_isLine_33 (by decide) (fun hc1969 => ?_) (fun hc1969 => ?_)
      · have h := iq (fun z9 => z9) hc1969 h
        refine r_iconst (v := (2 : Int32)) dX11_isLine_40 (by decide) ?_
        obtain ⟨r1970, hc1971, h⟩ := ob (fun z9 => z9) rfl h
        refine c_V (rest := []) 0 0 _ dX11_isLine_41 kv_X11_264 (ct_M_eatAs hc1971) rfl rfl lM_0 rfl (Nat.le_of_ble_eq_true rfl) (by decide) (by decide) ?_
        obtain ⟨hb1972, h⟩ := gd (fun z9 => z9) rfl h
        refine r_zret dX11_isLine_44 rfl (zB_n hb1972) ?_
        have h := Option.some.inj (show some _ = some o from h)
        subst h
        exact hq
      · have h := ip (fun z9 => z9) hc1969 h
        refine r_iconst (v := (1 : Int32)) dX11_isLine_36 (by decide) ?_
        refine r_goto (tgt := 41) dX11_isLine_37 (by decide) ?_
        obtain ⟨r1973, hc1974, h⟩ := ob (fun z9 => z9) rfl h
        refine c_V (rest := []) 0 0 _ dX11_isLine_41 kv_X11_264 (ct_M_eatAs hc1974) rfl rfl lM_0 rfl (Nat.le_of_ble_eq_true rfl) (by decide) (by decide) ?_
        obtain ⟨hb1975, h⟩ := gd (fun z9 => z9) rfl h
        refine r_zret dX11_isLine_44 rfl (zB_n hb1975) ?_
        have h := Option.some.inj (show some _ = some o from h)
        subst h
        exact hq
theorem ct_M_isLine {g : GG} {am : Nat → Nat} {ap : Nat → Nat} {pm : Nat} {t : va_W} {m0 m1 m2 m6 m7 m8 m9 m10 m11 m12 u0 u1 u2 u3 : Int32} {m13 m15 m18 m19 m20 m21 u7 u8 u9 u10 u11 u13 : Nat → Int32} {u5 u6 : Nat → Int64} {N : Nat} {M_token : Int32} {M_depth : Int32} {M_ordersRead : Int32} {M_kind : Nat → Int32} {M_means : Nat → Int32} {M_value : Nat → Int64} {P_many : Int32} {P_does : Nat → Int32} {P_begins : Nat → Int32} {P_ends : Nat → Int32} {P_order : Nat → Int32} {P_with : Nat → Int32} {P_also : Nat → Int32} {o : Int32 × Int32 × Int32 × Int32 × (Nat → Int32) × Int32 × (Nat → Int32) × (Nat → Int32) × (Nat → Int32) × (Nat → Int32) × (Nat → Int32) × (Nat → Int32)} (h : f_M_isLine N M_token M_depth M_ordersRead M_kind M_means M_value P_many P_does P_begins P_ends P_order P_with P_also = some o) : Ct g mX11_isLine 71 0 0 [.ref (am 0), .ref (ap 0)] (wlM g am pm m0 m1 m2 M_token M_depth M_ordersRead m6 m7 m8 m9 m10 m11 m12 m13 M_kind m15 M_means M_value m18 m19 m20 m21 ++ (wlP g ap u0 u1 u2 u3 P_many u5 u6 u7 u8 u9 u10 u11 P_does u13 P_begins P_ends P_order P_with P_also ++ t)) (Dv (some (.int o.1)) (wlM g am pm m0 m1 m2 o.2.1 o.2.2.1 o.2.2.2.1 m6 m7 m8 m9 m10 m11 m12 m13 M_kind m15 o.2.2.2.2.1 M_value m18 m19 m20 m21 ++ (wlP g ap u0 u1 u2 u3 o.2.2.2.2.2.1 u5 u6 u7 u8 u9 u10 u11 o.2.2.2.2.2.2.1 u13 o.2.2.2.2.2.2.2.1 o.2.2.2.2.2.2.2.2.1 o.2.2.2.2.2.2.2.2.2.1 o.2.2.2.2.2.2.2.2.2.2.1 o.2.2.2.2.2.2.2.2.2.2.2 ++ t))) := Ct.ofR (by decide +kernel) rfl (Nat.le_of_ble_eq_true rfl) (rt_M_isLine h ⟨rfl, rfl⟩)
set_option maxRecDepth 20000 in
set_option maxHeartbeats 4000000 in
theorem rt_M_isBook {g : GG} {am : Nat → Nat} {ap : Nat → Nat} {pm : Nat} {t : va_W} {m0 m1 m2 m6 m7 m8 m9 m10 m11 m12 u0 u1 u2 u3 : Int32} {m13 m15 m18 m19 m20 m21 u7 u8 u9 u10 u11 u13 : Nat → Int32} {u5 u6 : Nat → Int64} {N : Nat} {M_token : Int32} {M_depth : Int32} {M_ordersRead : Int32} {M_kind : Nat → Int32} {M_means : Nat → Int32} {M_value : Nat → Int64} {P_many : Int32} {P_does : Nat → Int32} {P_begins : Nat → Int32} {P_ends : Nat → Int32} {P_order : Nat → Int32} {P_with : Nat → Int32} {P_also : Nat → Int32} {o : Int32 × Int32 × Int32 × Int32 × (Nat → Int32) × Int32 × (Nat → Int32) × (Nat → Int32) × (Nat → Int32) × (Nat → Int32) × (Nat → Int32) × (Nat → Int32)} {Q : Rs → va_W → Prop} (h : f_M_isBook N M_token M_depth M_ordersRead M_kind M_means M_value P_many P_does P_begins P_ends P_order P_with P_also = some o) (hq : Q (.inl (some (.int o.1))) (wlM g am pm m0 m1 m2 o.2.1 o.2.2.1 o.2.2.2.1 m6 m7 m8 m9 m10 m11 m12 m13 M_kind m15 o.2.2.2.2.1 M_value m18 m19 m20 m21 ++ (wlP g ap u0 u1 u2 u3 o.2.2.2.2.2.1 u5 u6 u7 u8 u9 u10 u11 o.2.2.2.2.2.2.1 u13 o.2.2.2.2.2.2.2.1 o.2.2.2.2.2.2.2.2.1 o.2.2.2.2.2.2.2.2.2.1 o.2.2.2.2.2.2.2.2.2.2.1 o.2.2.2.2.2.2.2.2.2.2.2 ++ t))) : R g mX11_isBook 72 0 0 0 [(0, .ref (am 0)), (1, .ref (ap 0))] [] (wlM g am pm m0 m1 m2 M_token M_depth M_ordersRead m6 m7 m8 m9 m10 m11 m12 m13 M_kind m15 M_means M_value m18 m19 m20 m21 ++ (wlP g ap u0 u1 u2 u3 P_many u5 u6 u7 u8 u9 u10 u11 P_does u13 P_begins P_ends P_order P_with P_also ++ t)) Q := by
  unfold f_M_isBook at h
  refine r_ls [0, 1] (ls2 := [(0, .ref (am 0)), (1, .ref (ap 0))]) rfl ?_
  have L1 : ∀ (n1 : Nat) (M_token_1 : Int32) (M_depth_1 : Int32) (M_ordersRead_1 : Int32) (M_means_1 : Nat → Int32) (P_many_1 : Int32) (P_does_1 : Nat → Int32) (P_begins_1 : Nat → Int32) (P_ends_1 : Nat → Int32) (P_order_1 : Nat → Int32) (P_with_1 : Nat → Int32) (P_also_1 : Nat → Int32), (fun z9 => z9) (lpS (f_M_isBook_L0 N M_kind M_value) none n1 (M_token_1, M_depth_1, M_ordersRead_1, M_means_1, P_many_1, P_does_1, P_begins_1, P_ends_1, P_order_1, P_with_1, P_also_1)) = some o → R g mX11_isBook 72 0 0 0 [(0, .ref (am 0)), (1, .ref (ap 0))] [] (wlM g am pm m0 m1 m2 M_token_1 M_depth_1 M_ordersRead_1 m6 m7 m8 m9 m10 m11 m12 m13 M_kind m15 M_means_1 M_value m18 m19 m20 m21 ++ (wlP g ap u0 u1 u2 u3 P_many_1 u5 u6 u7 u8 u9 u10 u11 P_does_1 u13 P_begins_1 P_ends_1 P_order_1 P_with_1 P_also_1 ++ t)) Q := by
    intro n1
    induction n1 with
    | zero => intro M_token_1 M_depth_1 M_ordersRead_1 M_means_1 P_many_1 P_does_1 P_begins_1 P_ends_1 P_order_1 P_with_1 P_also_1 h; exact nomatch (show (none : Option _) = some _ from h)
    | succ n1 ih1 =>
      intro M_token_1 M_depth_1 M_ordersRead_1 M_means_1 P_many_1 P_does_1 P_begins_1 P_ends_1 P_order_1 P_with_1 P_also_1 h
      have h : (fun z9 => (lC (f_M_isBook_L0 N M_kind M_value) none n1 z9)) (f_M_isBook_L0 N M_kind M_value (M_token_1, M_depth_1, M_ordersRead_1, M_means_1, P_many_1, P_does_1, P_begins_1, P_ends_1, P_order_1, P_with_1, P_also_1)) = some o := h
      unfold f_M_isBook_L0 at h
      try dsimp only at h
      refine r_aload_n 0 dX11_isBook_0 rfl ?_
      refine r_getf (v := .ref (am 2)) _ dX11_isBook_1 fl_X11_24 lM_0 rfl ?_
      refine r_aload_n 0 dX11_isBook_4 rfl ?_
      refine r_getf (v := .int M_token_1) _ dX11_isBook_5 fl_X11_252 lM_0 rfl ?_
      obtain ⟨hb1976, h⟩ := gd (fun z9 => (lC (f_M_isBook_L0 N M_kind M_value) none n1 z9)) rfl h
      refine r_iald _ dX11_isBook_8 lM_2 hb1976 ?_
      refine r_bipush (v := (33 : Int32)) dX11_isBook_9 (by decide) ?_
      refine r_icmp_eq (tgt := 33) dX11_isBook_11 (by decide) (fun hc1977 => ?_) (fun hc1977 => ?_)
      · have h := ip (fun z9 => (lC (f_M_isBook_L0 N M_kind M_value) none n1 z9)) hc1977 h
        refine r_iconst (v := (1 : Int32)) dX11_isBook_33 (by decide) ?_
        refine r_zret dX11_isBook_34 rfl (by decide) ?_
        have h := Option.some.inj (show some _ = some o from h)
        subst h
        exact hq
      · have h := iq (fun z9 => (lC (f_M_isBook_L0 N M_kind M_value) none n1 z9)) hc1977 h
        refine r_aload_n 0 dX11_isBook_14 rfl ?_
        refine r_aload_n 1 dX11_isBook_15 rfl ?_
        obtain ⟨r1978, hc1979, h⟩ := ob (fun z9 => (lC (f_M_isBook_L0 N M_kind M_value) none n1 z9)) rfl h
        refine c_V (rest := []) 0 0 _ dX11_isBook_16 kv_X11_317 (ct_M_isLine hc1979) rfl rfl lM_0 rfl (Nat.le_of_ble_eq_true rfl) (by decide) (by decide) ?_
        refine r_if_eq (tgt := 31) dX11_isBook_19 (by decide) (fun hc1980 => ?_) (fun hc1980 => ?_)
        · have h := ip (fun z9 => (lC (f_M_isBook_L0 N M_kind M_value) none n1 z9)) hc1980 h
          refine r_iconst (v := (0 : Int32)) dX11_isBook_31 (by decide) ?_
          refine r_zret dX11_isBook_32 rfl (by decide) ?_
          have h := Option.some.inj (show some _ = some o from h)
          subst h
          exact hq
        · have h := iq (fun z9 => (lC (f_M_isBook_L0 N M_kind M_value) none n1 z9)) hc1980 h
          refine r_aload_n 0 dX11_isBook_22 rfl ?_
          refine r_bipush (v := (59 : Int32)) dX11_isBook_23 (by decide) ?_
          obtain ⟨r1981, hc1982, h⟩ := ob (fun z9 => (lC (f_M_isBook_L0 N M_kind M_value) none n1 z9)) rfl h
          refine c_V (rest := []) 0 0 _ dX11_isBook_25 kv_X11_255 (ct_M_eat hc1982) rfl rfl lM_0 rfl (Nat.le_of_ble_eq_true rfl) (by decide) (by decide) ?_
          refine r_if_ne (tgt := 0) dX11_isBook_28 (by decide) (fun hc1983 => ?_) (fun hc1983 => ?_)
          · have h := iq (fun z9 => (lC (f_M_isBook_L0 N M_kind M_value) none n1 z9)) hc1983 h
            refine r_ls [0, 1] (ls2 := [(0, .ref (am 0)), (1, .ref (ap 0))]) rfl ?_
            exact ih1 r1981.2 r1978.2.2.1 r1978.2.2.2.1 r1978.2.2.2.2.1 r1978.2.2.2.2.2.1 r1978.2.2.2.2.2.2.1 r1978.2.2.2.2.2.2.2.1 r1978.2.2.2.2.2.2.2.2.1 r1978.2.2.2.2.2.2.2.2.2.1 r1978.2.2.2.2.2.2.2.2.2.2.1 r1978.2.2.2.2.2.2.2.2.2.2.2 h
          · have h := ip (fun z9 => (lC (f_M_isBook_L0 N M_kind M_value) none n1 z9)) hc1983 h
            refine r_iconst (v := (0 : Int32)) dX11_isBook_31 (by decide) ?_
            refine r_zret dX11_isBook_32 rfl (by decide) ?_
            have h := Option.some.inj (show some _ = some o from h)
            subst h
            exact hq
  exact L1 _ M_token M_depth M_ordersRead M_means P_many P_does P_begins P_ends P_order P_with P_also h
theorem ct_M_isBook {g : GG} {am : Nat → Nat} {ap : Nat → Nat} {pm : Nat} {t : va_W} {m0 m1 m2 m6 m7 m8 m9 m10 m11 m12 u0 u1 u2 u3 : Int32} {m13 m15 m18 m19 m20 m21 u7 u8 u9 u10 u11 u13 : Nat → Int32} {u5 u6 : Nat → Int64} {N : Nat} {M_token : Int32} {M_depth : Int32} {M_ordersRead : Int32} {M_kind : Nat → Int32} {M_means : Nat → Int32} {M_value : Nat → Int64} {P_many : Int32} {P_does : Nat → Int32} {P_begins : Nat → Int32} {P_ends : Nat → Int32} {P_order : Nat → Int32} {P_with : Nat → Int32} {P_also : Nat → Int32} {o : Int32 × Int32 × Int32 × Int32 × (Nat → Int32) × Int32 × (Nat → Int32) × (Nat → Int32) × (Nat → Int32) × (Nat → Int32) × (Nat → Int32) × (Nat → Int32)} (h : f_M_isBook N M_token M_depth M_ordersRead M_kind M_means M_value P_many P_does P_begins P_ends P_order P_with P_also = some o) : Ct g mX11_isBook 72 0 0 [.ref (am 0), .ref (ap 0)] (wlM g am pm m0 m1 m2 M_token M_depth M_ordersRead m6 m7 m8 m9 m10 m11 m12 m13 M_kind m15 M_means M_value m18 m19 m20 m21 ++ (wlP g ap u0 u1 u2 u3 P_many u5 u6 u7 u8 u9 u10 u11 P_does u13 P_begins P_ends P_order P_with P_also ++ t)) (Dv (some (.int o.1)) (wlM g am pm m0 m1 m2 o.2.1 o.2.2.1 o.2.2.2.1 m6 m7 m8 m9 m10 m11 m12 m13 M_kind m15 o.2.2.2.2.1 M_value m18 m19 m20 m21 ++ (wlP g ap u0 u1 u2 u3 o.2.2.2.2.2.1 u5 u6 u7 u8 u9 u10 u11 o.2.2.2.2.2.2.1 u13 o.2.2.2.2.2.2.2.1 o.2.2.2.2.2.2.2.2.1 o.2.2.2.2.2.2.2.2.2.1 o.2.2.2.2.2.2.2.2.2.2.1 o.2.2.2.2.2.2.2.2.2.2.2 ++ t))) := Ct.ofR (by decide +kernel) rfl (Nat.le_of_ble_eq_true rfl) (rt_M_isBook h ⟨rfl, rfl⟩)
