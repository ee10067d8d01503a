set_option maxRecDepth 20000 in
set_option maxHeartbeats 4000000 in
theorem rt_M_errorOf {g : GG} {am : Nat → Nat} {ap : Nat → Nat} {pm : Nat} {t : va_W} {m0 m1 m2 m3 m4 m5 m6 m7 m8 m9 m10 m11 m12 u4 : Int32} {m13 m15 m19 m20 m21 u12 u14 u15 u16 u17 u18 : Nat → Int32} {N : Nat} {M_kind : Nat → Int32} {M_means : Nat → Int32} {M_value : Nat → Int64} {M_who : Nat → Int32} {P_events : Int32} {P_tellers : Int32} {P_claims : Int32} {P_orders : Int32} {P_event : Nat → Int64} {P_teller : Nat → Int64} {P_kind : Nat → Int32} {P_by : Nat → Int32} {P_of : Nat → Int32} {P_other : Nat → Int32} {P_last : Nat → Int32} {P_whom : Nat → Int32} {p2 : Int32} {o : Int32 × (Nat → Int32) × Int32 × Int32 × Int32 × Int32 × (Nat → Int64) × (Nat → Int64) × (Nat → Int32) × (Nat → Int32) × (Nat → Int32) × (Nat → Int32) × (Nat → Int32) × (Nat → Int32)} {Q : Rs → va_W → Prop} (h : f_M_errorOf N M_kind M_means M_value M_who P_events P_tellers P_claims P_orders P_event P_teller P_kind P_by P_of P_other P_last P_whom p2 = some o) (hq : Q (.inl (some (.int o.1))) (wlM g am pm m0 m1 m2 m3 m4 m5 m6 m7 m8 m9 m10 m11 m12 m13 M_kind m15 M_means M_value o.2.1 m19 m20 m21 ++ (wlP g ap o.2.2.1 o.2.2.2.1 o.2.2.2.2.1 o.2.2.2.2.2.1 u4 o.2.2.2.2.2.2.1 o.2.2.2.2.2.2.2.1 o.2.2.2.2.2.2.2.2.1 o.2.2.2.2.2.2.2.2.2.1 o.2.2.2.2.2.2.2.2.2.2.1 o.2.2.2.2.2.2.2.2.2.2.2.1 o.2.2.2.2.2.2.2.2.2.2.2.2.1 u12 o.2.2.2.2.2.2.2.2.2.2.2.2.2 u14 u15 u16 u17 u18 ++ t))) : R g mX11_errorOf 4 0 0 0 [(0, .ref (am 0)), (1, .ref (ap 0)), (2, .int p2)] [] (wlM g am pm m0 m1 m2 m3 m4 m5 m6 m7 m8 m9 m10 m11 m12 m13 M_kind m15 M_means M_value M_who m19 m20 m21 ++ (wlP g ap P_events P_tellers P_claims P_orders u4 P_event P_teller P_kind P_by P_of P_other P_last u12 P_whom u14 u15 u16 u17 u18 ++ t)) Q := by
  unfold f_M_errorOf at h
  refine r_aload_n 0 dX11_errorOf_0 rfl ?_
  refine r_getf (v := .ref (am 4)) _ dX11_errorOf_1 fl_X11_30 lM_0 rfl ?_
  refine r_iload_n 2 dX11_errorOf_4 rfl ?_
  obtain ⟨hb2069, h⟩ := gd (fun z9 => z9) rfl h
  refine r_iald _ dX11_errorOf_5 lM_4 hb2069 ?_
  by_cases hc2070 : (M_means p2.toNatClampNeg) = (0 : Int32)
  · have h := ip (fun z9 => z9) hc2070 h
    refine r_tableIn (tgt := 72) dX11_errorOf_6 (by rw [hc2070]; decide) (by rw [hc2070]; decide) (by rw [hc2070]; rfl) (by decide) ?_
    refine r_iconst (v := (0 : Int32)) dX11_errorOf_72 (by decide) ?_
    refine r_iret dX11_errorOf_73 rfl ?_
    have h := Option.some.inj (show some _ = some o from h)
    subst h
    exact hq
  have h := iq (fun z9 => z9) hc2070 h
  by_cases hc2071 : (M_means p2.toNatClampNeg) = (1 : Int32)
  · have h := ip (fun z9 => z9) hc2071 h
    refine r_tableIn (tgt := 74) dX11_errorOf_6 (by rw [hc2071]; decide) (by rw [hc2071]; decide) (by rw [hc2071]; rfl) (by decide) ?_
    refine r_aload_n 0 dX11_errorOf_74 rfl ?_
    refine r_aload_n 1 dX11_errorOf_75 rfl ?_
    refine r_aload_n 0 dX11_errorOf_76 rfl ?_
    refine r_getf (v := .ref (am 5)) _ dX11_errorOf_77 fl_X11_33 lM_0 rfl ?_
    refine r_iload_n 2 dX11_errorOf_80 rfl ?_
    obtain ⟨hb2083, h⟩ := gd (fun z9 => z9) rfl h
    refine r_lald _ dX11_errorOf_81 lM_5 hb2083 ?_
    obtain ⟨r2084, hc2085, h⟩ := ob (fun z9 => z9) rfl h
    refine c_V (rest := []) 0 0 _ dX11_errorOf_82 kv_X11_337 (ct_M_newEvent hc2085) rfl rfl lM_0 rfl (Nat.le_of_ble_eq_true rfl) (by decide) (by decide) ?_
    refine r_iret dX11_errorOf_85 rfl ?_
    have h := Option.some.inj (show some _ = some o from h)
    subst h
    exact hq
  have h := iq (fun z9 => z9) hc2071 h
  by_cases hc2072 : (M_means p2.toNatClampNeg) = (2 : Int32)
  · have h := ip (fun z9 => z9) hc2072 h
    refine r_tableIn (tgt := 86) dX11_errorOf_6 (by rw [hc2072]; decide) (by rw [hc2072]; decide) (by rw [hc2072]; rfl) (by decide) ?_
    refine r_aload_n 0 dX11_errorOf_86 rfl ?_
    refine r_aload_n 1 dX11_errorOf_87 rfl ?_
    refine r_aload_n 0 dX11_errorOf_88 rfl ?_
    refine r_getf (v := .ref (am 5)) _ dX11_errorOf_89 fl_X11_33 lM_0 rfl ?_
    refine r_iload_n 2 dX11_errorOf_92 rfl ?_
    obtain ⟨hb2086, h⟩ := gd (fun z9 => z9) rfl h
    refine r_lald _ dX11_errorOf_93 lM_5 hb2086 ?_
    obtain ⟨r2087, hc2088, h⟩ := ob (fun z9 => z9) rfl h
    refine c_V (rest := []) 0 0 _ dX11_errorOf_94 kv_X11_341 (ct_M_newTeller hc2088) rfl rfl lM_0 rfl (Nat.le_of_ble_eq_true rfl) (by decide) (by decide) ?_
    refine r_iret dX11_errorOf_97 rfl ?_
    have h := Option.some.inj (show some _ = some o from h)
    subst h
    exact hq
  have h := iq (fun z9 => z9) hc2072 h
  by_cases hc2073 : (M_means p2.toNatClampNeg) = (3 : Int32)
  · have h := ip (fun z9 => z9) hc2073 h
    refine r_tableIn (tgt := 98) dX11_errorOf_6 (by rw [hc2073]; decide) (by rw [hc2073]; decide) (by rw [hc2073]; rfl) (by decide) ?_
    refine r_aload_n 0 dX11_errorOf_98 rfl ?_
    refine r_aload_n 1 dX11_errorOf_99 rfl ?_
    obtain ⟨r2089, hc2090, h⟩ := ob (fun z9 => z9) rfl h
    refine c_V (rest := []) 0 0 _ dX11_errorOf_100 kv_X11_344 (ct_M_newClaim hc2090) rfl rfl lM_0 rfl (Nat.le_of_ble_eq_true rfl) (by decide) (by decide) ?_
    refine r_iret dX11_errorOf_103 rfl ?_
    have h := Option.some.inj (show some _ = some o from h)
    subst h
    exact hq
  have h := iq (fun z9 => z9) hc2073 h
  by_cases hc2074 : (M_means p2.toNatClampNeg) = (4 : Int32)
  · have h := ip (fun z9 => z9) hc2074 h
    refine r_tableIn (tgt := 150) dX11_errorOf_6 (by rw [hc2074]; decide) (by rw [hc2074]; decide) (by rw [hc2074]; rfl) (by decide) ?_
    refine r_aload_n 0 dX11_errorOf_150 rfl ?_
    refine r_aload_n 1 dX11_errorOf_151 rfl ?_
    refine r_iload_n 2 dX11_errorOf_152 rfl ?_
    obtain ⟨r2091, hc2092, h⟩ := ob (fun z9 => z9) rfl h
    refine c_V (rest := []) 0 0 _ dX11_errorOf_153 kv_X11_351 (ct_M_ofClaim hc2092) rfl rfl lM_0 rfl (Nat.le_of_ble_eq_true rfl) (by decide) (by decide) ?_
    refine r_iret dX11_errorOf_156 rfl ?_
    have h := Option.some.inj (show some _ = some o from h)
    subst h
    exact hq
  have h := iq (fun z9 => z9) hc2074 h
  by_cases hc2075 : (M_means p2.toNatClampNeg) = (5 : Int32)
  · have h := ip (fun z9 => z9) hc2075 h
    refine r_tableIn (tgt := 150) dX11_errorOf_6 (by rw [hc2075]; decide) (by rw [hc2075]; decide) (by rw [hc2075]; rfl) (by decide) ?_
    refine r_aload_n 0 dX11_errorOf_150 rfl ?_
    refine r_aload_n 1 dX11_errorOf_151 rfl ?_
    refine r_iload_n 2 dX11_errorOf_152 rfl ?_
    obtain ⟨r2093, hc2094, h⟩ := ob (fun z9 => z9) rfl h
    refine c_V (rest := []) 0 0 _ dX11_errorOf_153 kv_X11_351 (ct_M_ofClaim hc2094) rfl rfl lM_0 rfl (Nat.le_of_ble_eq_true rfl) (by decide) (by decide) ?_
    refine r_iret dX11_errorOf_156 rfl ?_
    have h := Option.some.inj (show some _ = some o from h)
    subst h
    exact hq
  have h := iq (fun z9 => z9) hc2075 h
  by_cases hc2076 : (M_means p2.toNatClampNeg) = (6 : Int32)
  · have h := ip (fun z9 => z9) hc2076 h
    refine r_tableIn (tgt := 150) dX11_errorOf_6 (by rw [hc2076]; decide) (by rw [hc2076]; decide) (by rw [hc2076]; rfl) (by decide) ?_
    refine r_aload_n 0 dX11_errorOf_150 rfl ?_
    refine r_aload_n 1 dX11_errorOf_151 rfl ?_
    refine r_iload_n 2 dX11_errorOf_152 rfl ?_
    obtain ⟨r2095, hc2096, h⟩ := ob (fun z9 => z9) rfl h
    refine c_V (rest := []) 0 0 _ dX11_errorOf_153 kv_X11_351 (ct_M_ofClaim hc2096) rfl rfl lM_0 rfl (Nat.le_of_ble_eq_true rfl) (by decide) (by decide) ?_
    refine r_iret dX11_errorOf_156 rfl ?_
    have h := Option.some.inj (show some _ = some o from h)
    subst h
    exact hq
  have h := iq (fun z9 => z9) hc2076 h
  by_cases hc2077 : (M_means p2.toNatClampNeg) = (7 : Int32)
  · have h := ip (fun z9 => z9) hc2077 h
    refine r_tableIn (tgt := 150) dX11_errorOf_6 (by rw [hc2077]; decide) (by rw [hc2077]; decide) (by rw [hc2077]; rfl) (by decide) ?_
    refine r_aload_n 0 dX11_errorOf_150 rfl ?_
    refine r_aload_n 1 dX11_errorOf_151 rfl ?_
    refine r_iload_n 2 dX11_errorOf_152 rfl ?_
    obtain ⟨r2097, hc2098, h⟩ := ob (fun z9 => z9) rfl h
    refine c_V (rest := []) 0 0 _ dX11_errorOf_153 kv_X11_351 (ct_M_ofClaim hc2098) rfl rfl lM_0 rfl (Nat.le_of_ble_eq_true rfl) (by decide) (by decide) ?_
    refine r_iret dX11_errorOf_156 rfl ?_
    have h := Option.some.inj (show some _ = some o from h)
    subst h
    exact hq
  have h := iq (fun z9 => z9) hc2077 h
  by_cases hc2078 : (M_means p2.toNatClampNeg) = (8 : Int32)
  · have h := ip (fun z9 => z9) hc2078 h
    refine r_tableIn (tgt := 150) dX11_errorOf_6 (by rw [hc2078]; decide) (by rw [hc2078]; decide) (by rw [hc2078]; rfl) (by decide) ?_
    refine r_aload_n 0 dX11_errorOf_150 rfl ?_
    refine r_aload_n 1 dX11_errorOf_151 rfl ?_
    refine r_iload_n 2 dX11_errorOf_152 rfl ?_
    obtain ⟨r2099, hc2100, h⟩ := ob (fun z9 => z9) rfl h
    refine c_V (rest := []) 0 0 _ dX11_errorOf_153 kv_X11_351 (ct_M_ofClaim hc2100) rfl rfl lM_0 rfl (Nat.le_of_ble_eq_true rfl) (by decide) (by decide) ?_
    refine r_iret dX11_errorOf_156 rfl ?_
    have h := Option.some.inj (show some _ = some o from h)
    subst h
    exact hq
  have h := iq (fun z9 => z9) hc2078 h
  by_cases hc2079 : (M_means p2.toNatClampNeg) = (9 : Int32)
  · have h := ip (fun z9 => z9) hc2079 h
    refine r_tableIn (tgt := 104) dX11_errorOf_6 (by rw [hc2079]; decide) (by rw [hc2079]; decide) (by rw [hc2079]; rfl) (by decide) ?_
    refine r_aload_n 0 dX11_errorOf_104 rfl ?_
    refine r_aload_n 1 dX11_errorOf_105 rfl ?_
    obtain ⟨r2101, hc2102, h⟩ := ob (fun z9 => z9) rfl h
    refine c_V (rest := []) 0 0 _ dX11_errorOf_106 kv_X11_348 (ct_M_newOrder hc2102) rfl rfl lM_0 rfl (Nat.le_of_ble_eq_true rfl) (by decide) (by decide) ?_
    refine r_iret dX11_errorOf_109 rfl ?_
    have h := Option.some.inj (show some _ = some o from h)
    subst h
    exact hq
  have h := iq (fun z9 => z9) hc2079 h
  by_cases hc2080 : (M_means p2.toNatClampNeg) = (10 : Int32)
  · have h := ip (fun z9 => z9) hc2080 h
    refine r_tableIn (tgt := 110) dX11_errorOf_6 (by rw [hc2080]; decide) (by rw [hc2080]; decide) (by rw [hc2080]; rfl) (by decide) ?_
    refine r_aload_n 0 dX11_errorOf_110 rfl ?_
    refine r_aload_n 1 dX11_errorOf_111 rfl ?_
    refine r_iload_n 2 dX11_errorOf_112 rfl ?_
    obtain ⟨r2103, hc2104, h⟩ := ob (fun z9 => z9) rfl h
    refine c_V (rest := []) 0 0 _ dX11_errorOf_113 kv_X11_330 (ct_M_aTeller hc2104) rfl rfl lM_0 rfl (Nat.le_of_ble_eq_true rfl) (by decide) (by decide) ?_
    refine r_istore_n [(3, .int r2103.1), (0, .ref (am 0)), (1, .ref (ap 0)), (2, .int p2)] dX11_errorOf_116 (by decide) rfl ?_
    refine r_aload_n 2 dX11_errorOf_117 rfl ?_
    refine r_getf (v := .ref (ap 9)) _ dX11_errorOf_118 fl_X11_150 lP_0 rfl ?_
    refine r_aload_n 2 dX11_errorOf_121 rfl ?_
    refine r_getf (v := .int P_orders) _ dX11_errorOf_122 fl_X11_144 lP_0 rfl ?_
    refine r_iconst (v := (1 : Int32)) dX11_errorOf_125 (by decide) ?_
    refine r_isub dX11_errorOf_126 ?_
    refine r_aload_n 1 dX11_errorOf_127 rfl ?_
    refine r_getf (v := .ref (am 6)) _ dX11_errorOf_128 fl_X11_37 lM_0 rfl ?_
    refine r_iload_n 3 dX11_errorOf_131 rfl ?_
    obtain ⟨hb2105, h⟩ := gd (fun z9 => z9) rfl h
    refine r_iald _ dX11_errorOf_132 lM_6 hb2105 ?_
    obtain ⟨hb2106, h⟩ := gd (fun z9 => z9) rfl h
    refine r_iast _ dX11_errorOf_133 lP_9 hb2106 (sP_13 _) ?_
    refine r_iload_n 0 dX11_errorOf_134 rfl ?_
    refine r_iret dX11_errorOf_135 rfl ?_
    have h := Option.some.inj (show some _ = some o from h)
    subst h
    exact hq
  have h := iq (fun z9 => z9) hc2080 h
  by_cases hc2081 : (M_means p2.toNatClampNeg) = (11 : Int32)
  · have h := ip (fun z9 => z9) hc2081 h
    refine r_tableIn (tgt := 136) dX11_errorOf_6 (by rw [hc2081]; decide) (by rw [hc2081]; decide) (by rw [hc2081]; rfl) (by decide) ?_
    refine r_aload_n 0 dX11_errorOf_136 rfl ?_
    refine r_aload_n 1 dX11_errorOf_137 rfl ?_
    refine r_iload_n 2 dX11_errorOf_138 rfl ?_
    obtain ⟨r2107, hc2108, h⟩ := ob (fun z9 => z9) rfl h
    refine c_V (rest := []) 0 0 _ dX11_errorOf_139 kv_X11_334 (ct_M_anEvent hc2108) rfl rfl lM_0 rfl (Nat.le_of_ble_eq_true rfl) (by decide) (by decide) ?_
    refine r_iret dX11_errorOf_142 rfl ?_
    have h := Option.some.inj (show some _ = some o from h)
    subst h
    exact hq
  have h := iq (fun z9 => z9) hc2081 h
  by_cases hc2082 : (M_means p2.toNatClampNeg) = (12 : Int32)
  · have h := ip (fun z9 => z9) hc2082 h
    refine r_tableIn (tgt := 143) dX11_errorOf_6 (by rw [hc2082]; decide) (by rw [hc2082]; decide) (by rw [hc2082]; rfl) (by decide) ?_
    refine r_aload_n 0 dX11_errorOf_143 rfl ?_
    refine r_aload_n 1 dX11_errorOf_144 rfl ?_
    refine r_iload_n 2 dX11_errorOf_145 rfl ?_
    obtain ⟨r2109, hc2110, h⟩ := ob (fun z9 => z9) rfl h
    refine c_V (rest := []) 0 0 _ dX11_errorOf_146 kv_X11_330 (ct_M_aTeller hc2110) rfl rfl lM_0 rfl (Nat.le_of_ble_eq_true rfl) (by decide) (by decide) ?_
    refine r_iret dX11_errorOf_149 rfl ?_
    have h := Option.some.inj (show some _ = some o from h)
    subst h
    exact hq
  have h := iq (fun z9 => z9) hc2082 h
  have ehc2070 : ((M_means p2.toNatClampNeg)).toInt ≠ 0 := fun e => hc2070 (Int32.toInt_inj.mp (e.trans (by decide)))
  have ehc2071 : ((M_means p2.toNatClampNeg)).toInt ≠ 1 := fun e => hc2071 (Int32.toInt_inj.mp (e.trans (by decide)))
  have ehc2072 : ((M_means p2.toNatClampNeg)).toInt ≠ 2 := fun e => hc2072 (Int32.toInt_inj.mp (e.trans (by decide)))
  have ehc2073 : ((M_means p2.toNatClampNeg)).toInt ≠ 3 := fun e => hc2073 (Int32.toInt_inj.mp (e.trans (by decide)))
  have ehc2074 : ((M_means p2.toNatClampNeg)).toInt ≠ 4 := fun e => hc2074 (Int32.toInt_inj.mp (e.trans (by decide)))
  have ehc2075 : ((M_means p2.toNatClampNeg)).toInt ≠ 5 := fun e => hc2075 (Int32.toInt_inj.mp (e.trans (by decide)))
  have ehc2076 : ((M_means p2.toNatClampNeg)).toInt ≠ 6 := fun e => hc2076 (Int32.toInt_inj.mp (e.trans (by decide)))
  have ehc2077 : ((M_means p2.toNatClampNeg)).toInt ≠ 7 := fun e => hc2077 (Int32.toInt_inj.mp (e.trans (by decide)))
  have ehc2078 : ((M_means p2.toNatClampNeg)).toInt ≠ 8 := fun e => hc2078 (Int32.toInt_inj.mp (e.trans (by decide)))
  have ehc2079 : ((M_means p2.toNatClampNeg)).toInt ≠ 9 := fun e => hc2079 (Int32.toInt_inj.mp (e.trans (by decide)))
  have ehc2080 : ((M_means p2.toNatClampNeg)).toInt ≠ 10 := fun e => hc2080 (Int32.toInt_inj.mp (e.trans (by decide)))
  have ehc2081 : ((M_means p2.toNatClampNeg)).toInt ≠ 11 := fun e => hc2081 (Int32.toInt_inj.mp (e.trans (by decide)))
  have ehc2082 : ((M_means p2.toNatClampNeg)).toInt ≠ 12 := fun e => hc2082 (Int32.toInt_inj.mp (e.trans (by decide)))
  refine r_tableOut (tgt := 150) dX11_errorOf_6 (by omega) (by decide) ?_
  refine r_aload_n 0 dX11_errorOf_150 rfl ?_
  refine r_aload_n 1 dX11_errorOf_151 rfl ?_
  refine r_iload_n 2 dX11_errorOf_152 rfl ?_
  obtain ⟨r2111, hc2112, h⟩ := ob (fun z9 => z9) rfl h
  refine c_V (rest := []) 0 0 _ dX11_errorOf_153 kv_X11_351 (ct_M_ofClaim hc2112) rfl rfl lM_0 rfl (Nat.le_of_ble_eq_true rfl) (by decide) (by decide) ?_
  refine r_iret dX11_errorOf_156 rfl ?_
  have h := Option.some.inj (show some _ = some o from h)
  subst h
  exact hq
theorem ct_M_errorOf {g : GG} {am : Nat → Nat} {ap : Nat → Nat} {pm : Nat} {t : va_W} {m0 m1 m2 m3 m4 m5 m6 m7 m8 m9 m10 m11 m12 u4 : Int32} {m13 m15 m19 m20 m21 u12 u14 u15 u16 u17 u18 : Nat → Int32} {N : Nat} {M_kind : Nat → Int32} {M_means : Nat → Int32} {M_value : Nat → Int64} {M_who : Nat → Int32} {P_events : Int32} {P_tellers : Int32} {P_claims : Int32} {P_orders : Int32} {P_event : Nat → Int64} {P_teller : Nat → Int64} {P_kind : Nat → Int32} {P_by : Nat → Int32} {P_of : Nat → Int32} {P_other : Nat → Int32} {P_last : Nat → Int32} {P_whom : Nat → Int32} {p2 : Int32} {o : Int32 × (Nat → Int32) × Int32 × Int32 × Int32 × Int32 × (Nat → Int64) × (Nat → Int64) × (Nat → Int32) × (Nat → Int32) × (Nat → Int32) × (Nat → Int32) × (Nat → Int32) × (Nat → Int32)} (h : f_M_errorOf N M_kind M_means M_value M_who P_events P_tellers P_claims P_orders P_event P_teller P_kind P_by P_of P_other P_last P_whom p2 = some o) : Ct g mX11_errorOf 4 0 0 [.ref (am 0), .ref (ap 0), .int p2] (wlM g am pm m0 m1 m2 m3 m4 m5 m6 m7 m8 m9 m10 m11 m12 m13 M_kind m15 M_means M_value M_who m19 m20 m21 ++ (wlP g ap P_events P_tellers P_claims P_orders u4 P_event P_teller P_kind P_by P_of P_other P_last u12 P_whom u14 u15 u16 u17 u18 ++ t)) (Dv (some (.int o.1)) (wlM g am pm m0 m1 m2 m3 m4 m5 m6 m7 m8 m9 m10 m11 m12 m13 M_kind m15 M_means M_value o.2.1 m19 m20 m21 ++ (wlP g ap o.2.2.1 o.2.2.2.1 o.2.2.2.2.1 o.2.2.2.2.2.1 u4 o.2.2.2.2.2.2.1 o.2.2.2.2.2.2.2.1 o.2.2.2.2.2.2.2.2.1 o.2.2.2.2.2.2.2.2.2.1 o.2.2.2.2.2.2.2.2.2.2.1 o.2.2.2.2.2.2.2.2.2.2.2.1 o.2.2.2.2.2.2.2.2.2.2.2.2.1 u12 o.2.2.2.2.2.2.2.2.2.2.2.2.2 u14 u15 u16 u17 u18 ++ t))) := Ct.ofR (by decide +kernel) rfl (Nat.le_of_ble_eq_true rfl) (rt_M_errorOf h ⟨rfl, rfl⟩)
set_option maxRecDepth 20000 in
set_option maxHeartbeats 4000000 in
theorem rt_M_settle {g : GG} {am : Nat → Nat} {ap : Nat → Nat} {pm : Nat} {t : va_W} {m0 m1 m2 m3 m4 m5 m6 m7 m8 m9 m10 m11 m12 u0 u1 u2 u3 : Int32} {m13 m14 m15 m16 m19 m20 m21 u7 u8 u9 u10 u11 u12 u13 u14 u15 : Nat → Int32} {m17 u5 u6 : Nat → Int64} {N : Nat} {M_who : Nat → Int32} {P_many : Int32} {P_order : Nat → Int32} {P_with : Nat → Int32} {P_also : Nat → Int32} {o : (Nat → Int32) × (Nat → Int32)} {Q : Rs → va_W → Prop} (h : f_M_settle N M_who P_many P_order P_with P_also = some o) (hq : Q (.inl (none)) (wlM g am pm m0 m1 m2 m3 m4 m5 m6 m7 m8 m9 m10 m11 m12 m13 m14 m15 m16 m17 M_who m19 m20 m21 ++ (wlP g ap u0 u1 u2 u3 P_many u5 u6 u7 u8 u9 u10 u11 u12 u13 u14 u15 P_order o.1 o.2 ++ t))) : R g mX11_settle 2 0 0 0 [(0, .ref (am 0)), (1, .ref (ap 0))] [] (wlM g am pm m0 m1 m2 m3 m4 m5 m6 m7 m8 m9 m10 m11 m12 m13 m14 m15 m16 m17 M_who m19 m20 m21 ++ (wlP g ap u0 u1 u2 u3 P_many u5 u6 u7 u8 u9 u10 u11 u12 u13 u14 u15 P_order P_with P_also ++ t)) Q := by
  unfold f_M_settle at h
  refine r_iconst (v := (0 : Int32)) dX11_settle_0 (by decide) ?_
  refine r_istore_n [(2, .int (0 : Int32)), (0, .ref (am 0)), (1, .ref (ap 0))] dX11_settle_1 (by decide) rfl ?_
  refine r_ls [1, 2, 0] (ls2 := [(0, .ref (am 0)), (1, .ref (ap 0)), (2, .int (0 : Int32))]) rfl ?_
  have L1 : ∀ (n1 : Nat) (l2_1 : Int32) (P_with_1 : Nat → Int32) (P_also_1 : Nat → Int32), (fun z9 => z9) (lpS (f_M_settle_L2 M_who P_many P_order) none n1 (l2_1, P_with_1, P_also_1)) = some o → R g mX11_settle 2 0 0 2 [(0, .ref (am 0)), (1, .ref (ap 0)), (2, .int l2_1)] [] (wlM g am pm m0 m1 m2 m3 m4 m5 m6 m7 m8 m9 m10 m11 m12 m13 m14 m15 m16 m17 M_who m19 m20 m21 ++ (wlP g ap u0 u1 u2 u3 P_many u5 u6 u7 u8 u9 u10 u11 u12 u13 u14 u15 P_order P_with_1 P_also_1 ++ t)) Q := by
    intro n1
    induction n1 with
    | zero => intro l2_1 P_with_1 P_also_1 h; exact nomatch (show (none : Option _) = some _ from h)
    | succ n1 ih1 =>
      intro l2_1 P_with_1 P_also_1 h
      have h : (fun z9 => (lC (f_M_settle_L2 M_who P_many P_order) none n1 z9)) (f_M_settle_L2 M_who P_many P_order (l2_1, P_with_1, P_also_1)) = some o := h
      unfold f_M_settle_L2 at h
      try dsimp only at h
      refine r_iload_n 2 dX11_settle_2 rfl ?_
      refine r_aload_n 1 dX11_settle_3 rfl ?_
      refine r_getf (v := .int P_many) _ dX11_settle_4 fl_X11_261 lP_0 rfl ?_
      refine r_icmp_ge (tgt := 92) dX11_settle_7 (by decide) (fun hc2113 => ?_) (fun hc2113 => ?_)
      · have h := ip (fun z9 => (lC (f_M_settle_L2 M_who P_many P_order) none n1 z9)) hc2113 h
        refine r_vret dX11_settle_92 rfl ?_
        have h := Option.some.inj (show some _ = some o from h)
        subst h
        exact hq
      · have h := iq (fun z9 => (lC (f_M_settle_L2 M_who P_many P_order) none n1 z9)) hc2113 h
        refine r_aload_n 1 dX11_settle_10 rfl ?_
        refine r_getf (v := .ref (ap 12)) _ dX11_settle_11 fl_X11_187 lP_0 rfl ?_
        refine r_iload_n 2 dX11_settle_14 rfl ?_
        obtain ⟨hb2114, h⟩ := gd (fun z9 => (lC (f_M_settle_L2 M_who P_many P_order) none n1 z9)) rfl h
        refine r_iald _ dX11_settle_15 lP_12 hb2114 ?_
        refine r_istore_n [(3, .int (P_order l2_1.toNatClampNeg)), (0, .ref (am 0)), (1, .ref (ap 0)), (2, .int l2_1)] dX11_settle_16 (by decide) rfl ?_
        refine r_iload_n 0 dX11_settle_17 rfl ?_
        refine r_bipush (v := (17 : Int32)) dX11_settle_18 (by decide) ?_
        refine r_icmp_ne (tgt := 40) dX11_settle_20 (by decide) (fun hc2115 => ?_) (fun hc2115 => ?_)
        · have h := iq (fun z9 => (lC (f_M_settle_L2 M_who P_many P_order) none n1 z9)) hc2115 h
          refine r_iload_n 0 dX11_settle_40 rfl ?_
          refine r_bipush (v := (13 : Int32)) dX11_settle_41 (by decide) ?_
          refine r_icmp_eq (tgt := 69) dX11_settle_43 (by decide) (fun hc2116 => ?_) (fun hc2116 => ?_)
          · have h := ip (fun z9 => (lC (f_M_settle_L2 M_who P_many P_order) none n1 z9)) hc2116 h
            refine r_aload_n 2 dX11_settle_69 rfl ?_
            refine r_getf (v := .ref (ap 13)) _ dX11_settle_70 fl_X11_193 lP_0 rfl ?_
            refine r_iload_n 3 dX11_settle_73 rfl ?_
            refine r_aload_n 1 dX11_settle_74 rfl ?_
            refine r_getf (v := .ref (am 6)) _ dX11_settle_75 fl_X11_37 lM_0 rfl ?_
            refine r_aload_n 2 dX11_settle_78 rfl ?_
            refine r_getf (v := .ref (ap 13)) _ dX11_settle_79 fl_X11_193 lP_0 rfl ?_
            refine r_iload_n 3 dX11_settle_82 rfl ?_
            obtain ⟨hb2117, h⟩ := gd (fun z9 => (lC (f_M_settle_L2 M_who P_many P_order) none n1 z9)) rfl h
            refine r_iald _ dX11_settle_83 lP_13 hb2117 ?_
            obtain ⟨hb2118, h⟩ := gd (fun z9 => (lC (f_M_settle_L2 M_who P_many P_order) none n1 z9)) rfl h
            refine r_iald _ dX11_settle_84 lM_6 hb2118 ?_
            obtain ⟨hb2119, h⟩ := gd (fun z9 => (lC (f_M_settle_L2 M_who P_many P_order) none n1 z9)) rfl h
            refine r_iast _ dX11_settle_85 lP_13 hb2119 (sP_17 _) ?_
            refine r_iinc (v2 := (l2_1 + (1 : Int32))) 3 [(2, .int (l2_1 + (1 : Int32))), (3, .int (P_order l2_1.toNatClampNeg)), (0, .ref (am 0)), (1, .ref (ap 0))] dX11_settle_86 rfl rfl (by decide) rfl ?_
            refine r_goto (tgt := 2) dX11_settle_89 (by decide) ?_
            refine r_ls [2, 3, 0] (ls2 := [(0, .ref (am 0)), (1, .ref (ap 0)), (2, .int (l2_1 + (1 : Int32)))]) rfl ?_
            exact ih1 (l2_1 + (1 : Int32)) (upd P_with_1 l2_1.toNatClampNeg (M_who (P_with_1 l2_1.toNatClampNeg).toNatClampNeg)) P_also_1 h
          · have h := iq (fun z9 => (lC (f_M_settle_L2 M_who P_many P_order) none n1 z9)) hc2116 h
            refine r_iload_n 0 dX11_settle_46 rfl ?_
            refine r_bipush (v := (14 : Int32)) dX11_settle_47 (by decide) ?_
            refine r_icmp_eq (tgt := 69) dX11_settle_49 (by decide) (fun hc2120 => ?_) (fun hc2120 => ?_)
            · have h := ip (fun z9 => (lC (f_M_settle_L2 M_who P_many P_order) none n1 z9)) hc2120 h
              refine r_aload_n 2 dX11_settle_69 rfl ?_
              refine r_getf (v := .ref (ap 13)) _ dX11_settle_70 fl_X11_193 lP_0 rfl ?_
              refine r_iload_n 3 dX11_settle_73 rfl ?_
              refine r_aload_n 1 dX11_settle_74 rfl ?_
              refine r_getf (v := .ref (am 6)) _ dX11_settle_75 fl_X11_37 lM_0 rfl ?_
              refine r_aload_n 2 dX11_settle_78 rfl ?_
              refine r_getf (v := .ref (ap 13)) _ dX11_settle_79 fl_X11_193 lP_0 rfl ?_
              refine r_iload_n 3 dX11_settle_82 rfl ?_
              obtain ⟨hb2121, h⟩ := gd (fun z9 => (lC (f_M_settle_L2 M_who P_many P_order) none n1 z9)) rfl h
              refine r_iald _ dX11_settle_83 lP_13 hb2121 ?_
              obtain ⟨hb2122, h⟩ := gd (fun z9 => (lC (f_M_settle_L2 M_who P_many P_order) none n1 z9)) rfl h
              refine r_iald _ dX11_settle_84 lM_6 hb2122 ?_
              obtain ⟨hb2123, h⟩ := gd (fun z9 => (lC (f_M_settle_L2 M_who P_many P_order) none n1 z9)) rfl h
              refine r_iast _ dX11_settle_85 lP_13 hb2123 (sP_17 _) ?_
              refine r_iinc (v2 := (l2_1 + (1 : Int32))) 3 [(2, .int (l2_1 + (1 : Int32))), (3, .int (P_order l2_1.toNatClampNeg)), (0, .ref (am 0)), (1, .ref (ap 0))] dX11_settle_86 rfl rfl (by decide) rfl ?_
              refine r_goto (tgt := 2) dX11_settle_89 (by decide) ?_
              refine r_ls [2, 3, 0] (ls2 := [(0, .ref (am 0)), (1, .ref (ap 0)), (2, .int (l2_1 + (1 : Int32)))]) rfl ?_
              exact ih1 (l2_1 + (1 : Int32)) (upd P_with_1 l2_1.toNatClampNeg (M_who (P_with_1 l2_1.toNatClampNeg).toNatClampNeg)) P_also_1 h
            · have h := iq (fun z9 => (lC (f_M_settle_L2 M_who P_many P_order) none n1 z9)) hc2120 h
              refine r_iload_n 0 dX11_settle_52 rfl ?_
              refine r_bipush (v := (15 : Int32)) dX11_settle_53 (by decide) ?_
              refine r_icmp_eq (tgt := 69) dX11_settle_55 (by decide) (fun hc2124 => ?_) (fun hc2124 => ?_)
              · have h := ip (fun z9 => (lC (f_M_settle_L2 M_who P_many P_order) none n1 z9)) hc2124 h
                refine r_aload_n 2 dX11_settle_69 rfl ?_
                refine r_getf (v := .ref (ap 13)) _ dX11_settle_70 fl_X11_193 lP_0 rfl ?_
                refine r_iload_n 3 dX11_settle_73 rfl ?_
                refine r_aload_n 1 dX11_settle_74 rfl ?_
                refine r_getf (v := .ref (am 6)) _ dX11_settle_75 fl_X11_37 lM_0 rfl ?_
                refine r_aload_n 2 dX11_settle_78 rfl ?_
                refine r_getf (v := .ref (ap 13)) _ dX11_settle_79 fl_X11_193 lP_0 rfl ?_
                refine r_iload_n 3 dX11_settle_82 rfl ?_
                obtain ⟨hb2125, h⟩ := gd (fun z9 => (lC (f_M_settle_L2 M_who P_many P_order) none n1 z9)) rfl h
                refine r_iald _ dX11_settle_83 lP_13 hb2125 ?_
                obtain ⟨hb2126, h⟩ := gd (fun z9 => (lC (f_M_settle_L2 M_who P_many P_order) none n1 z9)) rfl h
                refine r_iald _ dX11_settle_84 lM_6 hb2126 ?_
                obtain ⟨hb2127, h⟩ := gd (fun z9 => (lC (f_M_settle_L2 M_who P_many P_order) none n1 z9)) rfl h
                refine r_iast _ dX11_settle_85 lP_13 hb2127 (sP_17 _) ?_
                refine r_iinc (v2 := (l2_1 + (1 : Int32))) 3 [(2, .int (l2_1 + (1 : Int32))), (3, .int (P_order l2_1.toNatClampNeg)), (0, .ref (am 0)), (1, .ref (ap 0))] dX11_settle_86 rfl rfl (by decide) rfl ?_
                refine r_goto (tgt := 2) dX11_settle_89 (by decide) ?_
                refine r_ls [2, 3, 0] (ls2 := [(0, .ref (am 0)), (1, .ref (ap 0)), (2, .int (l2_1 + (1 : Int32)))]) rfl ?_
                exact ih1 (l2_1 + (1 : Int32)) (upd P_with_1 l2_1.toNatClampNeg (M_who (P_with_1 l2_1.toNatClampNeg).toNatClampNeg)) P_also_1 h
              · have h := iq (fun z9 => (lC (f_M_settle_L2 M_who P_many P_order) none n1 z9)) hc2124 h
                refine r_iload_n 0 dX11_settle_58 rfl ?_
                refine r_bipush (v := (17 : Int32)) dX11_settle_59 (by decide) ?_
                refine r_bipush (v := (19 : Int32)) dX11_settle_61 (by decide) ?_
                refine c_S (rest := []) 0 0 dX11_settle_63 ks_X11_58 (ct_M_isIn rfl) rfl rfl (Nat.le_of_ble_eq_true rfl) (by decide) (by decide) ?_
                refine r_if_eq (tgt := 86) dX11_settle_66 (by decide) (fun hc2128 => ?_) (fun hc2128 => ?_)
                · have h := ip (fun z9 => (lC (f_M_settle_L2 M_who P_many P_order) none n1 z9)) hc2128 h
                  refine r_iinc (v2 := (l2_1 + (1 : Int32))) 3 [(2, .int (l2_1 + (1 : Int32))), (3, .int (P_order l2_1.toNatClampNeg)), (0, .ref (am 0)), (1, .ref (ap 0))] dX11_settle_86 rfl rfl (by decide) rfl ?_
                  refine r_goto (tgt := 2) dX11_settle_89 (by decide) ?_
                  refine r_ls [2, 3, 0] (ls2 := [(0, .ref (am 0)), (1, .ref (ap 0)), (2, .int (l2_1 + (1 : Int32)))]) rfl ?_
                  exact ih1 (l2_1 + (1 : Int32)) P_with_1 P_also_1 h
                · have h := iq (fun z9 => (lC (f_M_settle_L2 M_who P_many P_order) none n1 z9)) hc2128 h
                  refine r_aload_n 2 dX11_settle_69 rfl ?_
                  refine r_getf (v := .ref (ap 13)) _ dX11_settle_70 fl_X11_193 lP_0 rfl ?_
                  refine r_iload_n 3 dX11_settle_73 rfl ?_
                  refine r_aload_n 1 dX11_settle_74 rfl ?_
                  refine r_getf (v := .ref (am 6)) _ dX11_settle_75 fl_X11_37 lM_0 rfl ?_
                  refine r_aload_n 2 dX11_settle_78 rfl ?_
                  refine r_getf (v := .ref (ap 13)) _ dX11_settle_79 fl_X11_193 lP_0 rfl ?_
                  refine r_iload_n 3 dX11_settle_82 rfl ?_
                  obtain ⟨hb2129, h⟩ := gd (fun z9 => (lC (f_M_settle_L2 M_who P_many P_order) none n1 z9)) rfl h
                  refine r_iald _ dX11_settle_83 lP_13 hb2129 ?_
                  obtain ⟨hb2130, h⟩ := gd (fun z9 => (lC (f_M_settle_L2 M_who P_many P_order) none n1 z9)) rfl h
                  refine r_iald _ dX11_settle_84 lM_6 hb2130 ?_
                  obtain ⟨hb2131, h⟩ := gd (fun z9 => (lC (f_M_settle_L2 M_who P_many P_order) none n1 z9)) rfl h
                  refine r_iast _ dX11_settle_85 lP_13 hb2131 (sP_17 _) ?_
                  refine r_iinc (v2 := (l2_1 + (1 : Int32))) 3 [(2, .int (l2_1 + (1 : Int32))), (3, .int (P_order l2_1.toNatClampNeg)), (0, .ref (am 0)), (1, .ref (ap 0))] dX11_settle_86 rfl rfl (by decide) rfl ?_
                  refine r_goto (tgt := 2) dX11_settle_89 (by decide) ?_
                  refine r_ls [2, 3, 0] (ls2 := [(0, .ref (am 0)), (1, .ref (ap 0)), (2, .int (l2_1 + (1 : Int32)))]) rfl ?_
                  exact ih1 (l2_1 + (1 : Int32)) (upd P_with_1 l2_1.toNatClampNeg (M_who (P_with_1 l2_1.toNatClampNeg).toNatClampNeg)) P_also_1 h
        · have h := ip (fun z9 => (lC (f_M_settle_L2 M_who P_many P_order) none n1 z9)) hc2115 h
          refine r_aload_n 2 dX11_settle_23 rfl ?_
          refine r_getf (v := .ref (ap 14)) _ dX11_settle_24 fl_X11_196 lP_0 rfl ?_
          refine r_iload_n 3 dX11_settle_27 rfl ?_
          refine r_aload_n 1 dX11_settle_28 rfl ?_
          refine r_getf (v := .ref (am 6)) _ dX11_settle_29 fl_X11_37 lM_0 rfl ?_
          refine r_aload_n 2 dX11_settle_32 rfl ?_
          refine r_getf (v := .ref (ap 14)) _ dX11_settle_33 fl_X11_196 lP_0 rfl ?_
          refine r_iload_n 3 dX11_settle_36 rfl ?_
          obtain ⟨hb2132, h⟩ := gd (fun z9 => (lC (f_M_settle_L2 M_who P_many P_order) none n1 z9)) rfl h
          refine r_iald _ dX11_settle_37 lP_14 hb2132 ?_
          obtain ⟨hb2133, h⟩ := gd (fun z9 => (lC (f_M_settle_L2 M_who P_many P_order) none n1 z9)) rfl h
          refine r_iald _ dX11_settle_38 lM_6 hb2133 ?_
          obtain ⟨hb2134, h⟩ := gd (fun z9 => (lC (f_M_settle_L2 M_who P_many P_order) none n1 z9)) rfl h
          refine r_iast _ dX11_settle_39 lP_14 hb2134 (sP_18 _) ?_
          refine r_iload_n 0 dX11_settle_40 rfl ?_
          refine r_bipush (v := (13 : Int32)) dX11_settle_41 (by decide) ?_
          refine r_icmp_eq (tgt := 69) dX11_settle_43 (by decide) (fun hc2135 => ?_) (fun hc2135 => ?_)
          · have h := ip (fun z9 => (lC (f_M_settle_L2 M_who P_many P_order) none n1 z9)) hc2135 h
            refine r_aload_n 2 dX11_settle_69 rfl ?_
            refine r_getf (v := .ref (ap 13)) _ dX11_settle_70 fl_X11_193 lP_0 rfl ?_
            refine r_iload_n 3 dX11_settle_73 rfl ?_
            refine r_aload_n 1 dX11_settle_74 rfl ?_
            refine r_getf (v := .ref (am 6)) _ dX11_settle_75 fl_X11_37 lM_0 rfl ?_
            refine r_aload_n 2 dX11_settle_78 rfl ?_
            refine r_getf (v := .ref (ap 13)) _ dX11_settle_79 fl_X11_193 lP_0 rfl ?_
            refine r_iload_n 3 dX11_settle_82 rfl ?_
            obtain ⟨hb2136, h⟩ := gd (fun z9 => (lC (f_M_settle_L2 M_who P_many P_order) none n1 z9)) rfl h
            refine r_iald _ dX11_settle_83 lP_13 hb2136 ?_
            obtain ⟨hb2137, h⟩ := gd (fun z9 => (lC (f_M_settle_L2 M_who P_many P_order) none n1 z9)) rfl h
            refine r_iald _ dX11_settle_84 lM_6 hb2137 ?_
            obtain ⟨hb2138, h⟩ := gd (fun z9 => (lC (f_M_settle_L2 M_who P_many P_order) none n1 z9)) rfl h
            refine r_iast _ dX11_settle_85 lP_13 hb2138 (sP_17 _) ?_
            refine r_iinc (v2 := (l2_1 + (1 : Int32))) 3 [(2, .int (l2_1 + (1 : Int32))), (3, .int (P_order l2_1.toNatClampNeg)), (0, .ref (am 0)), (1, .ref (ap 0))] dX11_settle_86 rfl rfl (by decide) rfl ?_
            refine r_goto (tgt := 2) dX11_settle_89 (by decide) ?_
            refine r_ls [2, 3, 0] (ls2 := [(0, .ref (am 0)), (1, .ref (ap 0)), (2, .int (l2_1 + (1 : Int32)))]) rfl ?_
            exact ih1 (l2_1 + (1 : Int32)) (upd P_with_1 l2_1.toNatClampNeg (M_who (P_with_1 l2_1.toNatClampNeg).toNatClampNeg)) (upd P_also_1 l2_1.toNatClampNeg (M_who (P_also_1 l2_1.toNatClampNeg).toNatClampNeg)) h
          · have h := iq (fun z9 => (lC (f_M_settle_L2 M_who P_many P_order) none n1 z9)) hc2135 h
            refine r_iload_n 0 dX11_settle_46 rfl ?_
            refine r_bipush (v := (14 : Int32)) dX11_settle_47 (by decide) ?_
            refine r_icmp_eq (tgt := 69) dX11_settle_49 (by decide) (fun hc2139 => ?_) (fun hc2139 => ?_)
            · have h := ip (fun z9 => (lC (f_M_settle_L2 M_who P_many P_order) none n1 z9)) hc2139 h
              refine r_aload_n 2 dX11_settle_69 rfl ?_
              refine r_getf (v := .ref (ap 13)) _ dX11_settle_70 fl_X11_193 lP_0 rfl ?_
              refine r_iload_n 3 dX11_settle_73 rfl ?_
              refine r_aload_n 1 dX11_settle_74 rfl ?_
              refine r_getf (v := .ref (am 6)) _ dX11_settle_75 fl_X11_37 lM_0 rfl ?_
              refine r_aload_n 2 dX11_settle_78 rfl ?_
              refine r_getf (v := .ref (ap 13)) _ dX11_settle_79 fl_X11_193 lP_0 rfl ?_
              refine r_iload_n 3 dX11_settle_82 rfl ?_
              obtain ⟨hb2140, h⟩ := gd (fun z9 => (lC (f_M_settle_L2 M_who P_many P_order) none n1 z9)) rfl h
              refine r_iald _ dX11_settle_83 lP_13 hb2140 ?_
              obtain ⟨hb2141, h⟩ := gd (fun z9 => (lC (f_M_settle_L2 M_who P_many P_order) none n1 z9)) rfl h
              refine r_iald _ dX11_settle_84 lM_6 hb2141 ?_
              obtain ⟨hb2142, h⟩ := gd (fun z9 => (lC (f_M_settle_L2 M_who P_many P_order) none n1 z9)) rfl h
              refine r_iast _ dX11_settle_85 lP_13 hb2142 (sP_17 _) ?_
              refine r_iinc (v2 := (l2_1 + (1 : Int32))) 3 [(2, .int (l2_1 + (1 : Int32))), (3, .int (P_order l2_1.toNatClampNeg)), (0, .ref (am 0)), (1, .ref (ap 0))] dX11_settle_86 rfl rfl (by decide) rfl ?_
              refine r_goto (tgt := 2) dX11_settle_89 (by decide) ?_
              refine r_ls [2, 3, 0] (ls2 := [(0, .ref (am 0)), (1, .ref (ap 0)), (2, .int (l2_1 + (1 : Int32)))]) rfl ?_
              exact ih1 (l2_1 + (1 : Int32)) (upd P_with_1 l2_1.toNatClampNeg (M_who (P_with_1 l2_1.toNatClampNeg).toNatClampNeg)) (upd P_also_1 l2_1.toNatClampNeg (M_who (P_also_1 l2_1.toNatClampNeg).toNatClampNeg)) h
            · have h := iq (fun z9 => (lC (f_M_settle_L2 M_who P_many P_order) none n1 z9)) hc2139 h
              refine r_iload_n 0 dX11_settle_52 rfl ?_
              refine r_bipush (v := (15 : Int32)) dX11_settle_53 (by decide) ?_
              refine r_icmp_eq (tgt := 69) dX11_settle_55 (by decide) (fun hc2143 => ?_) (fun hc2143 => ?_)
              · have h := ip (fun z9 => (lC (f_M_settle_L2 M_who P_many P_order) none n1 z9)) hc2143 h
                refine r_aload_n 2 dX11_settle_69 rfl ?_
                refine r_getf (v := .ref (ap 13)) _ dX11_settle_70 fl_X11_193 lP_0 rfl ?_
                refine r_iload_n 3 dX11_settle_73 rfl ?_
                refine r_aload_n 1 dX11_settle_74 rfl ?_
                refine r_getf (v := .ref (am 6)) _ dX11_settle_75 fl_X11_37 lM_0 rfl ?_
                refine r_aload_n 2 dX11_settle_78 rfl ?_
                refine r_getf (v := .ref (ap 13)) _ dX11_settle_79 fl_X11_193 lP_0 rfl ?_
                refine r_iload_n 3 dX11_settle_82 rfl ?_
                obtain ⟨hb2144, h⟩ := gd (fun z9 => (lC (f_M_settle_L2 M_who P_many P_order) none n1 z9)) rfl h
                refine r_iald _ dX11_settle_83 lP_13 hb2144 ?_
                obtain ⟨hb2145, h⟩ := gd (fun z9 => (lC (f_M_settle_L2 M_who P_many P_order) none n1 z9)) rfl h
                refine r_iald _ dX11_settle_84 lM_6 hb2145 ?_
                obtain ⟨hb2146, h⟩ := gd (fun z9 => (lC (f_M_settle_L2 M_who P_many P_order) none n1 z9)) rfl h
                refine r_iast _ dX11_settle_85 lP_13 hb2146 (sP_17 _) ?_
                refine r_iinc (v2 := (l2_1 + (1 : Int32))) 3 [(2, .int (l2_1 + (1 : Int32))), (3, .int (P_order l2_1.toNatClampNeg)), (0, .ref (am 0)), (1, .ref (ap 0))] dX11_settle_86 rfl rfl (by decide) rfl ?_
                refine r_goto (tgt := 2) dX11_settle_89 (by decide) ?_
                refine r_ls [2, 3, 0] (ls2 := [(0, .ref (am 0)), (1, .ref (ap 0)), (2, .int (l2_1 + (1 : Int32)))]) rfl ?_
                exact ih1 (l2_1 + (1 : Int32)) (upd P_with_1 l2_1.toNatClampNeg (M_who (P_with_1 l2_1.toNatClampNeg).toNatClampNeg)) (upd P_also_1 l2_1.toNatClampNeg (M_who (P_also_1 l2_1.toNatClampNeg).toNatClampNeg)) h
              · have h := iq (fun z9 => (lC (f_M_settle_L2 M_who P_many P_order) none n1 z9)) hc2143 h
                refine r_iload_n 0 dX11_settle_58 rfl ?_
                refine r_bipush (v := (17 : Int32)) dX11_settle_59 (by decide) ?_
                refine r_bipush (v := (19 : Int32)) dX11_settle_61 (by decide) ?_
                refine c_S (rest := []) 0 0 dX11_settle_63 ks_X11_58 (ct_M_isIn rfl) rfl rfl (Nat.le_of_ble_eq_true rfl) (by decide) (by decide) ?_
                refine r_if_eq (tgt := 86) dX11_settle_66 (by decide) (fun hc2147 => ?_) (fun hc2147 => ?_)
                · have h := ip (fun z9 => (lC (f_M_settle_L2 M_who P_many P_order) none n1 z9)) hc2147 h
                  refine r_iinc (v2 := (l2_1 + (1 : Int32))) 3 [(2, .int (l2_1 + (1 : Int32))), (3, .int (P_order l2_1.toNatClampNeg)), (0, .ref (am 0)), (1, .ref (ap 0))] dX11_settle_86 rfl rfl (by decide) rfl ?_
                  refine r_goto (tgt := 2) dX11_settle_89 (by decide) ?_
                  refine r_ls [2, 3, 0] (ls2 := [(0, .ref (am 0)), (1, .ref (ap 0)), (2, .int (l2_1 + (1 : Int32)))]) rfl ?_
                  exact ih1 (l2_1 + (1 : Int32)) P_with_1 (upd P_also_1 l2_1.toNatClampNeg (M_who (P_also_1 l2_1.toNatClampNeg).toNatClampNeg)) h
                · have h := iq (fun z9 => (lC (f_M_settle_L2 M_who P_many P_order) none n1 z9)) hc2147 h
                  refine r_aload_n 2 dX11_settle_69 rfl ?_
                  refine r_getf (v := .ref (ap 13)) _ dX11_settle_70 fl_X11_193 lP_0 rfl ?_
                  refine r_iload_n 3 dX11_settle_73 rfl ?_
                  refine r_aload_n 1 dX11_settle_74 rfl ?_
                  refine r_getf (v := .ref (am 6)) _ dX11_settle_75 fl_X11_37 lM_0 rfl ?_
                  refine r_aload_n 2 dX11_settle_78 rfl ?_
                  refine r_getf (v := .ref (ap 13)) _ dX11_settle_79 fl_X11_193 lP_0 rfl ?_
                  refine r_iload_n 3 dX11_settle_82 rfl ?_
                  obtain ⟨hb2148, h⟩ := gd (fun z9 => (lC (f_M_settle_L2 M_who P_many P_order) none n1 z9)) rfl h
                  refine r_iald _ dX11_settle_83 lP_13 hb2148 ?_
                  obtain ⟨hb2149, h⟩ := gd (fun z9 => (lC (f_M_settle_L2 M_who P_many P_order) none n1 z9)) rfl h
                  refine r_iald _ dX11_settle_84 lM_6 hb2149 ?_
                  obtain ⟨hb2150, h⟩ := gd (fun z9 => (lC (f_M_settle_L2 M_who P_many P_order) none n1 z9)) rfl h
                  refine r_iast _ dX11_settle_85 lP_13 hb2150 (sP_17 _) ?_
                  refine r_iinc (v2 := (l2_1 + (1 : Int32))) 3 [(2, .int (l2_1 + (1 : Int32))), (3, .int (P_order l2_1.toNatClampNeg)), (0, .ref (am 0)), (1, .ref (ap 0))] dX11_settle_86 rfl rfl (by decide) rfl ?_
                  refine r_goto (tgt := 2) dX11_settle_89 (by decide) ?_
                  refine r_ls [2, 3, 0] (ls2 := [(0, .ref (am 0)), (1, .ref (ap 0)), (2, .int (l2_1 + (1 : Int32)))]) rfl ?_
                  exact ih1 (l2_1 + (1 : Int32)) (upd P_with_1 l2_1.toNatClampNeg (M_who (P_with_1 l2_1.toNatClampNeg).toNatClampNeg)) (upd P_also_1 l2_1.toNatClampNeg (M_who (P_also_1 l2_1.toNatClampNeg).toNatClampNeg)) h
  exact L1 _ (0 : Int32) P_with P_also h
theorem ct_M_settle {g : GG} {am : Nat → Nat} {ap : Nat → Nat} {pm : Nat} {t : va_W} {m0 m1 m2 m3 m4 m5 m6 m7 m8 m9 m10 m11 m12 u0 u1 u2 u3 : Int32} {m13 m14 m15 m16 m19 m20 m21 u7 u8 u9 u10 u11 u12 u13 u14 u15 : Nat → Int32} {m17 u5 u6 : Nat → Int64} {N : Nat} {M_who : Nat → Int32} {P_many : Int32} {P_order : Nat → Int32} {P_with : Nat → Int32} {P_also : Nat → Int32} {o : (Nat → Int32) × (Nat → Int32)} (h : f_M_settle N M_who P_many P_order P_with P_also = some o) : Ct g mX11_settle 2 0 0 [.ref (am 0), .ref (ap 0)] (wlM g am pm m0 m1 m2 m3 m4 m5 m6 m7 m8 m9 m10 m11 m12 m13 m14 m15 m16 m17 M_who m19 m20 m21 ++ (wlP g ap u0 u1 u2 u3 P_many u5 u6 u7 u8 u9 u10 u11 u12 u13 u14 u15 P_order P_with P_also ++ t)) (Dv (none) (wlM g am pm m0 m1 m2 m3 m4 m5 m6 m7 m8 m9 m10 m11 m12 m13 m14 m15 m16 m17 M_who m19 m20 m21 ++ (wlP g ap u0 u1 u2 u3 P_many u5 u6 u7 u8 u9 u10 u11 u12 u13 u14 u15 P_order o.1 o.2 ++ t))) := Ct.ofR (by decide +kernel) rfl (Nat.le_of_ble_eq_true rfl) (rt_M_settle h ⟨rfl, rfl⟩)
