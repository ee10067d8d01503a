set_option maxRecDepth 20000 in
set_option maxHeartbeats 4000000 in
theorem rt_Co_pop {g : GG} {ad : Nat → Nat} {t : va_W} {x0 x1 x3 x4 x5 x11 x12 x18 x19 x20 x24 x25 x26 x27 x28 x29 x30 x31 x37 x39 x40 x41 x47 x48 x54 x56 x59 x60 x61 x63 x64 x65 x66 : Int32} {x2 x6 x7 x8 x9 x10 x13 x14 x15 x16 x17 x21 x22 x23 x33 x34 x35 x42 x43 x44 x45 x46 x49 x50 x51 x52 x53 x67 : Nat → Int32} {x32 : Int64} {x36 x38 x55 x57 : Nat → Int64} {Co_top : Int32} {Co_stack : Nat → Int32} {o : Int32 × Int32} {Q : Rs → va_W → Prop} (h : f_Co_pop Co_top Co_stack = some o) (hq : Q (.inl (some (.int o.1))) (wlX g ad x0 x1 x2 x3 x4 x5 x6 x7 x8 x9 x10 x11 x12 x13 x14 x15 x16 x17 x18 x19 x20 x21 x22 x23 x24 x25 x26 x27 x28 x29 x30 x31 x32 x33 x34 x35 x36 x37 x38 x39 x40 x41 x42 x43 x44 x45 x46 x47 x48 x49 x50 x51 x52 x53 x54 x55 x56 x57 o.2 x59 x60 x61 Co_stack x63 x64 x65 x66 x67 ++ t)) : R g mX1_pop 2 0 0 0 [(0, .ref (ad 71))] [] (wlX g ad x0 x1 x2 x3 x4 x5 x6 x7 x8 x9 x10 x11 x12 x13 x14 x15 x16 x17 x18 x19 x20 x21 x22 x23 x24 x25 x26 x27 x28 x29 x30 x31 x32 x33 x34 x35 x36 x37 x38 x39 x40 x41 x42 x43 x44 x45 x46 x47 x48 x49 x50 x51 x52 x53 x54 x55 x56 x57 Co_top x59 x60 x61 Co_stack x63 x64 x65 x66 x67 ++ t) Q := by
  unfold f_Co_pop at h
  refine r_aload_n 0 dX1_pop_0 rfl ?_
  refine r_dup dX1_pop_1 rfl ?_
  refine r_getf (v := .int Co_top) _ dX1_pop_2 fl_X1_72 lX_71 rfl ?_
  refine r_iconst (v := (1 : Int32)) dX1_pop_5 (by decide) ?_
  refine r_isub dX1_pop_6 ?_
  refine r_putf _ dX1_pop_7 fl_X1_72 lX_71 (Nat.le_of_ble_eq_true rfl) rfl rfl (sX_58 _) ?_
  refine r_aload_n 0 dX1_pop_10 rfl ?_
  refine r_getf (v := .ref (ad 72)) _ dX1_pop_11 fl_X1_24 lX_71 rfl ?_
  refine r_aload_n 0 dX1_pop_14 rfl ?_
  refine r_getf (v := .int (Co_top - (1 : Int32))) _ dX1_pop_15 fl_X1_72 lX_71 rfl ?_
  refine c_V (rest := []) 0 0 _ dX1_pop_18 kv_X1_59 (ct_Row_get lX_72 lX_73 (Nat.le_of_ble_eq_true rfl)) rfl rfl lX_72 rfl (Nat.le_of_ble_eq_true rfl) (by decide) (by decide) ?_
  refine r_iret dX1_pop_21 rfl ?_
  have h := Option.some.inj (show some _ = some o from h)
  subst h
  exact hq
theorem ct_Co_pop {g : GG} {ad : Nat → Nat} {t : va_W} {x0 x1 x3 x4 x5 x11 x12 x18 x19 x20 x24 x25 x26 x27 x28 x29 x30 x31 x37 x39 x40 x41 x47 x48 x54 x56 x59 x60 x61 x63 x64 x65 x66 : Int32} {x2 x6 x7 x8 x9 x10 x13 x14 x15 x16 x17 x21 x22 x23 x33 x34 x35 x42 x43 x44 x45 x46 x49 x50 x51 x52 x53 x67 : Nat → Int32} {x32 : Int64} {x36 x38 x55 x57 : Nat → Int64} {Co_top : Int32} {Co_stack : Nat → Int32} {o : Int32 × Int32} (h : f_Co_pop Co_top Co_stack = some o) : Ct g mX1_pop 2 0 0 [.ref (ad 71)] (wlX g ad x0 x1 x2 x3 x4 x5 x6 x7 x8 x9 x10 x11 x12 x13 x14 x15 x16 x17 x18 x19 x20 x21 x22 x23 x24 x25 x26 x27 x28 x29 x30 x31 x32 x33 x34 x35 x36 x37 x38 x39 x40 x41 x42 x43 x44 x45 x46 x47 x48 x49 x50 x51 x52 x53 x54 x55 x56 x57 Co_top x59 x60 x61 Co_stack x63 x64 x65 x66 x67 ++ t) (Dv (some (.int o.1)) (wlX g ad x0 x1 x2 x3 x4 x5 x6 x7 x8 x9 x10 x11 x12 x13 x14 x15 x16 x17 x18 x19 x20 x21 x22 x23 x24 x25 x26 x27 x28 x29 x30 x31 x32 x33 x34 x35 x36 x37 x38 x39 x40 x41 x42 x43 x44 x45 x46 x47 x48 x49 x50 x51 x52 x53 x54 x55 x56 x57 o.2 x59 x60 x61 Co_stack x63 x64 x65 x66 x67 ++ t)) := Ct.ofR (by decide +kernel) rfl (Nat.le_of_ble_eq_true rfl) (rt_Co_pop h ⟨rfl, rfl⟩)
set_option maxRecDepth 20000 in
set_option maxHeartbeats 4000000 in
theorem rt_Co_fact {g : GG} {ad : Nat → Nat} {t : va_W} {x0 x1 x3 x11 x12 x24 x25 x26 x27 x28 x29 x30 x31 x37 x39 x40 x41 x47 x48 x54 x56 x58 x61 x63 x64 x65 x66 : Int32} {x2 x13 x14 x15 x16 x17 x22 x23 x33 x34 x35 x42 x43 x44 x45 x46 x49 x50 x51 x52 x53 x62 x67 : Nat → Int32} {x32 : Int64} {x36 x38 x55 x57 : Nat → Int64} {N : Nat} {Tap_tellerCount : Int32} {Cl_count : Int32} {Cl_tellers : Nat → Int32} {Cl_kinds : Nat → Int32} {Cl_events : Nat → Int32} {Cl_firsts : Nat → Int32} {Cl_lasts : Nat → Int32} {Ve_judged : Int32} {Ve_liarSet : Int32} {Ve_setCount : Int32} {Ve_against : Nat → Int32} {Co_doubted : Int32} {Co_evening : Int32} {p1 : Int32} {p2 : Int32} {o : Int32 × Int32 × Int32 × Int32} {Q : Rs → va_W → Prop} (h : f_Co_fact N Tap_tellerCount Cl_count Cl_tellers Cl_kinds Cl_events Cl_firsts Cl_lasts Ve_judged Ve_liarSet Ve_setCount Ve_against Co_doubted Co_evening p1 p2 = some o) (hq : Q (.inl (some (.int o.1))) (wlX g ad x0 x1 x2 x3 Tap_tellerCount Cl_count Cl_tellers Cl_kinds Cl_events Cl_firsts Cl_lasts x11 x12 x13 x14 x15 x16 x17 o.2.1 o.2.2.1 o.2.2.2 Ve_against x22 x23 x24 x25 x26 x27 x28 x29 x30 x31 x32 x33 x34 x35 x36 x37 x38 x39 x40 x41 x42 x43 x44 x45 x46 x47 x48 x49 x50 x51 x52 x53 x54 x55 x56 x57 x58 Co_doubted Co_evening x61 x62 x63 x64 x65 x66 x67 ++ t)) : R g mX1_fact 5 0 0 0 [(0, .ref (ad 71)), (1, .int p1), (2, .int p2)] [] (wlX g ad x0 x1 x2 x3 Tap_tellerCount Cl_count Cl_tellers Cl_kinds Cl_events Cl_firsts Cl_lasts x11 x12 x13 x14 x15 x16 x17 Ve_judged Ve_liarSet Ve_setCount Ve_against x22 x23 x24 x25 x26 x27 x28 x29 x30 x31 x32 x33 x34 x35 x36 x37 x38 x39 x40 x41 x42 x43 x44 x45 x46 x47 x48 x49 x50 x51 x52 x53 x54 x55 x56 x57 x58 Co_doubted Co_evening x61 x62 x63 x64 x65 x66 x67 ++ t) Q := by
  unfold f_Co_fact at h
  refine r_iload_n 1 dX1_fact_0 rfl ?_
  by_cases hc1032 : p1 = (131 : Int32)
  · have h := ip (fun z9 => z9) hc1032 h
    refine r_lookup (tgt := 92) dX1_fact_1 (by decide) (lo_hit (v := (131 : Int32)) (by decide) hc1032) (by decide) ?_
    refine r_iload_n 2 dX1_fact_92 rfl ?_
    refine r_iret dX1_fact_93 rfl ?_
    have h := Option.some.inj (show some _ = some o from h)
    subst h
    exact hq
  have h := iq (fun z9 => z9) hc1032 h
  by_cases hc1033 : p1 = (210 : Int32)
  · have h := ip (fun z9 => z9) hc1033 h
    refine r_lookup (tgt := 94) dX1_fact_1 (by decide) (lo_cons (v := (131 : Int32)) (by decide) hc1032 (lo_hit (v := (210 : Int32)) (by decide) hc1033)) (by decide) ?_
    refine r_aload_n 0 dX1_fact_94 rfl ?_
    refine r_getf (v := .int Co_evening) _ dX1_fact_95 fl_X1_32 lX_71 rfl ?_
    refine r_iret dX1_fact_98 rfl ?_
    have h := Option.some.inj (show some _ = some o from h)
    subst h
    exact hq
  have h := iq (fun z9 => z9) hc1033 h
  by_cases hc1034 : p1 = (211 : Int32)
  · have h := ip (fun z9 => z9) hc1034 h
    refine r_lookup (tgt := 99) dX1_fact_1 (by decide) (lo_cons (v := (131 : Int32)) (by decide) hc1032 (lo_cons (v := (210 : Int32)) (by decide) hc1033 (lo_hit (v := (211 : Int32)) (by decide) hc1034))) (by decide) ?_
    refine r_aload_n 0 dX1_fact_99 rfl ?_
    refine r_getf (v := .ref (ad 26)) _ dX1_fact_100 fl_X1_15 lX_71 rfl ?_
    refine r_aload_n 0 dX1_fact_103 rfl ?_
    refine r_getf (v := .int Co_doubted) _ dX1_fact_104 fl_X1_28 lX_71 rfl ?_
    obtain ⟨r1042, hc1043, h⟩ := ob (fun z9 => z9) rfl h
    refine c_V (rest := []) 0 0 _ dX1_fact_107 kv_X1_99 (ct_Ve_liarSet hc1043) rfl rfl lX_26 rfl (Nat.le_of_ble_eq_true rfl) (by decide) (by decide) ?_
    refine c_S (rest := []) 0 0 dX1_fact_110 ks_X1_104 (ct_J6_bitCount_0f7a4 rfl) rfl rfl (Nat.le_of_ble_eq_true rfl) (by decide) (by decide) ?_
    refine r_iret dX1_fact_113 rfl ?_
    have h := Option.some.inj (show some _ = some o from h)
    subst h
    exact hq
  have h := iq (fun z9 => z9) hc1034 h
  by_cases hc1035 : p1 = (212 : Int32)
  · have h := ip (fun z9 => z9) hc1035 h
    refine r_lookup (tgt := 114) dX1_fact_1 (by decide) (lo_cons (v := (131 : Int32)) (by decide) hc1032 (lo_cons (v := (210 : Int32)) (by decide) hc1033 (lo_cons (v := (211 : Int32)) (by decide) hc1034 (lo_hit (v := (212 : Int32)) (by decide) hc1035)))) (by decide) ?_
    refine r_aload_n 0 dX1_fact_114 rfl ?_
    refine r_getf (v := .ref (ad 26)) _ dX1_fact_115 fl_X1_15 lX_71 rfl ?_
    refine r_aload_n 0 dX1_fact_118 rfl ?_
    refine r_getf (v := .int Co_doubted) _ dX1_fact_119 fl_X1_28 lX_71 rfl ?_
    obtain ⟨r1044, hc1045, h⟩ := ob (fun z9 => z9) rfl h
    refine c_V (rest := []) 0 0 _ dX1_fact_122 kv_X1_109 (ct_Ve_pairCount hc1045) rfl rfl lX_26 rfl (Nat.le_of_ble_eq_true rfl) (by decide) (by decide) ?_
    refine r_iret dX1_fact_125 rfl ?_
    have h := Option.some.inj (show some _ = some o from h)
    subst h
    exact hq
  have h := iq (fun z9 => z9) hc1035 h
  by_cases hc1036 : p1 = (213 : Int32)
  · have h := ip (fun z9 => z9) hc1036 h
    refine r_lookup (tgt := 192) dX1_fact_1 (by decide) (lo_cons (v := (131 : Int32)) (by decide) hc1032 (lo_cons (v := (210 : Int32)) (by decide) hc1033 (lo_cons (v := (211 : Int32)) (by decide) hc1034 (lo_cons (v := (212 : Int32)) (by decide) hc1035 (lo_hit (v := (213 : Int32)) (by decide) hc1036))))) (by decide) ?_
    refine r_aload_n 0 dX1_fact_192 rfl ?_
    refine r_getf (v := .int Co_doubted) _ dX1_fact_193 fl_X1_28 lX_71 rfl ?_
    refine r_iload_n 2 dX1_fact_196 rfl ?_
    refine c_SN (rest := []) 0 0 dX1_fact_197 kq_X1_132 (ct_Main_has rfl) rfl rfl (Nat.le_of_ble_eq_true rfl) (by decide) (by decide) ?_
    refine c_SN (rest := []) 0 0 dX1_fact_200 kq_X1_128 (ct_Main_one rfl) rfl rfl (Nat.le_of_ble_eq_true rfl) (by decide) (by decide) ?_
    refine r_iret dX1_fact_203 rfl ?_
    have h := Option.some.inj (show some _ = some o from h)
    subst h
    exact hq
  have h := iq (fun z9 => z9) hc1036 h
  by_cases hc1037 : p1 = (214 : Int32)
  · have h := ip (fun z9 => z9) hc1037 h
    refine r_lookup (tgt := 126) dX1_fact_1 (by decide) (lo_cons (v := (131 : Int32)) (by decide) hc1032 (lo_cons (v := (210 : Int32)) (by decide) hc1033 (lo_cons (v := (211 : Int32)) (by decide) hc1034 (lo_cons (v := (212 : Int32)) (by decide) hc1035 (lo_cons (v := (213 : Int32)) (by decide) hc1036 (lo_hit (v := (214 : Int32)) (by decide) hc1037)))))) (by decide) ?_
    refine r_aload_n 0 dX1_fact_126 rfl ?_
    refine r_getf (v := .ref (ad 3)) _ dX1_fact_127 fl_X1_9 lX_71 rfl ?_
    refine r_getf (v := .ref (ad 4)) _ dX1_fact_130 fl_X1_112 lX_3 rfl ?_
    refine r_iload_n 2 dX1_fact_133 rfl ?_
    obtain ⟨r1046, hc1047, h⟩ := ob (fun z9 => z9) rfl h
    refine c_V (rest := []) 0 0 _ dX1_fact_134 kv_X1_116 (ct_Cl_countOf hc1047) rfl rfl lX_4 rfl (Nat.le_of_ble_eq_true rfl) (by decide) (by decide) ?_
    refine r_iret dX1_fact_137 rfl ?_
    have h := Option.some.inj (show some _ = some o from h)
    subst h
    exact hq
  have h := iq (fun z9 => z9) hc1037 h
  by_cases hc1038 : p1 = (215 : Int32)
  · have h := ip (fun z9 => z9) hc1038 h
    refine r_lookup (tgt := 138) dX1_fact_1 (by decide) (lo_cons (v := (131 : Int32)) (by decide) hc1032 (lo_cons (v := (210 : Int32)) (by decide) hc1033 (lo_cons (v := (211 : Int32)) (by decide) hc1034 (lo_cons (v := (212 : Int32)) (by decide) hc1035 (lo_cons (v := (213 : Int32)) (by decide) hc1036 (lo_cons (v := (214 : Int32)) (by decide) hc1037 (lo_hit (v := (215 : Int32)) (by decide) hc1038))))))) (by decide) ?_
    refine r_aload_n 0 dX1_fact_138 rfl ?_
    refine r_getf (v := .ref (ad 26)) _ dX1_fact_139 fl_X1_15 lX_71 rfl ?_
    refine r_iload_n 2 dX1_fact_142 rfl ?_
    refine r_aload_n 0 dX1_fact_143 rfl ?_
    refine r_getf (v := .int Co_doubted) _ dX1_fact_144 fl_X1_28 lX_71 rfl ?_
    obtain ⟨r1048, hc1049, h⟩ := ob (fun z9 => z9) rfl h
    refine c_V (rest := []) 0 0 _ dX1_fact_147 kv_X1_121 (ct_Ve_windowHours hc1049) rfl rfl lX_26 rfl (Nat.le_of_ble_eq_true rfl) (by decide) (by decide) ?_
    refine r_iret dX1_fact_150 rfl ?_
    have h := Option.some.inj (show some _ = some o from h)
    subst h
    exact hq
  have h := iq (fun z9 => z9) hc1038 h
  by_cases hc1039 : p1 = (217 : Int32)
  · have h := ip (fun z9 => z9) hc1039 h
    refine r_lookup (tgt := 151) dX1_fact_1 (by decide) (lo_cons (v := (131 : Int32)) (by decide) hc1032 (lo_cons (v := (210 : Int32)) (by decide) hc1033 (lo_cons (v := (211 : Int32)) (by decide) hc1034 (lo_cons (v := (212 : Int32)) (by decide) hc1035 (lo_cons (v := (213 : Int32)) (by decide) hc1036 (lo_cons (v := (214 : Int32)) (by decide) hc1037 (lo_cons (v := (215 : Int32)) (by decide) hc1038 (lo_hit (v := (217 : Int32)) (by decide) hc1039)))))))) (by decide) ?_
    refine r_aload_n 0 dX1_fact_151 rfl ?_
    refine r_getf (v := .ref (ad 26)) _ dX1_fact_152 fl_X1_15 lX_71 rfl ?_
    refine r_iload_n 2 dX1_fact_155 rfl ?_
    refine r_iconst (v := (4 : Int32)) dX1_fact_156 (by decide) ?_
    refine r_ishr dX1_fact_157 ?_
    refine r_iload_n 2 dX1_fact_158 rfl ?_
    refine r_bipush (v := (15 : Int32)) dX1_fact_159 (by decide) ?_
    refine r_iand dX1_fact_161 ?_
    refine r_aload_n 0 dX1_fact_162 rfl ?_
    refine r_getf (v := .int Co_doubted) _ dX1_fact_163 fl_X1_28 lX_71 rfl ?_
    refine c_V (rest := []) 0 0 _ dX1_fact_166 kv_X1_124 (ct_Ve_tellersContradict rfl) rfl rfl lX_26 rfl (Nat.le_of_ble_eq_true rfl) (by decide) (by decide) ?_
    refine c_SN (rest := []) 0 0 dX1_fact_169 kq_X1_128 (ct_Main_one rfl) rfl rfl (Nat.le_of_ble_eq_true rfl) (by decide) (by decide) ?_
    refine r_iret dX1_fact_172 rfl ?_
    have h := Option.some.inj (show some _ = some o from h)
    subst h
    exact hq
  have h := iq (fun z9 => z9) hc1039 h
  by_cases hc1040 : p1 = (218 : Int32)
  · have h := ip (fun z9 => z9) hc1040 h
    refine r_lookup (tgt := 173) dX1_fact_1 (by decide) (lo_cons (v := (131 : Int32)) (by decide) hc1032 (lo_cons (v := (210 : Int32)) (by decide) hc1033 (lo_cons (v := (211 : Int32)) (by decide) hc1034 (lo_cons (v := (212 : Int32)) (by decide) hc1035 (lo_cons (v := (213 : Int32)) (by decide) hc1036 (lo_cons (v := (214 : Int32)) (by decide) hc1037 (lo_cons (v := (215 : Int32)) (by decide) hc1038 (lo_cons (v := (217 : Int32)) (by decide) hc1039 (lo_hit (v := (218 : Int32)) (by decide) hc1040))))))))) (by decide) ?_
    refine r_aload_n 0 dX1_fact_173 rfl ?_
    refine r_getf (v := .ref (ad 26)) _ dX1_fact_174 fl_X1_15 lX_71 rfl ?_
    refine r_aload_n 0 dX1_fact_177 rfl ?_
    refine r_getf (v := .int Co_doubted) _ dX1_fact_178 fl_X1_28 lX_71 rfl ?_
    obtain ⟨r1050, hc1051, h⟩ := ob (fun z9 => z9) rfl h
    refine c_V (rest := []) 0 0 _ dX1_fact_181 kv_X1_99 (ct_Ve_liarSet hc1051) rfl rfl lX_26 rfl (Nat.le_of_ble_eq_true rfl) (by decide) (by decide) ?_
    refine r_iload_n 2 dX1_fact_184 rfl ?_
    refine c_SN (rest := []) 0 0 dX1_fact_185 kq_X1_132 (ct_Main_has rfl) rfl rfl (Nat.le_of_ble_eq_true rfl) (by decide) (by decide) ?_
    refine c_SN (rest := []) 0 0 dX1_fact_188 kq_X1_128 (ct_Main_one rfl) rfl rfl (Nat.le_of_ble_eq_true rfl) (by decide) (by decide) ?_
    refine r_iret dX1_fact_191 rfl ?_
    have h := Option.some.inj (show some _ = some o from h)
    subst h
    exact hq
  have h := iq (fun z9 => z9) hc1040 h
  by_cases hc1041 : p1 = (219 : Int32)
  · have h := ip (fun z9 => z9) hc1041 h
    refine r_lookup (tgt := 204) dX1_fact_1 (by decide) (lo_cons (v := (131 : Int32)) (by decide) hc1032 (lo_cons (v := (210 : Int32)) (by decide) hc1033 (lo_cons (v := (211 : Int32)) (by decide) hc1034 (lo_cons (v := (212 : Int32)) (by decide) hc1035 (lo_cons (v := (213 : Int32)) (by decide) hc1036 (lo_cons (v := (214 : Int32)) (by decide) hc1037 (lo_cons (v := (215 : Int32)) (by decide) hc1038 (lo_cons (v := (217 : Int32)) (by decide) hc1039 (lo_cons (v := (218 : Int32)) (by decide) hc1040 (lo_hit (v := (219 : Int32)) (by decide) hc1041)))))))))) (by decide) ?_
    refine r_aload_n 0 dX1_fact_204 rfl ?_
    refine r_getf (v := .ref (ad 26)) _ dX1_fact_205 fl_X1_15 lX_71 rfl ?_
    refine r_iload_n 2 dX1_fact_208 rfl ?_
    refine r_aload_n 0 dX1_fact_209 rfl ?_
    refine r_getf (v := .int Co_doubted) _ dX1_fact_210 fl_X1_28 lX_71 rfl ?_
    obtain ⟨r1052, hc1053, h⟩ := ob (fun z9 => z9) rfl h
    refine c_V (rest := []) 0 0 _ dX1_fact_213 kv_X1_121 (ct_Ve_windowHours hc1053) rfl rfl lX_26 rfl (Nat.le_of_ble_eq_true rfl) (by decide) (by decide) ?_
    refine r_if_le (tgt := 223) dX1_fact_216 (by decide) (fun hc1054 => ?_) (fun hc1054 => ?_)
    · have h := ip (fun z9 => z9) hc1054 h
      refine r_iconst (v := (0 : Int32)) dX1_fact_223 (by decide) ?_
      refine c_SN (rest := []) 0 0 dX1_fact_224 kq_X1_128 (ct_Main_one rfl) rfl rfl (Nat.le_of_ble_eq_true rfl) (by decide) (by decide) ?_
      refine r_iret dX1_fact_227 rfl ?_
      have h := Option.some.inj (show some _ = some o from h)
      subst h
      exact hq
    · have h := iq (fun z9 => z9) hc1054 h
      refine r_iconst (v := (1 : Int32)) dX1_fact_219 (by decide) ?_
      refine r_goto (tgt := 224) dX1_fact_220 (by decide) ?_
      refine c_SN (rest := []) 0 0 dX1_fact_224 kq_X1_128 (ct_Main_one rfl) rfl rfl (Nat.le_of_ble_eq_true rfl) (by decide) (by decide) ?_
      refine r_iret dX1_fact_227 rfl ?_
      have h := Option.some.inj (show some _ = some o from h)
      subst h
      exact hq
  have h := iq (fun z9 => z9) hc1041 h
  refine r_lookup (tgt := 228) (off := 227) dX1_fact_1 (by decide) (lo_cons (v := (131 : Int32)) (by decide) hc1032 (lo_cons (v := (210 : Int32)) (by decide) hc1033 (lo_cons (v := (211 : Int32)) (by decide) hc1034 (lo_cons (v := (212 : Int32)) (by decide) hc1035 (lo_cons (v := (213 : Int32)) (by decide) hc1036 (lo_cons (v := (214 : Int32)) (by decide) hc1037 (lo_cons (v := (215 : Int32)) (by decide) hc1038 (lo_cons (v := (217 : Int32)) (by decide) hc1039 (lo_cons (v := (218 : Int32)) (by decide) hc1040 (lo_cons (v := (219 : Int32)) (by decide) hc1041 rfl)))))))))) (by decide) ?_
  refine r_iconst (v := (0 : Int32)) dX1_fact_228 (by decide) ?_
  refine r_iret dX1_fact_229 rfl ?_
  have h := Option.some.inj (show some _ = some o from h)
  subst h
  exact hq
theorem ct_Co_fact {g : GG} {ad : Nat → Nat} {t : va_W} {x0 x1 x3 x11 x12 x24 x25 x26 x27 x28 x29 x30 x31 x37 x39 x40 x41 x47 x48 x54 x56 x58 x61 x63 x64 x65 x66 : Int32} {x2 x13 x14 x15 x16 x17 x22 x23 x33 x34 x35 x42 x43 x44 x45 x46 x49 x50 x51 x52 x53 x62 x67 : Nat → Int32} {x32 : Int64} {x36 x38 x55 x57 : Nat → Int64} {N : Nat} {Tap_tellerCount : Int32} {Cl_count : Int32} {Cl_tellers : Nat → Int32} {Cl_kinds : Nat → Int32} {Cl_events : Nat → Int32} {Cl_firsts : Nat → Int32} {Cl_lasts : Nat → Int32} {Ve_judged : Int32} {Ve_liarSet : Int32} {Ve_setCount : Int32} {Ve_against : Nat → Int32} {Co_doubted : Int32} {Co_evening : Int32} {p1 : Int32} {p2 : Int32} {o : Int32 × Int32 × Int32 × Int32} (h : f_Co_fact N Tap_tellerCount Cl_count Cl_tellers Cl_kinds Cl_events Cl_firsts Cl_lasts Ve_judged Ve_liarSet Ve_setCount Ve_against Co_doubted Co_evening p1 p2 = some o) : Ct g mX1_fact 5 0 0 [.ref (ad 71), .int p1, .int p2] (wlX g ad x0 x1 x2 x3 Tap_tellerCount Cl_count Cl_tellers Cl_kinds Cl_events Cl_firsts Cl_lasts x11 x12 x13 x14 x15 x16 x17 Ve_judged Ve_liarSet Ve_setCount Ve_against x22 x23 x24 x25 x26 x27 x28 x29 x30 x31 x32 x33 x34 x35 x36 x37 x38 x39 x40 x41 x42 x43 x44 x45 x46 x47 x48 x49 x50 x51 x52 x53 x54 x55 x56 x57 x58 Co_doubted Co_evening x61 x62 x63 x64 x65 x66 x67 ++ t) (Dv (some (.int o.1)) (wlX g ad x0 x1 x2 x3 Tap_tellerCount Cl_count Cl_tellers Cl_kinds Cl_events Cl_firsts Cl_lasts x11 x12 x13 x14 x15 x16 x17 o.2.1 o.2.2.1 o.2.2.2 Ve_against x22 x23 x24 x25 x26 x27 x28 x29 x30 x31 x32 x33 x34 x35 x36 x37 x38 x39 x40 x41 x42 x43 x44 x45 x46 x47 x48 x49 x50 x51 x52 x53 x54 x55 x56 x57 x58 Co_doubted Co_evening x61 x62 x63 x64 x65 x66 x67 ++ t)) := Ct.ofR (by decide +kernel) rfl (Nat.le_of_ble_eq_true rfl) (rt_Co_fact h ⟨rfl, rfl⟩)
set_option maxRecDepth 20000 in
set_option maxHeartbeats 4000000 in
theorem rt_Co_push {g : GG} {ad : Nat → Nat} {t : va_W} {x0 x1 x3 x4 x5 x11 x12 x18 x19 x20 x24 x25 x26 x27 x28 x29 x30 x31 x37 x39 x40 x41 x47 x48 x54 x56 x59 x60 x61 x63 x64 x65 x66 : Int32} {x2 x6 x7 x8 x9 x10 x13 x14 x15 x16 x17 x21 x22 x23 x33 x34 x35 x42 x43 x44 x45 x46 x49 x50 x51 x52 x53 x67 : Nat → Int32} {x32 : Int64} {x36 x38 x55 x57 : Nat → Int64} {Co_top : Int32} {Co_stack : Nat → Int32} {p1 : Int32} {o : Int32 × (Nat → Int32)} {Q : Rs → va_W → Prop} (h : f_Co_push Co_top Co_stack p1 = some o) (hq : Q (.inl (none)) (wlX g ad x0 x1 x2 x3 x4 x5 x6 x7 x8 x9 x10 x11 x12 x13 x14 x15 x16 x17 x18 x19 x20 x21 x22 x23 x24 x25 x26 x27 x28 x29 x30 x31 x32 x33 x34 x35 x36 x37 x38 x39 x40 x41 x42 x43 x44 x45 x46 x47 x48 x49 x50 x51 x52 x53 x54 x55 x56 x57 o.1 x59 x60 x61 o.2 x63 x64 x65 x66 x67 ++ t)) : R g mX1_push 2 0 0 0 [(0, .ref (ad 71)), (1, .int p1)] [] (wlX g ad x0 x1 x2 x3 x4 x5 x6 x7 x8 x9 x10 x11 x12 x13 x14 x15 x16 x17 x18 x19 x20 x21 x22 x23 x24 x25 x26 x27 x28 x29 x30 x31 x32 x33 x34 x35 x36 x37 x38 x39 x40 x41 x42 x43 x44 x45 x46 x47 x48 x49 x50 x51 x52 x53 x54 x55 x56 x57 Co_top x59 x60 x61 Co_stack x63 x64 x65 x66 x67 ++ t) Q := by
  unfold f_Co_push at h
  refine r_aload_n 0 dX1_push_0 rfl ?_
  refine r_getf (v := .ref (ad 72)) _ dX1_push_1 fl_X1_24 lX_71 rfl ?_
  refine r_aload_n 0 dX1_push_4 rfl ?_
  refine r_getf (v := .int Co_top) _ dX1_push_5 fl_X1_72 lX_71 rfl ?_
  refine r_iload_n 1 dX1_push_8 rfl ?_
  refine c_Vv (rest := []) 0 0 _ dX1_push_9 kv_X1_95 (ct_Row_set lX_72 lX_73 (sX_62 _) (Nat.le_of_ble_eq_true rfl)) rfl rfl lX_72 rfl (Nat.le_of_ble_eq_true rfl) (by decide) (by decide) ?_
  refine r_aload_n 0 dX1_push_12 rfl ?_
  refine r_dup dX1_push_13 rfl ?_
  refine r_getf (v := .int Co_top) _ dX1_push_14 fl_X1_72 lX_71 rfl ?_
  refine r_iconst (v := (1 : Int32)) dX1_push_17 (by decide) ?_
  refine r_iadd dX1_push_18 ?_
  refine r_putf _ dX1_push_19 fl_X1_72 lX_71 (Nat.le_of_ble_eq_true rfl) rfl rfl (sX_58 _) ?_
  refine r_vret dX1_push_22 rfl ?_
  have h := Option.some.inj (show some _ = some o from h)
  subst h
  exact hq
theorem ct_Co_push {g : GG} {ad : Nat → Nat} {t : va_W} {x0 x1 x3 x4 x5 x11 x12 x18 x19 x20 x24 x25 x26 x27 x28 x29 x30 x31 x37 x39 x40 x41 x47 x48 x54 x56 x59 x60 x61 x63 x64 x65 x66 : Int32} {x2 x6 x7 x8 x9 x10 x13 x14 x15 x16 x17 x21 x22 x23 x33 x34 x35 x42 x43 x44 x45 x46 x49 x50 x51 x52 x53 x67 : Nat → Int32} {x32 : Int64} {x36 x38 x55 x57 : Nat → Int64} {Co_top : Int32} {Co_stack : Nat → Int32} {p1 : Int32} {o : Int32 × (Nat → Int32)} (h : f_Co_push Co_top Co_stack p1 = some o) : Ct g mX1_push 2 0 0 [.ref (ad 71), .int p1] (wlX g ad x0 x1 x2 x3 x4 x5 x6 x7 x8 x9 x10 x11 x12 x13 x14 x15 x16 x17 x18 x19 x20 x21 x22 x23 x24 x25 x26 x27 x28 x29 x30 x31 x32 x33 x34 x35 x36 x37 x38 x39 x40 x41 x42 x43 x44 x45 x46 x47 x48 x49 x50 x51 x52 x53 x54 x55 x56 x57 Co_top x59 x60 x61 Co_stack x63 x64 x65 x66 x67 ++ t) (Dv (none) (wlX g ad x0 x1 x2 x3 x4 x5 x6 x7 x8 x9 x10 x11 x12 x13 x14 x15 x16 x17 x18 x19 x20 x21 x22 x23 x24 x25 x26 x27 x28 x29 x30 x31 x32 x33 x34 x35 x36 x37 x38 x39 x40 x41 x42 x43 x44 x45 x46 x47 x48 x49 x50 x51 x52 x53 x54 x55 x56 x57 o.1 x59 x60 x61 o.2 x63 x64 x65 x66 x67 ++ t)) := Ct.ofR (by decide +kernel) rfl (Nat.le_of_ble_eq_true rfl) (rt_Co_push h ⟨rfl, rfl⟩)
set_option maxRecDepth 20000 in
set_option maxHeartbeats 4000000 in
theorem rt_Co_combine {g : GG}  {t : va_W}  {p0 : Int32} {p1 : Int32} {p2 : Int32} {o : Int32} {Q : Rs → va_W → Prop} (h : f_Co_combine p0 p1 p2 = o) (hq : Q (.inl (some (.int o))) t) : R g mX1_combine 2 0 0 0 [(0, .int p0), (1, .int p1), (2, .int p2)] [] t Q := by
  unfold f_Co_combine at h
  refine r_iload_n 0 dX1_combine_0 rfl ?_
  by_cases hc1055 : p0 = (42 : Int32)
  · have h := ip (fun z9 => z9) hc1055 h
    refine r_lookup (tgt := 124) dX1_combine_1 (by decide) (lo_hit (v := (42 : Int32)) (by decide) hc1055) (by decide) ?_
    refine r_iload_n 1 dX1_combine_124 rfl ?_
    refine r_iload_n 2 dX1_combine_125 rfl ?_
    refine r_imul dX1_combine_126 ?_
    refine r_iret dX1_combine_127 rfl ?_
    have h : _ = o := h
    subst h
    exact hq
  have h := iq (fun z9 => z9) hc1055 h
  by_cases hc1056 : p0 = (43 : Int32)
  · have h := ip (fun z9 => z9) hc1056 h
    refine r_lookup (tgt := 116) dX1_combine_1 (by decide) (lo_cons (v := (42 : Int32)) (by decide) hc1055 (lo_hit (v := (43 : Int32)) (by decide) hc1056)) (by decide) ?_
    refine r_iload_n 1 dX1_combine_116 rfl ?_
    refine r_iload_n 2 dX1_combine_117 rfl ?_
    refine r_iadd dX1_combine_118 ?_
    refine r_iret dX1_combine_119 rfl ?_
    have h : _ = o := h
    subst h
    exact hq
  have h := iq (fun z9 => z9) hc1056 h
  by_cases hc1057 : p0 = (45 : Int32)
  · have h := ip (fun z9 => z9) hc1057 h
    refine r_lookup (tgt := 120) dX1_combine_1 (by decide) (lo_cons (v := (42 : Int32)) (by decide) hc1055 (lo_cons (v := (43 : Int32)) (by decide) hc1056 (lo_hit (v := (45 : Int32)) (by decide) hc1057))) (by decide) ?_
    refine r_iload_n 1 dX1_combine_120 rfl ?_
    refine r_iload_n 2 dX1_combine_121 rfl ?_
    refine r_isub dX1_combine_122 ?_
    refine r_iret dX1_combine_123 rfl ?_
    have h : _ = o := h
    subst h
    exact hq
  have h := iq (fun z9 => z9) hc1057 h
  by_cases hc1058 : p0 = (47 : Int32)
  · have h := ip (fun z9 => z9) hc1058 h
    refine r_lookup (tgt := 128) dX1_combine_1 (by decide) (lo_cons (v := (42 : Int32)) (by decide) hc1055 (lo_cons (v := (43 : Int32)) (by decide) hc1056 (lo_cons (v := (45 : Int32)) (by decide) hc1057 (lo_hit (v := (47 : Int32)) (by decide) hc1058)))) (by decide) ?_
    refine r_iload_n 2 dX1_combine_128 rfl ?_
    refine r_if_ne (tgt := 136) dX1_combine_129 (by decide) (fun hc1068 => ?_) (fun hc1068 => ?_)
    · have h := iq (fun z9 => z9) hc1068 h
      refine r_iload_n 1 dX1_combine_136 rfl ?_
      refine r_iload_n 2 dX1_combine_137 rfl ?_
      refine r_idiv dX1_combine_138 hc1068 ?_
      refine r_iret dX1_combine_139 rfl ?_
      have h : _ = o := h
      subst h
      exact hq
    · have h := ip (fun z9 => z9) hc1068 h
      refine r_iconst (v := (0 : Int32)) dX1_combine_132 (by decide) ?_
      refine r_goto (tgt := 139) dX1_combine_133 (by decide) ?_
      refine r_iret dX1_combine_139 rfl ?_
      have h : _ = o := h
      subst h
      exact hq
  have h := iq (fun z9 => z9) hc1058 h
  by_cases hc1059 : p0 = (60 : Int32)
  · have h := ip (fun z9 => z9) hc1059 h
    refine r_lookup (tgt := 152) dX1_combine_1 (by decide) (lo_cons (v := (42 : Int32)) (by decide) hc1055 (lo_cons (v := (43 : Int32)) (by decide) hc1056 (lo_cons (v := (45 : Int32)) (by decide) hc1057 (lo_cons (v := (47 : Int32)) (by decide) hc1058 (lo_hit (v := (60 : Int32)) (by decide) hc1059))))) (by decide) ?_
    refine r_iload_n 1 dX1_combine_152 rfl ?_
    refine r_iload_n 2 dX1_combine_153 rfl ?_
    refine r_icmp_ge (tgt := 161) dX1_combine_154 (by decide) (fun hc1070 => ?_) (fun hc1070 => ?_)
    · have h := ip (fun z9 => z9) hc1070 h
      refine r_iconst (v := (0 : Int32)) dX1_combine_161 (by decide) ?_
      refine c_SN (rest := []) 0 0 dX1_combine_162 kq_X1_128 (ct_Main_one rfl) rfl rfl (Nat.le_of_ble_eq_true rfl) (by decide) (by decide) ?_
      refine r_iret dX1_combine_165 rfl ?_
      have h : _ = o := h
      subst h
      exact hq
    · have h := iq (fun z9 => z9) hc1070 h
      refine r_iconst (v := (1 : Int32)) dX1_combine_157 (by decide) ?_
      refine r_goto (tgt := 162) dX1_combine_158 (by decide) ?_
      refine c_SN (rest := []) 0 0 dX1_combine_162 kq_X1_128 (ct_Main_one rfl) rfl rfl (Nat.le_of_ble_eq_true rfl) (by decide) (by decide) ?_
      refine r_iret dX1_combine_165 rfl ?_
      have h : _ = o := h
      subst h
      exact hq
  have h := iq (fun z9 => z9) hc1059 h
  by_cases hc1060 : p0 = (61 : Int32)
  · have h := ip (fun z9 => z9) hc1060 h
    refine r_lookup (tgt := 180) dX1_combine_1 (by decide) (lo_cons (v := (42 : Int32)) (by decide) hc1055 (lo_cons (v := (43 : Int32)) (by decide) hc1056 (lo_cons (v := (45 : Int32)) (by decide) hc1057 (lo_cons (v := (47 : Int32)) (by decide) hc1058 (lo_cons (v := (60 : Int32)) (by decide) hc1059 (lo_hit (v := (61 : Int32)) (by decide) hc1060)))))) (by decide) ?_
    refine r_iload_n 1 dX1_combine_180 rfl ?_
    refine r_iload_n 2 dX1_combine_181 rfl ?_
    refine r_icmp_ne (tgt := 189) dX1_combine_182 (by decide) (fun hc1071 => ?_) (fun hc1071 => ?_)
    · have h := iq (fun z9 => z9) hc1071 h
      refine r_iconst (v := (0 : Int32)) dX1_combine_189 (by decide) ?_
      refine c_SN (rest := []) 0 0 dX1_combine_190 kq_X1_128 (ct_Main_one rfl) rfl rfl (Nat.le_of_ble_eq_true rfl) (by decide) (by decide) ?_
      refine r_iret dX1_combine_193 rfl ?_
      have h : _ = o := h
      subst h
      exact hq
    · have h := ip (fun z9 => z9) hc1071 h
      refine r_iconst (v := (1 : Int32)) dX1_combine_185 (by decide) ?_
      refine r_goto (tgt := 190) dX1_combine_186 (by decide) ?_
      refine c_SN (rest := []) 0 0 dX1_combine_190 kq_X1_128 (ct_Main_one rfl) rfl rfl (Nat.le_of_ble_eq_true rfl) (by decide) (by decide) ?_
      refine r_iret dX1_combine_193 rfl ?_
      have h : _ = o := h
      subst h
      exact hq
  have h := iq (fun z9 => z9) hc1060 h
  by_cases hc1061 : p0 = (62 : Int32)
  · have h := ip (fun z9 => z9) hc1061 h
    refine r_lookup (tgt := 166) dX1_combine_1 (by decide) (lo_cons (v := (42 : Int32)) (by decide) hc1055 (lo_cons (v := (43 : Int32)) (by decide) hc1056 (lo_cons (v := (45 : Int32)) (by decide) hc1057 (lo_cons (v := (47 : Int32)) (by decide) hc1058 (lo_cons (v := (60 : Int32)) (by decide) hc1059 (lo_cons (v := (61 : Int32)) (by decide) hc1060 (lo_hit (v := (62 : Int32)) (by decide) hc1061))))))) (by decide) ?_
    refine r_iload_n 1 dX1_combine_166 rfl ?_
    refine r_iload_n 2 dX1_combine_167 rfl ?_
    refine r_icmp_le (tgt := 175) dX1_combine_168 (by decide) (fun hc1072 => ?_) (fun hc1072 => ?_)
    · have h := ip (fun z9 => z9) hc1072 h
      refine r_iconst (v := (0 : Int32)) dX1_combine_175 (by decide) ?_
      refine c_SN (rest := []) 0 0 dX1_combine_176 kq_X1_128 (ct_Main_one rfl) rfl rfl (Nat.le_of_ble_eq_true rfl) (by decide) (by decide) ?_
      refine r_iret dX1_combine_179 rfl ?_
      have h : _ = o := h
      subst h
      exact hq
    · have h := iq (fun z9 => z9) hc1072 h
      refine r_iconst (v := (1 : Int32)) dX1_combine_171 (by decide) ?_
      refine r_goto (tgt := 176) dX1_combine_172 (by decide) ?_
      refine c_SN (rest := []) 0 0 dX1_combine_176 kq_X1_128 (ct_Main_one rfl) rfl rfl (Nat.le_of_ble_eq_true rfl) (by decide) (by decide) ?_
      refine r_iret dX1_combine_179 rfl ?_
      have h : _ = o := h
      subst h
      exact hq
  have h := iq (fun z9 => z9) hc1061 h
  by_cases hc1062 : p0 = (128 : Int32)
  · have h := ip (fun z9 => z9) hc1062 h
    refine r_lookup (tgt := 194) dX1_combine_1 (by decide) (lo_cons (v := (42 : Int32)) (by decide) hc1055 (lo_cons (v := (43 : Int32)) (by decide) hc1056 (lo_cons (v := (45 : Int32)) (by decide) hc1057 (lo_cons (v := (47 : Int32)) (by decide) hc1058 (lo_cons (v := (60 : Int32)) (by decide) hc1059 (lo_cons (v := (61 : Int32)) (by decide) hc1060 (lo_cons (v := (62 : Int32)) (by decide) hc1061 (lo_hit (v := (128 : Int32)) (by decide) hc1062)))))))) (by decide) ?_
    refine r_iload_n 1 dX1_combine_194 rfl ?_
    refine r_iload_n 2 dX1_combine_195 rfl ?_
    refine r_icmp_gt (tgt := 203) dX1_combine_196 (by decide) (fun hc1073 => ?_) (fun hc1073 => ?_)
    · have h := ip (fun z9 => z9) hc1073 h
      refine r_iconst (v := (0 : Int32)) dX1_combine_203 (by decide) ?_
      refine c_SN (rest := []) 0 0 dX1_combine_204 kq_X1_128 (ct_Main_one rfl) rfl rfl (Nat.le_of_ble_eq_true rfl) (by decide) (by decide) ?_
      refine r_iret dX1_combine_207 rfl ?_
      have h : _ = o := h
      subst h
      exact hq
    · have h := iq (fun z9 => z9) hc1073 h
      refine r_iconst (v := (1 : Int32)) dX1_combine_199 (by decide) ?_
      refine r_goto (tgt := 204) dX1_combine_200 (by decide) ?_
      refine c_SN (rest := []) 0 0 dX1_combine_204 kq_X1_128 (ct_Main_one rfl) rfl rfl (Nat.le_of_ble_eq_true rfl) (by decide) (by decide) ?_
      refine r_iret dX1_combine_207 rfl ?_
      have h : _ = o := h
      subst h
      exact hq
  have h := iq (fun z9 => z9) hc1062 h
  by_cases hc1063 : p0 = (129 : Int32)
  · have h := ip (fun z9 => z9) hc1063 h
    refine r_lookup (tgt := 208) dX1_combine_1 (by decide) (lo_cons (v := (42 : Int32)) (by decide) hc1055 (lo_cons (v := (43 : Int32)) (by decide) hc1056 (lo_cons (v := (45 : Int32)) (by decide) hc1057 (lo_cons (v := (47 : Int32)) (by decide) hc1058 (lo_cons (v := (60 : Int32)) (by decide) hc1059 (lo_cons (v := (61 : Int32)) (by decide) hc1060 (lo_cons (v := (62 : Int32)) (by decide) hc1061 (lo_cons (v := (128 : Int32)) (by decide) hc1062 (lo_hit (v := (129 : Int32)) (by decide) hc1063))))))))) (by decide) ?_
    refine r_iload_n 1 dX1_combine_208 rfl ?_
    refine r_iload_n 2 dX1_combine_209 rfl ?_
    refine r_icmp_lt (tgt := 217) dX1_combine_210 (by decide) (fun hc1074 => ?_) (fun hc1074 => ?_)
    · have h := ip (fun z9 => z9) hc1074 h
      refine r_iconst (v := (0 : Int32)) dX1_combine_217 (by decide) ?_
      refine c_SN (rest := []) 0 0 dX1_combine_218 kq_X1_128 (ct_Main_one rfl) rfl rfl (Nat.le_of_ble_eq_true rfl) (by decide) (by decide) ?_
      refine r_iret dX1_combine_221 rfl ?_
      have h : _ = o := h
      subst h
      exact hq
    · have h := iq (fun z9 => z9) hc1074 h
      refine r_iconst (v := (1 : Int32)) dX1_combine_213 (by decide) ?_
      refine r_goto (tgt := 218) dX1_combine_214 (by decide) ?_
      refine c_SN (rest := []) 0 0 dX1_combine_218 kq_X1_128 (ct_Main_one rfl) rfl rfl (Nat.le_of_ble_eq_true rfl) (by decide) (by decide) ?_
      refine r_iret dX1_combine_221 rfl ?_
      have h : _ = o := h
      subst h
      exact hq
  have h := iq (fun z9 => z9) hc1063 h
  by_cases hc1064 : p0 = (221 : Int32)
  · have h := ip (fun z9 => z9) hc1064 h
    refine r_lookup (tgt := 222) dX1_combine_1 (by decide) (lo_cons (v := (42 : Int32)) (by decide) hc1055 (lo_cons (v := (43 : Int32)) (by decide) hc1056 (lo_cons (v := (45 : Int32)) (by decide) hc1057 (lo_cons (v := (47 : Int32)) (by decide) hc1058 (lo_cons (v := (60 : Int32)) (by decide) hc1059 (lo_cons (v := (61 : Int32)) (by decide) hc1060 (lo_cons (v := (62 : Int32)) (by decide) hc1061 (lo_cons (v := (128 : Int32)) (by decide) hc1062 (lo_cons (v := (129 : Int32)) (by decide) hc1063 (lo_hit (v := (221 : Int32)) (by decide) hc1064)))))))))) (by decide) ?_
    refine r_iload_n 1 dX1_combine_222 rfl ?_
    refine r_iload_n 2 dX1_combine_223 rfl ?_
    refine r_iand dX1_combine_224 ?_
    refine r_iret dX1_combine_225 rfl ?_
    have h : _ = o := h
    subst h
    exact hq
  have h := iq (fun z9 => z9) hc1064 h
  by_cases hc1065 : p0 = (222 : Int32)
  · have h := ip (fun z9 => z9) hc1065 h
    refine r_lookup (tgt := 226) dX1_combine_1 (by decide) (lo_cons (v := (42 : Int32)) (by decide) hc1055 (lo_cons (v := (43 : Int32)) (by decide) hc1056 (lo_cons (v := (45 : Int32)) (by decide) hc1057 (lo_cons (v := (47 : Int32)) (by decide) hc1058 (lo_cons (v := (60 : Int32)) (by decide) hc1059 (lo_cons (v := (61 : Int32)) (by decide) hc1060 (lo_cons (v := (62 : Int32)) (by decide) hc1061 (lo_cons (v := (128 : Int32)) (by decide) hc1062 (lo_cons (v := (129 : Int32)) (by decide) hc1063 (lo_cons (v := (221 : Int32)) (by decide) hc1064 (lo_hit (v := (222 : Int32)) (by decide) hc1065))))))))))) (by decide) ?_
    refine r_iload_n 1 dX1_combine_226 rfl ?_
    refine r_iload_n 2 dX1_combine_227 rfl ?_
    refine r_ior dX1_combine_228 ?_
    refine r_iret dX1_combine_229 rfl ?_
    have h : _ = o := h
    subst h
    exact hq
  have h := iq (fun z9 => z9) hc1065 h
  by_cases hc1066 : p0 = (223 : Int32)
  · have h := ip (fun z9 => z9) hc1066 h
    refine r_lookup (tgt := 140) dX1_combine_1 (by decide) (lo_cons (v := (42 : Int32)) (by decide) hc1055 (lo_cons (v := (43 : Int32)) (by decide) hc1056 (lo_cons (v := (45 : Int32)) (by decide) hc1057 (lo_cons (v := (47 : Int32)) (by decide) hc1058 (lo_cons (v := (60 : Int32)) (by decide) hc1059 (lo_cons (v := (61 : Int32)) (by decide) hc1060 (lo_cons (v := (62 : Int32)) (by decide) hc1061 (lo_cons (v := (128 : Int32)) (by decide) hc1062 (lo_cons (v := (129 : Int32)) (by decide) hc1063 (lo_cons (v := (221 : Int32)) (by decide) hc1064 (lo_cons (v := (222 : Int32)) (by decide) hc1065 (lo_hit (v := (223 : Int32)) (by decide) hc1066)))))))))))) (by decide) ?_
    refine r_iload_n 1 dX1_combine_140 rfl ?_
    refine r_iload_n 2 dX1_combine_141 rfl ?_
    refine c_mmin (rest := []) dX1_combine_142 ks_X1_140 (Nat.le_of_ble_eq_true rfl) (by decide) ?_
    refine r_iret dX1_combine_145 rfl ?_
    have h : _ = o := h
    subst h
    exact hq
  have h := iq (fun z9 => z9) hc1066 h
  by_cases hc1067 : p0 = (224 : Int32)
  · have h := ip (fun z9 => z9) hc1067 h
    refine r_lookup (tgt := 146) dX1_combine_1 (by decide) (lo_cons (v := (42 : Int32)) (by decide) hc1055 (lo_cons (v := (43 : Int32)) (by decide) hc1056 (lo_cons (v := (45 : Int32)) (by decide) hc1057 (lo_cons (v := (47 : Int32)) (by decide) hc1058 (lo_cons (v := (60 : Int32)) (by decide) hc1059 (lo_cons (v := (61 : Int32)) (by decide) hc1060 (lo_cons (v := (62 : Int32)) (by decide) hc1061 (lo_cons (v := (128 : Int32)) (by decide) hc1062 (lo_cons (v := (129 : Int32)) (by decide) hc1063 (lo_cons (v := (221 : Int32)) (by decide) hc1064 (lo_cons (v := (222 : Int32)) (by decide) hc1065 (lo_cons (v := (223 : Int32)) (by decide) hc1066 (lo_hit (v := (224 : Int32)) (by decide) hc1067))))))))))))) (by decide) ?_
    refine r_iload_n 1 dX1_combine_146 rfl ?_
    refine r_iload_n 2 dX1_combine_147 rfl ?_
    refine c_mmax (rest := []) dX1_combine_148 ks_X1_145 (Nat.le_of_ble_eq_true rfl) (by decide) ?_
    refine r_iret dX1_combine_151 rfl ?_
    have h : _ = o := h
    subst h
    exact hq
  have h := iq (fun z9 => z9) hc1067 h
  refine r_lookup (tgt := 230) (off := 229) dX1_combine_1 (by decide) (lo_cons (v := (42 : Int32)) (by decide) hc1055 (lo_cons (v := (43 : Int32)) (by decide) hc1056 (lo_cons (v := (45 : Int32)) (by decide) hc1057 (lo_cons (v := (47 : Int32)) (by decide) hc1058 (lo_cons (v := (60 : Int32)) (by decide) hc1059 (lo_cons (v := (61 : Int32)) (by decide) hc1060 (lo_cons (v := (62 : Int32)) (by decide) hc1061 (lo_cons (v := (128 : Int32)) (by decide) hc1062 (lo_cons (v := (129 : Int32)) (by decide) hc1063 (lo_cons (v := (221 : Int32)) (by decide) hc1064 (lo_cons (v := (222 : Int32)) (by decide) hc1065 (lo_cons (v := (223 : Int32)) (by decide) hc1066 (lo_cons (v := (224 : Int32)) (by decide) hc1067 rfl))))))))))))) (by decide) ?_
  refine r_iconst (v := (0 : Int32)) dX1_combine_230 (by decide) ?_
  refine r_iret dX1_combine_231 rfl ?_
  have h : _ = o := h
  subst h
  exact hq
theorem ct_Co_combine {g : GG}  {t : va_W}  {p0 : Int32} {p1 : Int32} {p2 : Int32} {o : Int32} (h : f_Co_combine p0 p1 p2 = o) : Ct g mX1_combine 2 0 0 [.int p0, .int p1, .int p2] t (Dv (some (.int o)) t) := Ct.ofR (by decide +kernel) rfl (Nat.le_of_ble_eq_true rfl) (rt_Co_combine h ⟨rfl, rfl⟩)
