set_option maxRecDepth 20000 in
set_option maxHeartbeats 4000000 in
theorem rt_Co_pop_i1 {g : GG} {ad : Nat → Nat} {t : va_W} {x0 x1 x3 x4 x5 x11 x12 x18 x19 x20 x24 x25 x26 x27 x28 x29 x30 x31 x37 x39 x40 x41 x47 x48 x54 x56 x58 x59 x60 x61 x64 x65 x66 : Int32} {x2 x6 x7 x8 x9 x10 x13 x14 x15 x16 x17 x21 x22 x23 x33 x34 x35 x42 x43 x44 x45 x46 x49 x50 x51 x52 x53 x62 : Nat → Int32} {x32 : Int64} {x36 x38 x55 x57 : Nat → Int64} {Co_top : Int32} {Co_stack : Nat → Int32} {o : Int32 × Int32} {Q : Rs → va_W → Prop} (h : f_Co_pop Co_top Co_stack = some o) (hq : Q (.inl (some (.int o.1))) (wlX g ad x0 x1 x2 x3 x4 x5 x6 x7 x8 x9 x10 x11 x12 x13 x14 x15 x16 x17 x18 x19 x20 x21 x22 x23 x24 x25 x26 x27 x28 x29 x30 x31 x32 x33 x34 x35 x36 x37 x38 x39 x40 x41 x42 x43 x44 x45 x46 x47 x48 x49 x50 x51 x52 x53 x54 x55 x56 x57 x58 x59 x60 x61 x62 o.2 x64 x65 x66 Co_stack ++ t)) : R g mX1_pop 2 0 0 0 [(0, .ref (ad 74))] [] (wlX g ad x0 x1 x2 x3 x4 x5 x6 x7 x8 x9 x10 x11 x12 x13 x14 x15 x16 x17 x18 x19 x20 x21 x22 x23 x24 x25 x26 x27 x28 x29 x30 x31 x32 x33 x34 x35 x36 x37 x38 x39 x40 x41 x42 x43 x44 x45 x46 x47 x48 x49 x50 x51 x52 x53 x54 x55 x56 x57 x58 x59 x60 x61 x62 Co_top x64 x65 x66 Co_stack ++ t) Q := by
  unfold f_Co_pop at h
  refine r_aload_n 0 dX1_pop_0 rfl ?_
  refine r_dup dX1_pop_1 rfl ?_
  refine r_getf (v := .int Co_top) _ dX1_pop_2 fl_X1_72 lX_74 rfl ?_
  refine r_iconst (v := (1 : Int32)) dX1_pop_5 (by decide) ?_
  refine r_isub dX1_pop_6 ?_
  refine r_putf _ dX1_pop_7 fl_X1_72 lX_74 (Nat.le_of_ble_eq_true rfl) rfl rfl (sX_63 _) ?_
  refine r_aload_n 0 dX1_pop_10 rfl ?_
  refine r_getf (v := .ref (ad 75)) _ dX1_pop_11 fl_X1_24 lX_74 rfl ?_
  refine r_aload_n 0 dX1_pop_14 rfl ?_
  refine r_getf (v := .int (Co_top - (1 : Int32))) _ dX1_pop_15 fl_X1_72 lX_74 rfl ?_
  refine c_V (rest := []) 0 0 _ dX1_pop_18 kv_X1_59 (ct_Row_get lX_75 lX_76 (Nat.le_of_ble_eq_true rfl)) rfl rfl lX_75 rfl (Nat.le_of_ble_eq_true rfl) (by decide) (by decide) ?_
  refine r_iret dX1_pop_21 rfl ?_
  have h := Option.some.inj (show some _ = some o from h)
  subst h
  exact hq
theorem ct_Co_pop_i1 {g : GG} {ad : Nat → Nat} {t : va_W} {x0 x1 x3 x4 x5 x11 x12 x18 x19 x20 x24 x25 x26 x27 x28 x29 x30 x31 x37 x39 x40 x41 x47 x48 x54 x56 x58 x59 x60 x61 x64 x65 x66 : Int32} {x2 x6 x7 x8 x9 x10 x13 x14 x15 x16 x17 x21 x22 x23 x33 x34 x35 x42 x43 x44 x45 x46 x49 x50 x51 x52 x53 x62 : Nat → Int32} {x32 : Int64} {x36 x38 x55 x57 : Nat → Int64} {Co_top : Int32} {Co_stack : Nat → Int32} {o : Int32 × Int32} (h : f_Co_pop Co_top Co_stack = some o) : Ct g mX1_pop 2 0 0 [.ref (ad 74)] (wlX g ad x0 x1 x2 x3 x4 x5 x6 x7 x8 x9 x10 x11 x12 x13 x14 x15 x16 x17 x18 x19 x20 x21 x22 x23 x24 x25 x26 x27 x28 x29 x30 x31 x32 x33 x34 x35 x36 x37 x38 x39 x40 x41 x42 x43 x44 x45 x46 x47 x48 x49 x50 x51 x52 x53 x54 x55 x56 x57 x58 x59 x60 x61 x62 Co_top x64 x65 x66 Co_stack ++ t) (Dv (some (.int o.1)) (wlX g ad x0 x1 x2 x3 x4 x5 x6 x7 x8 x9 x10 x11 x12 x13 x14 x15 x16 x17 x18 x19 x20 x21 x22 x23 x24 x25 x26 x27 x28 x29 x30 x31 x32 x33 x34 x35 x36 x37 x38 x39 x40 x41 x42 x43 x44 x45 x46 x47 x48 x49 x50 x51 x52 x53 x54 x55 x56 x57 x58 x59 x60 x61 x62 o.2 x64 x65 x66 Co_stack ++ t)) := Ct.ofR (by decide +kernel) rfl (Nat.le_of_ble_eq_true rfl) (rt_Co_pop_i1 h ⟨rfl, rfl⟩)
set_option maxRecDepth 20000 in
set_option maxHeartbeats 4000000 in
theorem rt_Co_fact_i1 {g : GG} {ad : Nat → Nat} {t : va_W} {x0 x1 x3 x11 x12 x24 x25 x26 x27 x28 x29 x30 x31 x37 x39 x40 x41 x47 x48 x54 x56 x58 x59 x60 x61 x63 x66 : Int32} {x2 x13 x14 x15 x16 x17 x22 x23 x33 x34 x35 x42 x43 x44 x45 x46 x49 x50 x51 x52 x53 x62 x67 : Nat → Int32} {x32 : Int64} {x36 x38 x55 x57 : Nat → Int64} {N : Nat} {Tap_tellerCount : Int32} {Cl_count : Int32} {Cl_tellers : Nat → Int32} {Cl_kinds : Nat → Int32} {Cl_events : Nat → Int32} {Cl_firsts : Nat → Int32} {Cl_lasts : Nat → Int32} {Ve_judged : Int32} {Ve_liarSet : Int32} {Ve_setCount : Int32} {Ve_against : Nat → Int32} {Co_doubted : Int32} {Co_evening : Int32} {p1 : Int32} {p2 : Int32} {o : Int32 × Int32 × Int32 × Int32} {Q : Rs → va_W → Prop} (h : f_Co_fact N Tap_tellerCount Cl_count Cl_tellers Cl_kinds Cl_events Cl_firsts Cl_lasts Ve_judged Ve_liarSet Ve_setCount Ve_against Co_doubted Co_evening p1 p2 = some o) (hq : Q (.inl (some (.int o.1))) (wlX g ad x0 x1 x2 x3 Tap_tellerCount Cl_count Cl_tellers Cl_kinds Cl_events Cl_firsts Cl_lasts x11 x12 x13 x14 x15 x16 x17 o.2.1 o.2.2.1 o.2.2.2 Ve_against x22 x23 x24 x25 x26 x27 x28 x29 x30 x31 x32 x33 x34 x35 x36 x37 x38 x39 x40 x41 x42 x43 x44 x45 x46 x47 x48 x49 x50 x51 x52 x53 x54 x55 x56 x57 x58 x59 x60 x61 x62 x63 Co_doubted Co_evening x66 x67 ++ t)) : R g mX1_fact 5 0 0 0 [(0, .ref (ad 74)), (1, .int p1), (2, .int p2)] [] (wlX g ad x0 x1 x2 x3 Tap_tellerCount Cl_count Cl_tellers Cl_kinds Cl_events Cl_firsts Cl_lasts x11 x12 x13 x14 x15 x16 x17 Ve_judged Ve_liarSet Ve_setCount Ve_against x22 x23 x24 x25 x26 x27 x28 x29 x30 x31 x32 x33 x34 x35 x36 x37 x38 x39 x40 x41 x42 x43 x44 x45 x46 x47 x48 x49 x50 x51 x52 x53 x54 x55 x56 x57 x58 x59 x60 x61 x62 x63 Co_doubted Co_evening x66 x67 ++ t) Q := by
  unfold f_Co_fact at h
  refine r_iload_n 1 dX1_fact_0 rfl ?_
  by_cases hc1126 : p1 = (131 : Int32)
  · have h := ip (fun z9 => z9) hc1126 h
    refine r_lookup (tgt := 92) dX1_fact_1 (by decide) (lo_hit (v := (131 : Int32)) (by decide) hc1126) (by decide) ?_
    refine r_iload_n 2 dX1_fact_92 rfl ?_
    refine r_iret dX1_fact_93 rfl ?_
    have h := Option.some.inj (show some _ = some o from h)
    subst h
    exact hq
  have h := iq (fun z9 => z9) hc1126 h
  by_cases hc1127 : p1 = (210 : Int32)
  · have h := ip (fun z9 => z9) hc1127 h
    refine r_lookup (tgt := 94) dX1_fact_1 (by decide) (lo_cons (v := (131 : Int32)) (by decide) hc1126 (lo_hit (v := (210 : Int32)) (by decide) hc1127)) (by decide) ?_
    refine r_aload_n 0 dX1_fact_94 rfl ?_
    refine r_getf (v := .int Co_evening) _ dX1_fact_95 fl_X1_32 lX_74 rfl ?_
    refine r_iret dX1_fact_98 rfl ?_
    have h := Option.some.inj (show some _ = some o from h)
    subst h
    exact hq
  have h := iq (fun z9 => z9) hc1127 h
  by_cases hc1128 : p1 = (211 : Int32)
  · have h := ip (fun z9 => z9) hc1128 h
    refine r_lookup (tgt := 99) dX1_fact_1 (by decide) (lo_cons (v := (131 : Int32)) (by decide) hc1126 (lo_cons (v := (210 : Int32)) (by decide) hc1127 (lo_hit (v := (211 : Int32)) (by decide) hc1128))) (by decide) ?_
    refine r_aload_n 0 dX1_fact_99 rfl ?_
    refine r_getf (v := .ref (ad 26)) _ dX1_fact_100 fl_X1_15 lX_74 rfl ?_
    refine r_aload_n 0 dX1_fact_103 rfl ?_
    refine r_getf (v := .int Co_doubted) _ dX1_fact_104 fl_X1_28 lX_74 rfl ?_
    obtain ⟨r1136, hc1137, h⟩ := ob (fun z9 => z9) rfl h
    refine c_V (rest := []) 0 0 _ dX1_fact_107 kv_X1_99 (ct_Ve_liarSet hc1137) rfl rfl lX_26 rfl (Nat.le_of_ble_eq_true rfl) (by decide) (by decide) ?_
    refine c_S (rest := []) 0 0 dX1_fact_110 ks_X1_104 (ct_J6_bitCount_0f7a4 rfl) rfl rfl (Nat.le_of_ble_eq_true rfl) (by decide) (by decide) ?_
    refine r_iret dX1_fact_113 rfl ?_
    have h := Option.some.inj (show some _ = some o from h)
    subst h
    exact hq
  have h := iq (fun z9 => z9) hc1128 h
  by_cases hc1129 : p1 = (212 : Int32)
  · have h := ip (fun z9 => z9) hc1129 h
    refine r_lookup (tgt := 114) dX1_fact_1 (by decide) (lo_cons (v := (131 : Int32)) (by decide) hc1126 (lo_cons (v := (210 : Int32)) (by decide) hc1127 (lo_cons (v := (211 : Int32)) (by decide) hc1128 (lo_hit (v := (212 : Int32)) (by decide) hc1129)))) (by decide) ?_
    refine r_aload_n 0 dX1_fact_114 rfl ?_
    refine r_getf (v := .ref (ad 26)) _ dX1_fact_115 fl_X1_15 lX_74 rfl ?_
    refine r_aload_n 0 dX1_fact_118 rfl ?_
    refine r_getf (v := .int Co_doubted) _ dX1_fact_119 fl_X1_28 lX_74 rfl ?_
    obtain ⟨r1138, hc1139, h⟩ := ob (fun z9 => z9) rfl h
    refine c_V (rest := []) 0 0 _ dX1_fact_122 kv_X1_109 (ct_Ve_pairCount hc1139) rfl rfl lX_26 rfl (Nat.le_of_ble_eq_true rfl) (by decide) (by decide) ?_
    refine r_iret dX1_fact_125 rfl ?_
    have h := Option.some.inj (show some _ = some o from h)
    subst h
    exact hq
  have h := iq (fun z9 => z9) hc1129 h
  by_cases hc1130 : p1 = (213 : Int32)
  · have h := ip (fun z9 => z9) hc1130 h
    refine r_lookup (tgt := 192) dX1_fact_1 (by decide) (lo_cons (v := (131 : Int32)) (by decide) hc1126 (lo_cons (v := (210 : Int32)) (by decide) hc1127 (lo_cons (v := (211 : Int32)) (by decide) hc1128 (lo_cons (v := (212 : Int32)) (by decide) hc1129 (lo_hit (v := (213 : Int32)) (by decide) hc1130))))) (by decide) ?_
    refine r_aload_n 0 dX1_fact_192 rfl ?_
    refine r_getf (v := .int Co_doubted) _ dX1_fact_193 fl_X1_28 lX_74 rfl ?_
    refine r_iload_n 2 dX1_fact_196 rfl ?_
    refine c_SN (rest := []) 0 0 dX1_fact_197 kq_X1_132 (ct_Main_has rfl) rfl rfl (Nat.le_of_ble_eq_true rfl) (by decide) (by decide) ?_
    refine c_SN (rest := []) 0 0 dX1_fact_200 kq_X1_128 (ct_Main_one rfl) rfl rfl (Nat.le_of_ble_eq_true rfl) (by decide) (by decide) ?_
    refine r_iret dX1_fact_203 rfl ?_
    have h := Option.some.inj (show some _ = some o from h)
    subst h
    exact hq
  have h := iq (fun z9 => z9) hc1130 h
  by_cases hc1131 : p1 = (214 : Int32)
  · have h := ip (fun z9 => z9) hc1131 h
    refine r_lookup (tgt := 126) dX1_fact_1 (by decide) (lo_cons (v := (131 : Int32)) (by decide) hc1126 (lo_cons (v := (210 : Int32)) (by decide) hc1127 (lo_cons (v := (211 : Int32)) (by decide) hc1128 (lo_cons (v := (212 : Int32)) (by decide) hc1129 (lo_cons (v := (213 : Int32)) (by decide) hc1130 (lo_hit (v := (214 : Int32)) (by decide) hc1131)))))) (by decide) ?_
    refine r_aload_n 0 dX1_fact_126 rfl ?_
    refine r_getf (v := .ref (ad 3)) _ dX1_fact_127 fl_X1_9 lX_74 rfl ?_
    refine r_getf (v := .ref (ad 4)) _ dX1_fact_130 fl_X1_112 lX_3 rfl ?_
    refine r_iload_n 2 dX1_fact_133 rfl ?_
    obtain ⟨r1140, hc1141, h⟩ := ob (fun z9 => z9) rfl h
    refine c_V (rest := []) 0 0 _ dX1_fact_134 kv_X1_116 (ct_Cl_countOf hc1141) rfl rfl lX_4 rfl (Nat.le_of_ble_eq_true rfl) (by decide) (by decide) ?_
    refine r_iret dX1_fact_137 rfl ?_
    have h := Option.some.inj (show some _ = some o from h)
    subst h
    exact hq
  have h := iq (fun z9 => z9) hc1131 h
  by_cases hc1132 : p1 = (215 : Int32)
  · have h := ip (fun z9 => z9) hc1132 h
    refine r_lookup (tgt := 138) dX1_fact_1 (by decide) (lo_cons (v := (131 : Int32)) (by decide) hc1126 (lo_cons (v := (210 : Int32)) (by decide) hc1127 (lo_cons (v := (211 : Int32)) (by decide) hc1128 (lo_cons (v := (212 : Int32)) (by decide) hc1129 (lo_cons (v := (213 : Int32)) (by decide) hc1130 (lo_cons (v := (214 : Int32)) (by decide) hc1131 (lo_hit (v := (215 : Int32)) (by decide) hc1132))))))) (by decide) ?_
    refine r_aload_n 0 dX1_fact_138 rfl ?_
    refine r_getf (v := .ref (ad 26)) _ dX1_fact_139 fl_X1_15 lX_74 rfl ?_
    refine r_iload_n 2 dX1_fact_142 rfl ?_
    refine r_aload_n 0 dX1_fact_143 rfl ?_
    refine r_getf (v := .int Co_doubted) _ dX1_fact_144 fl_X1_28 lX_74 rfl ?_
    obtain ⟨r1142, hc1143, h⟩ := ob (fun z9 => z9) rfl h
    refine c_V (rest := []) 0 0 _ dX1_fact_147 kv_X1_121 (ct_Ve_windowHours hc1143) rfl rfl lX_26 rfl (Nat.le_of_ble_eq_true rfl) (by decide) (by decide) ?_
    refine r_iret dX1_fact_150 rfl ?_
    have h := Option.some.inj (show some _ = some o from h)
    subst h
    exact hq
  have h := iq (fun z9 => z9) hc1132 h
  by_cases hc1133 : p1 = (217 : Int32)
  · have h := ip (fun z9 => z9) hc1133 h
    refine r_lookup (tgt := 151) dX1_fact_1 (by decide) (lo_cons (v := (131 : Int32)) (by decide) hc1126 (lo_cons (v := (210 : Int32)) (by decide) hc1127 (lo_cons (v := (211 : Int32)) (by decide) hc1128 (lo_cons (v := (212 : Int32)) (by decide) hc1129 (lo_cons (v := (213 : Int32)) (by decide) hc1130 (lo_cons (v := (214 : Int32)) (by decide) hc1131 (lo_cons (v := (215 : Int32)) (by decide) hc1132 (lo_hit (v := (217 : Int32)) (by decide) hc1133)))))))) (by decide) ?_
    refine r_aload_n 0 dX1_fact_151 rfl ?_
    refine r_getf (v := .ref (ad 26)) _ dX1_fact_152 fl_X1_15 lX_74 rfl ?_
    refine r_iload_n 2 dX1_fact_155 rfl ?_
    refine r_iconst (v := (4 : Int32)) dX1_fact_156 (by decide) ?_
    refine r_ishr dX1_fact_157 ?_
    refine r_iload_n 2 dX1_fact_158 rfl ?_
    refine r_bipush (v := (15 : Int32)) dX1_fact_159 (by decide) ?_
    refine r_iand dX1_fact_161 ?_
    refine r_aload_n 0 dX1_fact_162 rfl ?_
    refine r_getf (v := .int Co_doubted) _ dX1_fact_163 fl_X1_28 lX_74 rfl ?_
    refine c_V (rest := []) 0 0 _ dX1_fact_166 kv_X1_124 (ct_Ve_tellersContradict rfl) rfl rfl lX_26 rfl (Nat.le_of_ble_eq_true rfl) (by decide) (by decide) ?_
    refine c_SN (rest := []) 0 0 dX1_fact_169 kq_X1_128 (ct_Main_one rfl) rfl rfl (Nat.le_of_ble_eq_true rfl) (by decide) (by decide) ?_
    refine r_iret dX1_fact_172 rfl ?_
    have h := Option.some.inj (show some _ = some o from h)
    subst h
    exact hq
  have h := iq (fun z9 => z9) hc1133 h
  by_cases hc1134 : p1 = (218 : Int32)
  · have h := ip (fun z9 => z9) hc1134 h
    refine r_lookup (tgt := 173) dX1_fact_1 (by decide) (lo_cons (v := (131 : Int32)) (by decide) hc1126 (lo_cons (v := (210 : Int32)) (by decide) hc1127 (lo_cons (v := (211 : Int32)) (by decide) hc1128 (lo_cons (v := (212 : Int32)) (by decide) hc1129 (lo_cons (v := (213 : Int32)) (by decide) hc1130 (lo_cons (v := (214 : Int32)) (by decide) hc1131 (lo_cons (v := (215 : Int32)) (by decide) hc1132 (lo_cons (v := (217 : Int32)) (by decide) hc1133 (lo_hit (v := (218 : Int32)) (by decide) hc1134))))))))) (by decide) ?_
    refine r_aload_n 0 dX1_fact_173 rfl ?_
    refine r_getf (v := .ref (ad 26)) _ dX1_fact_174 fl_X1_15 lX_74 rfl ?_
    refine r_aload_n 0 dX1_fact_177 rfl ?_
    refine r_getf (v := .int Co_doubted) _ dX1_fact_178 fl_X1_28 lX_74 rfl ?_
    obtain ⟨r1144, hc1145, h⟩ := ob (fun z9 => z9) rfl h
    refine c_V (rest := []) 0 0 _ dX1_fact_181 kv_X1_99 (ct_Ve_liarSet hc1145) rfl rfl lX_26 rfl (Nat.le_of_ble_eq_true rfl) (by decide) (by decide) ?_
    refine r_iload_n 2 dX1_fact_184 rfl ?_
    refine c_SN (rest := []) 0 0 dX1_fact_185 kq_X1_132 (ct_Main_has rfl) rfl rfl (Nat.le_of_ble_eq_true rfl) (by decide) (by decide) ?_
    refine c_SN (rest := []) 0 0 dX1_fact_188 kq_X1_128 (ct_Main_one rfl) rfl rfl (Nat.le_of_ble_eq_true rfl) (by decide) (by decide) ?_
    refine r_iret dX1_fact_191 rfl ?_
    have h := Option.some.inj (show some _ = some o from h)
    subst h
    exact hq
  have h := iq (fun z9 => z9) hc1134 h
  by_cases hc1135 : p1 = (219 : Int32)
  · have h := ip (fun z9 => z9) hc1135 h
    refine r_lookup (tgt := 204) dX1_fact_1 (by decide) (lo_cons (v := (131 : Int32)) (by decide) hc1126 (lo_cons (v := (210 : Int32)) (by decide) hc1127 (lo_cons (v := (211 : Int32)) (by decide) hc1128 (lo_cons (v := (212 : Int32)) (by decide) hc1129 (lo_cons (v := (213 : Int32)) (by decide) hc1130 (lo_cons (v := (214 : Int32)) (by decide) hc1131 (lo_cons (v := (215 : Int32)) (by decide) hc1132 (lo_cons (v := (217 : Int32)) (by decide) hc1133 (lo_cons (v := (218 : Int32)) (by decide) hc1134 (lo_hit (v := (219 : Int32)) (by decide) hc1135)))))))))) (by decide) ?_
    refine r_aload_n 0 dX1_fact_204 rfl ?_
    refine r_getf (v := .ref (ad 26)) _ dX1_fact_205 fl_X1_15 lX_74 rfl ?_
    refine r_iload_n 2 dX1_fact_208 rfl ?_
    refine r_aload_n 0 dX1_fact_209 rfl ?_
    refine r_getf (v := .int Co_doubted) _ dX1_fact_210 fl_X1_28 lX_74 rfl ?_
    obtain ⟨r1146, hc1147, h⟩ := ob (fun z9 => z9) rfl h
    refine c_V (rest := []) 0 0 _ dX1_fact_213 kv_X1_121 (ct_Ve_windowHours hc1147) rfl rfl lX_26 rfl (Nat.le_of_ble_eq_true rfl) (by decide) (by decide) ?_
    refine r_if_le (tgt := 223) dX1_fact_216 (by decide) (fun hc1148 => ?_) (fun hc1148 => ?_)
    · have h := ip (fun z9 => z9) hc1148 h
      refine r_iconst (v := (0 : Int32)) dX1_fact_223 (by decide) ?_
      refine c_SN (rest := []) 0 0 dX1_fact_224 kq_X1_128 (ct_Main_one rfl) rfl rfl (Nat.le_of_ble_eq_true rfl) (by decide) (by decide) ?_
      refine r_iret dX1_fact_227 rfl ?_
      have h := Option.some.inj (show some _ = some o from h)
      subst h
      exact hq
    · have h := iq (fun z9 => z9) hc1148 h
      refine r_iconst (v := (1 : Int32)) dX1_fact_219 (by decide) ?_
      refine r_goto (tgt := 224) dX1_fact_220 (by decide) ?_
      refine c_SN (rest := []) 0 0 dX1_fact_224 kq_X1_128 (ct_Main_one rfl) rfl rfl (Nat.le_of_ble_eq_true rfl) (by decide) (by decide) ?_
      refine r_iret dX1_fact_227 rfl ?_
      have h := Option.some.inj (show some _ = some o from h)
      subst h
      exact hq
  have h := iq (fun z9 => z9) hc1135 h
  refine r_lookup (tgt := 228) (off := 227) dX1_fact_1 (by decide) (lo_cons (v := (131 : Int32)) (by decide) hc1126 (lo_cons (v := (210 : Int32)) (by decide) hc1127 (lo_cons (v := (211 : Int32)) (by decide) hc1128 (lo_cons (v := (212 : Int32)) (by decide) hc1129 (lo_cons (v := (213 : Int32)) (by decide) hc1130 (lo_cons (v := (214 : Int32)) (by decide) hc1131 (lo_cons (v := (215 : Int32)) (by decide) hc1132 (lo_cons (v := (217 : Int32)) (by decide) hc1133 (lo_cons (v := (218 : Int32)) (by decide) hc1134 (lo_cons (v := (219 : Int32)) (by decide) hc1135 rfl)))))))))) (by decide) ?_
  refine r_iconst (v := (0 : Int32)) dX1_fact_228 (by decide) ?_
  refine r_iret dX1_fact_229 rfl ?_
  have h := Option.some.inj (show some _ = some o from h)
  subst h
  exact hq
theorem ct_Co_fact_i1 {g : GG} {ad : Nat → Nat} {t : va_W} {x0 x1 x3 x11 x12 x24 x25 x26 x27 x28 x29 x30 x31 x37 x39 x40 x41 x47 x48 x54 x56 x58 x59 x60 x61 x63 x66 : Int32} {x2 x13 x14 x15 x16 x17 x22 x23 x33 x34 x35 x42 x43 x44 x45 x46 x49 x50 x51 x52 x53 x62 x67 : Nat → Int32} {x32 : Int64} {x36 x38 x55 x57 : Nat → Int64} {N : Nat} {Tap_tellerCount : Int32} {Cl_count : Int32} {Cl_tellers : Nat → Int32} {Cl_kinds : Nat → Int32} {Cl_events : Nat → Int32} {Cl_firsts : Nat → Int32} {Cl_lasts : Nat → Int32} {Ve_judged : Int32} {Ve_liarSet : Int32} {Ve_setCount : Int32} {Ve_against : Nat → Int32} {Co_doubted : Int32} {Co_evening : Int32} {p1 : Int32} {p2 : Int32} {o : Int32 × Int32 × Int32 × Int32} (h : f_Co_fact N Tap_tellerCount Cl_count Cl_tellers Cl_kinds Cl_events Cl_firsts Cl_lasts Ve_judged Ve_liarSet Ve_setCount Ve_against Co_doubted Co_evening p1 p2 = some o) : Ct g mX1_fact 5 0 0 [.ref (ad 74), .int p1, .int p2] (wlX g ad x0 x1 x2 x3 Tap_tellerCount Cl_count Cl_tellers Cl_kinds Cl_events Cl_firsts Cl_lasts x11 x12 x13 x14 x15 x16 x17 Ve_judged Ve_liarSet Ve_setCount Ve_against x22 x23 x24 x25 x26 x27 x28 x29 x30 x31 x32 x33 x34 x35 x36 x37 x38 x39 x40 x41 x42 x43 x44 x45 x46 x47 x48 x49 x50 x51 x52 x53 x54 x55 x56 x57 x58 x59 x60 x61 x62 x63 Co_doubted Co_evening x66 x67 ++ t) (Dv (some (.int o.1)) (wlX g ad x0 x1 x2 x3 Tap_tellerCount Cl_count Cl_tellers Cl_kinds Cl_events Cl_firsts Cl_lasts x11 x12 x13 x14 x15 x16 x17 o.2.1 o.2.2.1 o.2.2.2 Ve_against x22 x23 x24 x25 x26 x27 x28 x29 x30 x31 x32 x33 x34 x35 x36 x37 x38 x39 x40 x41 x42 x43 x44 x45 x46 x47 x48 x49 x50 x51 x52 x53 x54 x55 x56 x57 x58 x59 x60 x61 x62 x63 Co_doubted Co_evening x66 x67 ++ t)) := Ct.ofR (by decide +kernel) rfl (Nat.le_of_ble_eq_true rfl) (rt_Co_fact_i1 h ⟨rfl, rfl⟩)
set_option maxRecDepth 20000 in
set_option maxHeartbeats 4000000 in
theorem rt_Co_push_i1 {g : GG} {ad : Nat → Nat} {t : va_W} {x0 x1 x3 x4 x5 x11 x12 x18 x19 x20 x24 x25 x26 x27 x28 x29 x30 x31 x37 x39 x40 x41 x47 x48 x54 x56 x58 x59 x60 x61 x64 x65 x66 : Int32} {x2 x6 x7 x8 x9 x10 x13 x14 x15 x16 x17 x21 x22 x23 x33 x34 x35 x42 x43 x44 x45 x46 x49 x50 x51 x52 x53 x62 : Nat → Int32} {x32 : Int64} {x36 x38 x55 x57 : Nat → Int64} {Co_top : Int32} {Co_stack : Nat → Int32} {p1 : Int32} {o : Int32 × (Nat → Int32)} {Q : Rs → va_W → Prop} (h : f_Co_push Co_top Co_stack p1 = some o) (hq : Q (.inl (none)) (wlX g ad x0 x1 x2 x3 x4 x5 x6 x7 x8 x9 x10 x11 x12 x13 x14 x15 x16 x17 x18 x19 x20 x21 x22 x23 x24 x25 x26 x27 x28 x29 x30 x31 x32 x33 x34 x35 x36 x37 x38 x39 x40 x41 x42 x43 x44 x45 x46 x47 x48 x49 x50 x51 x52 x53 x54 x55 x56 x57 x58 x59 x60 x61 x62 o.1 x64 x65 x66 o.2 ++ t)) : R g mX1_push 2 0 0 0 [(0, .ref (ad 74)), (1, .int p1)] [] (wlX g ad x0 x1 x2 x3 x4 x5 x6 x7 x8 x9 x10 x11 x12 x13 x14 x15 x16 x17 x18 x19 x20 x21 x22 x23 x24 x25 x26 x27 x28 x29 x30 x31 x32 x33 x34 x35 x36 x37 x38 x39 x40 x41 x42 x43 x44 x45 x46 x47 x48 x49 x50 x51 x52 x53 x54 x55 x56 x57 x58 x59 x60 x61 x62 Co_top x64 x65 x66 Co_stack ++ t) Q := by
  unfold f_Co_push at h
  refine r_aload_n 0 dX1_push_0 rfl ?_
  refine r_getf (v := .ref (ad 75)) _ dX1_push_1 fl_X1_24 lX_74 rfl ?_
  refine r_aload_n 0 dX1_push_4 rfl ?_
  refine r_getf (v := .int Co_top) _ dX1_push_5 fl_X1_72 lX_74 rfl ?_
  refine r_iload_n 1 dX1_push_8 rfl ?_
  refine c_Vv (rest := []) 0 0 _ dX1_push_9 kv_X1_95 (ct_Row_set lX_75 lX_76 (sX_67 _) (Nat.le_of_ble_eq_true rfl)) rfl rfl lX_75 rfl (Nat.le_of_ble_eq_true rfl) (by decide) (by decide) ?_
  refine r_aload_n 0 dX1_push_12 rfl ?_
  refine r_dup dX1_push_13 rfl ?_
  refine r_getf (v := .int Co_top) _ dX1_push_14 fl_X1_72 lX_74 rfl ?_
  refine r_iconst (v := (1 : Int32)) dX1_push_17 (by decide) ?_
  refine r_iadd dX1_push_18 ?_
  refine r_putf _ dX1_push_19 fl_X1_72 lX_74 (Nat.le_of_ble_eq_true rfl) rfl rfl (sX_63 _) ?_
  refine r_vret dX1_push_22 rfl ?_
  have h := Option.some.inj (show some _ = some o from h)
  subst h
  exact hq
theorem ct_Co_push_i1 {g : GG} {ad : Nat → Nat} {t : va_W} {x0 x1 x3 x4 x5 x11 x12 x18 x19 x20 x24 x25 x26 x27 x28 x29 x30 x31 x37 x39 x40 x41 x47 x48 x54 x56 x58 x59 x60 x61 x64 x65 x66 : Int32} {x2 x6 x7 x8 x9 x10 x13 x14 x15 x16 x17 x21 x22 x23 x33 x34 x35 x42 x43 x44 x45 x46 x49 x50 x51 x52 x53 x62 : Nat → Int32} {x32 : Int64} {x36 x38 x55 x57 : Nat → Int64} {Co_top : Int32} {Co_stack : Nat → Int32} {p1 : Int32} {o : Int32 × (Nat → Int32)} (h : f_Co_push Co_top Co_stack p1 = some o) : Ct g mX1_push 2 0 0 [.ref (ad 74), .int p1] (wlX g ad x0 x1 x2 x3 x4 x5 x6 x7 x8 x9 x10 x11 x12 x13 x14 x15 x16 x17 x18 x19 x20 x21 x22 x23 x24 x25 x26 x27 x28 x29 x30 x31 x32 x33 x34 x35 x36 x37 x38 x39 x40 x41 x42 x43 x44 x45 x46 x47 x48 x49 x50 x51 x52 x53 x54 x55 x56 x57 x58 x59 x60 x61 x62 Co_top x64 x65 x66 Co_stack ++ t) (Dv (none) (wlX g ad x0 x1 x2 x3 x4 x5 x6 x7 x8 x9 x10 x11 x12 x13 x14 x15 x16 x17 x18 x19 x20 x21 x22 x23 x24 x25 x26 x27 x28 x29 x30 x31 x32 x33 x34 x35 x36 x37 x38 x39 x40 x41 x42 x43 x44 x45 x46 x47 x48 x49 x50 x51 x52 x53 x54 x55 x56 x57 x58 x59 x60 x61 x62 o.1 x64 x65 x66 o.2 ++ t)) := Ct.ofR (by decide +kernel) rfl (Nat.le_of_ble_eq_true rfl) (rt_Co_push_i1 h ⟨rfl, rfl⟩)
set_option maxRecDepth 20000 in
set_option maxHeartbeats 4000000 in
theorem rt_Co_reckon_i1 {g : GG} {ad : Nat → Nat} {t : va_W} {x0 x1 x3 x4 x5 x11 x12 x18 x19 x20 x24 x25 x26 x27 x28 x29 x30 x31 x37 x39 x40 x41 x47 x48 x54 x56 x58 x59 x60 x61 x64 x65 x66 : Int32} {x2 x6 x7 x8 x9 x10 x13 x14 x15 x16 x17 x21 x22 x23 x33 x34 x35 x42 x43 x44 x45 x46 x49 x50 x51 x52 x53 x62 : Nat → Int32} {x32 : Int64} {x36 x38 x55 x57 : Nat → Int64} {Co_top : Int32} {Co_stack : Nat → Int32} {p1 : Int32} {o : Int32 × (Nat → Int32)} {Q : Rs → va_W → Prop} (h : f_Co_reckon Co_top Co_stack p1 = some o) (hq : Q (.inl (none)) (wlX g ad x0 x1 x2 x3 x4 x5 x6 x7 x8 x9 x10 x11 x12 x13 x14 x15 x16 x17 x18 x19 x20 x21 x22 x23 x24 x25 x26 x27 x28 x29 x30 x31 x32 x33 x34 x35 x36 x37 x38 x39 x40 x41 x42 x43 x44 x45 x46 x47 x48 x49 x50 x51 x52 x53 x54 x55 x56 x57 x58 x59 x60 x61 x62 o.1 x64 x65 x66 o.2 ++ t)) : R g mX1_reckon 3 0 0 0 [(0, .ref (ad 74)), (1, .int p1)] [] (wlX g ad x0 x1 x2 x3 x4 x5 x6 x7 x8 x9 x10 x11 x12 x13 x14 x15 x16 x17 x18 x19 x20 x21 x22 x23 x24 x25 x26 x27 x28 x29 x30 x31 x32 x33 x34 x35 x36 x37 x38 x39 x40 x41 x42 x43 x44 x45 x46 x47 x48 x49 x50 x51 x52 x53 x54 x55 x56 x57 x58 x59 x60 x61 x62 Co_top x64 x65 x66 Co_stack ++ t) Q := by
  unfold f_Co_reckon at h
  refine r_aload_n 0 dX1_reckon_0 rfl ?_
  obtain ⟨r1149, hc1150, h⟩ := ob (fun z9 => z9) rfl h
  refine c_V (rest := []) 0 0 _ dX1_reckon_1 kv_X1_91 (ct_Co_pop_i1 hc1150) rfl rfl lX_74 rfl (Nat.le_of_ble_eq_true rfl) (by decide) (by decide) ?_
  refine r_istore_n [(2, .int r1149.1), (0, .ref (ad 74)), (1, .int p1)] dX1_reckon_4 (by decide) rfl ?_
  refine r_iload_n 2 dX1_reckon_5 rfl ?_
  refine r_sipush (v := (134 : Int32)) dX1_reckon_6 (by decide) ?_
  refine r_icmp_ne (tgt := 21) dX1_reckon_9 (by decide) (fun hc1151 => ?_) (fun hc1151 => ?_)
  · have h := iq (fun z9 => z9) hc1151 h
    refine r_iload_n 2 dX1_reckon_21 rfl ?_
    refine r_sipush (v := (220 : Int32)) dX1_reckon_22 (by decide) ?_
    refine r_icmp_ne (tgt := 47) dX1_reckon_25 (by decide) (fun hc1152 => ?_) (fun hc1152 => ?_)
    · have h := iq (fun z9 => z9) hc1152 h
      refine r_aload_n 1 dX1_reckon_47 rfl ?_
      refine r_iload_n 2 dX1_reckon_48 rfl ?_
      refine r_aload_n 1 dX1_reckon_49 rfl ?_
      obtain ⟨r1153, hc1154, h⟩ := ob (fun z9 => z9) rfl h
      refine c_V (rest := [.int p1, .ref (ad 74)]) 0 0 _ dX1_reckon_50 kv_X1_91 (ct_Co_pop_i1 hc1154) rfl rfl lX_74 rfl (Nat.le_of_ble_eq_true rfl) (by decide) (by decide) ?_
      refine r_iload_n 0 dX1_reckon_53 rfl ?_
      refine c_S (rest := [.ref (ad 74)]) 0 0 dX1_reckon_54 ks_X1_136 (ct_Co_combine rfl) rfl rfl (Nat.le_of_ble_eq_true rfl) (by decide) (by decide) ?_
      obtain ⟨r1155, hc1156, h⟩ := ob (fun z9 => z9) rfl h
      refine c_Vv (rest := []) 0 0 _ dX1_reckon_57 kv_X1_85 (ct_Co_push_i1 hc1156) rfl rfl lX_74 rfl (Nat.le_of_ble_eq_true rfl) (by decide) (by decide) ?_
      refine r_vret dX1_reckon_60 rfl ?_
      have h := Option.some.inj (show some _ = some o from h)
      subst h
      exact hq
    · have h := ip (fun z9 => z9) hc1152 h
      refine r_aload_n 1 dX1_reckon_28 rfl ?_
      refine r_iload_n 0 dX1_reckon_29 rfl ?_
      refine r_if_ne (tgt := 37) dX1_reckon_30 (by decide) (fun hc1157 => ?_) (fun hc1157 => ?_)
      · have h := iq (fun z9 => z9) hc1157 h
        refine r_iconst (v := (0 : Int32)) dX1_reckon_37 (by decide) ?_
        refine c_SN (rest := [.ref (ad 74)]) 0 0 dX1_reckon_38 kq_X1_128 (ct_Main_one rfl) rfl rfl (Nat.le_of_ble_eq_true rfl) (by decide) (by decide) ?_
        obtain ⟨r1158, hc1159, h⟩ := ob (fun z9 => z9) rfl h
        refine c_Vv (rest := []) 0 0 _ dX1_reckon_41 kv_X1_85 (ct_Co_push_i1 hc1159) rfl rfl lX_74 rfl (Nat.le_of_ble_eq_true rfl) (by decide) (by decide) ?_
        refine r_goto (tgt := 60) dX1_reckon_44 (by decide) ?_
        refine r_vret dX1_reckon_60 rfl ?_
        have h := Option.some.inj (show some _ = some o from h)
        subst h
        exact hq
      · have h := ip (fun z9 => z9) hc1157 h
        refine r_iconst (v := (1 : Int32)) dX1_reckon_33 (by decide) ?_
        refine r_goto (tgt := 38) dX1_reckon_34 (by decide) ?_
        refine c_SN (rest := [.ref (ad 74)]) 0 0 dX1_reckon_38 kq_X1_128 (ct_Main_one rfl) rfl rfl (Nat.le_of_ble_eq_true rfl) (by decide) (by decide) ?_
        obtain ⟨r1160, hc1161, h⟩ := ob (fun z9 => z9) rfl h
        refine c_Vv (rest := []) 0 0 _ dX1_reckon_41 kv_X1_85 (ct_Co_push_i1 hc1161) rfl rfl lX_74 rfl (Nat.le_of_ble_eq_true rfl) (by decide) (by decide) ?_
        refine r_goto (tgt := 60) dX1_reckon_44 (by decide) ?_
        refine r_vret dX1_reckon_60 rfl ?_
        have h := Option.some.inj (show some _ = some o from h)
        subst h
        exact hq
  · have h := ip (fun z9 => z9) hc1151 h
    refine r_aload_n 1 dX1_reckon_12 rfl ?_
    refine r_iload_n 0 dX1_reckon_13 rfl ?_
    refine r_ineg dX1_reckon_14 ?_
    obtain ⟨r1162, hc1163, h⟩ := ob (fun z9 => z9) rfl h
    refine c_Vv (rest := []) 0 0 _ dX1_reckon_15 kv_X1_85 (ct_Co_push_i1 hc1163) rfl rfl lX_74 rfl (Nat.le_of_ble_eq_true rfl) (by decide) (by decide) ?_
    refine r_goto (tgt := 60) dX1_reckon_18 (by decide) ?_
    refine r_vret dX1_reckon_60 rfl ?_
    have h := Option.some.inj (show some _ = some o from h)
    subst h
    exact hq
theorem ct_Co_reckon_i1 {g : GG} {ad : Nat → Nat} {t : va_W} {x0 x1 x3 x4 x5 x11 x12 x18 x19 x20 x24 x25 x26 x27 x28 x29 x30 x31 x37 x39 x40 x41 x47 x48 x54 x56 x58 x59 x60 x61 x64 x65 x66 : Int32} {x2 x6 x7 x8 x9 x10 x13 x14 x15 x16 x17 x21 x22 x23 x33 x34 x35 x42 x43 x44 x45 x46 x49 x50 x51 x52 x53 x62 : Nat → Int32} {x32 : Int64} {x36 x38 x55 x57 : Nat → Int64} {Co_top : Int32} {Co_stack : Nat → Int32} {p1 : Int32} {o : Int32 × (Nat → Int32)} (h : f_Co_reckon Co_top Co_stack p1 = some o) : Ct g mX1_reckon 3 0 0 [.ref (ad 74), .int p1] (wlX g ad x0 x1 x2 x3 x4 x5 x6 x7 x8 x9 x10 x11 x12 x13 x14 x15 x16 x17 x18 x19 x20 x21 x22 x23 x24 x25 x26 x27 x28 x29 x30 x31 x32 x33 x34 x35 x36 x37 x38 x39 x40 x41 x42 x43 x44 x45 x46 x47 x48 x49 x50 x51 x52 x53 x54 x55 x56 x57 x58 x59 x60 x61 x62 Co_top x64 x65 x66 Co_stack ++ t) (Dv (none) (wlX g ad x0 x1 x2 x3 x4 x5 x6 x7 x8 x9 x10 x11 x12 x13 x14 x15 x16 x17 x18 x19 x20 x21 x22 x23 x24 x25 x26 x27 x28 x29 x30 x31 x32 x33 x34 x35 x36 x37 x38 x39 x40 x41 x42 x43 x44 x45 x46 x47 x48 x49 x50 x51 x52 x53 x54 x55 x56 x57 x58 x59 x60 x61 x62 o.1 x64 x65 x66 o.2 ++ t)) := Ct.ofR (by decide +kernel) rfl (Nat.le_of_ble_eq_true rfl) (rt_Co_reckon_i1 h ⟨rfl, rfl⟩)
set_option maxRecDepth 20000 in
set_option maxHeartbeats 4000000 in
theorem rt_Co_holds_i1 {g : GG} {ad : Nat → Nat} {t : va_W} {x0 x1 x3 x11 x12 x24 x25 x26 x27 x28 x29 x30 x31 x37 x39 x40 x41 x47 x48 x54 x56 x58 x59 x60 x61 x66 : Int32} {x2 x13 x14 x22 x23 x33 x34 x35 x42 x43 x44 x45 x46 x49 x50 x51 x52 x53 x62 : Nat → Int32} {x32 : Int64} {x36 x38 x55 x57 : Nat → Int64} {N : Nat} {Tap_tellerCount : Int32} {Cl_count : Int32} {Cl_tellers : Nat → Int32} {Cl_kinds : Nat → Int32} {Cl_events : Nat → Int32} {Cl_firsts : Nat → Int32} {Cl_lasts : Nat → Int32} {Or_ends : Nat → Int32} {Or_stepKinds : Nat → Int32} {Or_stepParts : Nat → Int32} {Ve_judged : Int32} {Ve_liarSet : Int32} {Ve_setCount : Int32} {Ve_against : Nat → Int32} {Co_top : Int32} {Co_doubted : Int32} {Co_evening : Int32} {Co_stack : Nat → Int32} {p1 : Int32} {o : Int32 × Int32 × Int32 × Int32 × Int32 × (Nat → Int32)} {Q : Rs → va_W → Prop} (h : f_Co_holds N Tap_tellerCount Cl_count Cl_tellers Cl_kinds Cl_events Cl_firsts Cl_lasts Or_ends Or_stepKinds Or_stepParts Ve_judged Ve_liarSet Ve_setCount Ve_against Co_top Co_doubted Co_evening Co_stack p1 = some o) (hq : Q (.inl (some (.int o.1))) (wlX g ad x0 x1 x2 x3 Tap_tellerCount Cl_count Cl_tellers Cl_kinds Cl_events Cl_firsts Cl_lasts x11 x12 x13 x14 Or_ends Or_stepKinds Or_stepParts o.2.1 o.2.2.1 o.2.2.2.1 Ve_against x22 x23 x24 x25 x26 x27 x28 x29 x30 x31 x32 x33 x34 x35 x36 x37 x38 x39 x40 x41 x42 x43 x44 x45 x46 x47 x48 x49 x50 x51 x52 x53 x54 x55 x56 x57 x58 x59 x60 x61 x62 o.2.2.2.2.1 Co_doubted Co_evening x66 o.2.2.2.2.2 ++ t)) : R g mX1_holds 6 0 0 0 [(0, .ref (ad 74)), (1, .int p1)] [] (wlX g ad x0 x1 x2 x3 Tap_tellerCount Cl_count Cl_tellers Cl_kinds Cl_events Cl_firsts Cl_lasts x11 x12 x13 x14 Or_ends Or_stepKinds Or_stepParts Ve_judged Ve_liarSet Ve_setCount Ve_against x22 x23 x24 x25 x26 x27 x28 x29 x30 x31 x32 x33 x34 x35 x36 x37 x38 x39 x40 x41 x42 x43 x44 x45 x46 x47 x48 x49 x50 x51 x52 x53 x54 x55 x56 x57 x58 x59 x60 x61 x62 Co_top Co_doubted Co_evening x66 Co_stack ++ t) Q := by
  unfold f_Co_holds at h
  refine r_aload_n 0 dX1_holds_0 rfl ?_
  refine r_getf (v := .ref (ad 3)) _ dX1_holds_1 fl_X1_9 lX_74 rfl ?_
  refine r_getf (v := .ref (ad 15)) _ dX1_holds_4 fl_X1_38 lX_3 rfl ?_
  refine r_iload_n 1 dX1_holds_7 rfl ?_
  refine c_V (rest := []) 0 0 _ dX1_holds_8 kv_X1_66 (ct_Or_startOf rfl) rfl rfl lX_15 rfl (Nat.le_of_ble_eq_true rfl) (by decide) (by decide) ?_
  refine r_istore_n [(2, .int (f_Or_startOf Or_ends p1)), (0, .ref (ad 74)), (1, .int p1)] dX1_holds_11 (by decide) rfl ?_
  refine r_aload_n 1 dX1_holds_12 rfl ?_
  refine r_getf (v := .ref (ad 3)) _ dX1_holds_13 fl_X1_9 lX_74 rfl ?_
  refine r_getf (v := .ref (ad 15)) _ dX1_holds_16 fl_X1_38 lX_3 rfl ?_
  refine r_getf (v := .ref (ad 20)) _ dX1_holds_19 fl_X1_69 lX_15 rfl ?_
  refine r_iload_n 2 dX1_holds_22 rfl ?_
  refine c_V (rest := []) 0 0 _ dX1_holds_23 kv_X1_59 (ct_Row_get lX_20 lX_21 (Nat.le_of_ble_eq_true rfl)) rfl rfl lX_20 rfl (Nat.le_of_ble_eq_true rfl) (by decide) (by decide) ?_
  refine r_istore_n [(3, .int (rget 16 Or_ends p1)), (2, .int (f_Or_startOf Or_ends p1)), (0, .ref (ad 74)), (1, .int p1)] dX1_holds_26 (by decide) rfl ?_
  refine r_iload_n 1 dX1_holds_27 rfl ?_
  refine r_iload_n 0 dX1_holds_28 rfl ?_
  refine r_icmp_lt (tgt := 34) dX1_holds_29 (by decide) (fun hc1164 => ?_) (fun hc1164 => ?_)
  · have h := ip (fun z9 => z9) hc1164 h
    refine r_aload_n 2 dX1_holds_34 rfl ?_
    refine r_iconst (v := (0 : Int32)) dX1_holds_35 (by decide) ?_
    refine r_putf _ dX1_holds_36 fl_X1_72 lX_74 (Nat.le_of_ble_eq_true rfl) rfl rfl (sX_63 _) ?_
    refine r_iload_n 1 dX1_holds_39 rfl ?_
    refine r_istore [(4, .int (f_Or_startOf Or_ends p1)), (3, .int (rget 16 Or_ends p1)), (2, .int (f_Or_startOf Or_ends p1)), (0, .ref (ad 74)), (1, .int p1)] dX1_holds_40 (by decide) rfl ?_
    refine r_ls [3, 1, 0] (ls2 := [(0, .ref (ad 74)), (3, .int (rget 16 Or_ends p1)), (4, .int (f_Or_startOf Or_ends p1))]) rfl ?_
    have L1 : ∀ (n1 : Nat) (c3_1 : Int32) (l4_1 : Int32) (Ve_judged_1 : Int32) (Ve_liarSet_1 : Int32) (Ve_setCount_1 : Int32) (Co_top_1 : Int32) (Co_stack_1 : Nat → Int32), (fun z9 => z9) (lpS (f_Co_holds_L42 N Tap_tellerCount Cl_count Cl_tellers Cl_kinds Cl_events Cl_firsts Cl_lasts Or_stepKinds Or_stepParts Ve_against Co_doubted Co_evening c3_1) none n1 (l4_1, Ve_judged_1, Ve_liarSet_1, Ve_setCount_1, Co_top_1, Co_stack_1)) = some o → R g mX1_holds 6 0 0 42 [(0, .ref (ad 74)), (3, .int c3_1), (4, .int l4_1)] [] (wlX g ad x0 x1 x2 x3 Tap_tellerCount Cl_count Cl_tellers Cl_kinds Cl_events Cl_firsts Cl_lasts x11 x12 x13 x14 Or_ends Or_stepKinds Or_stepParts Ve_judged_1 Ve_liarSet_1 Ve_setCount_1 Ve_against x22 x23 x24 x25 x26 x27 x28 x29 x30 x31 x32 x33 x34 x35 x36 x37 x38 x39 x40 x41 x42 x43 x44 x45 x46 x47 x48 x49 x50 x51 x52 x53 x54 x55 x56 x57 x58 x59 x60 x61 x62 Co_top_1 Co_doubted Co_evening x66 Co_stack_1 ++ t) Q := by
      intro n1
      induction n1 with
      | zero => intro c3_1 l4_1 Ve_judged_1 Ve_liarSet_1 Ve_setCount_1 Co_top_1 Co_stack_1 h; exact nomatch (show (none : Option _) = some _ from h)
      | succ n1 ih1 =>
        intro c3_1 l4_1 Ve_judged_1 Ve_liarSet_1 Ve_setCount_1 Co_top_1 Co_stack_1 h
        have h : (fun z9 => (lC (f_Co_holds_L42 N Tap_tellerCount Cl_count Cl_tellers Cl_kinds Cl_events Cl_firsts Cl_lasts Or_stepKinds Or_stepParts Ve_against Co_doubted Co_evening c3_1) none n1 z9)) (f_Co_holds_L42 N Tap_tellerCount Cl_count Cl_tellers Cl_kinds Cl_events Cl_firsts Cl_lasts Or_stepKinds Or_stepParts Ve_against Co_doubted Co_evening c3_1 (l4_1, Ve_judged_1, Ve_liarSet_1, Ve_setCount_1, Co_top_1, Co_stack_1)) = some o := h
        unfold f_Co_holds_L42 at h
        try dsimp only at h
        refine r_iload 2 dX1_holds_42 rfl ?_
        refine r_iload_n 1 dX1_holds_44 rfl ?_
        refine r_icmp_ge (tgt := 129) dX1_holds_45 (by decide) (fun hc1165 => ?_) (fun hc1165 => ?_)
        · have h := ip (fun z9 => (lC (f_Co_holds_L42 N Tap_tellerCount Cl_count Cl_tellers Cl_kinds Cl_events Cl_firsts Cl_lasts Or_stepKinds Or_stepParts Ve_against Co_doubted Co_evening c3_1) none n1 z9)) hc1165 h
          refine r_aload_n 0 dX1_holds_129 rfl ?_
          obtain ⟨r1166, hc1167, h⟩ := ob (fun z9 => (lC (f_Co_holds_L42 N Tap_tellerCount Cl_count Cl_tellers Cl_kinds Cl_events Cl_firsts Cl_lasts Or_stepKinds Or_stepParts Ve_against Co_doubted Co_evening c3_1) none n1 z9)) rfl h
          refine c_V (rest := []) 0 0 _ dX1_holds_130 kv_X1_91 (ct_Co_pop_i1 hc1167) rfl rfl lX_74 rfl (Nat.le_of_ble_eq_true rfl) (by decide) (by decide) ?_
          refine r_if_eq (tgt := 140) dX1_holds_133 (by decide) (fun hc1168 => ?_) (fun hc1168 => ?_)
          · have h := ip (fun z9 => (lC (f_Co_holds_L42 N Tap_tellerCount Cl_count Cl_tellers Cl_kinds Cl_events Cl_firsts Cl_lasts Or_stepKinds Or_stepParts Ve_against Co_doubted Co_evening c3_1) none n1 z9)) hc1168 h
            refine r_iconst (v := (0 : Int32)) dX1_holds_140 (by decide) ?_
            refine r_zret dX1_holds_141 rfl (by decide) ?_
            have h := Option.some.inj (show some _ = some o from h)
            subst h
            exact hq
          · have h := iq (fun z9 => (lC (f_Co_holds_L42 N Tap_tellerCount Cl_count Cl_tellers Cl_kinds Cl_events Cl_firsts Cl_lasts Or_stepKinds Or_stepParts Ve_against Co_doubted Co_evening c3_1) none n1 z9)) hc1168 h
            refine r_iconst (v := (1 : Int32)) dX1_holds_136 (by decide) ?_
            refine r_goto (tgt := 141) dX1_holds_137 (by decide) ?_
            refine r_zret dX1_holds_141 rfl (by decide) ?_
            have h := Option.some.inj (show some _ = some o from h)
            subst h
            exact hq
        · have h := iq (fun z9 => (lC (f_Co_holds_L42 N Tap_tellerCount Cl_count Cl_tellers Cl_kinds Cl_events Cl_firsts Cl_lasts Or_stepKinds Or_stepParts Ve_against Co_doubted Co_evening c3_1) none n1 z9)) hc1165 h
          refine r_aload_n 0 dX1_holds_48 rfl ?_
          refine r_getf (v := .ref (ad 3)) _ dX1_holds_49 fl_X1_9 lX_74 rfl ?_
          refine r_getf (v := .ref (ad 15)) _ dX1_holds_52 fl_X1_38 lX_3 rfl ?_
          refine r_getf (v := .ref (ad 22)) _ dX1_holds_55 fl_X1_75 lX_15 rfl ?_
          refine r_iload 2 dX1_holds_58 rfl ?_
          refine c_V (rest := []) 0 0 _ dX1_holds_60 kv_X1_59 (ct_Row_get lX_22 lX_23 (Nat.le_of_ble_eq_true rfl)) rfl rfl lX_22 rfl (Nat.le_of_ble_eq_true rfl) (by decide) (by decide) ?_
          refine r_istore [(5, .int (rget 400 Or_stepKinds l4_1)), (0, .ref (ad 74)), (3, .int c3_1), (4, .int l4_1)] dX1_holds_63 (by decide) rfl ?_
          refine r_iload 0 dX1_holds_65 rfl ?_
          refine r_sipush (v := (131 : Int32)) dX1_holds_67 (by decide) ?_
          refine r_icmp_eq (tgt := 89) dX1_holds_70 (by decide) (fun hc1169 => ?_) (fun hc1169 => ?_)
          · have h := ip (fun z9 => (lC (f_Co_holds_L42 N Tap_tellerCount Cl_count Cl_tellers Cl_kinds Cl_events Cl_firsts Cl_lasts Or_stepKinds Or_stepParts Ve_against Co_doubted Co_evening c3_1) none n1 z9)) hc1169 h
            refine r_aload_n 1 dX1_holds_89 rfl ?_
            refine r_aload_n 1 dX1_holds_90 rfl ?_
            refine r_iload 0 dX1_holds_91 rfl ?_
            refine r_aload_n 1 dX1_holds_93 rfl ?_
            refine r_getf (v := .ref (ad 3)) _ dX1_holds_94 fl_X1_9 lX_74 rfl ?_
            refine r_getf (v := .ref (ad 15)) _ dX1_holds_97 fl_X1_38 lX_3 rfl ?_
            refine r_getf (v := .ref (ad 24)) _ dX1_holds_100 fl_X1_78 lX_15 rfl ?_
            refine r_iload 3 dX1_holds_103 rfl ?_
            refine c_V (rest := [.int (rget 400 Or_stepKinds l4_1), .ref (ad 74), .ref (ad 74)]) 0 0 _ dX1_holds_105 kv_X1_59 (ct_Row_get lX_24 lX_25 (Nat.le_of_ble_eq_true rfl)) rfl rfl lX_24 rfl (Nat.le_of_ble_eq_true rfl) (by decide) (by decide) ?_
            obtain ⟨r1170, hc1171, h⟩ := ob (fun z9 => (lC (f_Co_holds_L42 N Tap_tellerCount Cl_count Cl_tellers Cl_kinds Cl_events Cl_firsts Cl_lasts Or_stepKinds Or_stepParts Ve_against Co_doubted Co_evening c3_1) none n1 z9)) rfl h
            refine c_V (rest := [.ref (ad 74)]) 0 0 _ dX1_holds_108 kv_X1_81 (ct_Co_fact_i1 hc1171) rfl rfl lX_74 rfl (Nat.le_of_ble_eq_true rfl) (by decide) (by decide) ?_
            obtain ⟨r1172, hc1173, h⟩ := ob (fun z9 => (lC (f_Co_holds_L42 N Tap_tellerCount Cl_count Cl_tellers Cl_kinds Cl_events Cl_firsts Cl_lasts Or_stepKinds Or_stepParts Ve_against Co_doubted Co_evening c3_1) none n1 z9)) rfl h
            refine c_Vv (rest := []) 0 0 _ dX1_holds_111 kv_X1_85 (ct_Co_push_i1 hc1173) rfl rfl lX_74 rfl (Nat.le_of_ble_eq_true rfl) (by decide) (by decide) ?_
            refine r_goto (tgt := 123) dX1_holds_114 (by decide) ?_
            refine r_iinc (v2 := (l4_1 + (1 : Int32))) 3 [(4, .int (l4_1 + (1 : Int32))), (5, .int (rget 400 Or_stepKinds l4_1)), (0, .ref (ad 74)), (3, .int c3_1)] dX1_holds_123 rfl rfl (by decide) rfl ?_
            refine r_goto (tgt := 42) dX1_holds_126 (by decide) ?_
            refine r_ls [2, 3, 0] (ls2 := [(0, .ref (ad 74)), (3, .int c3_1), (4, .int (l4_1 + (1 : Int32)))]) rfl ?_
            exact ih1 c3_1 (l4_1 + (1 : Int32)) r1170.2.1 r1170.2.2.1 r1170.2.2.2 r1172.1 r1172.2 h
          · have h := iq (fun z9 => (lC (f_Co_holds_L42 N Tap_tellerCount Cl_count Cl_tellers Cl_kinds Cl_events Cl_firsts Cl_lasts Or_stepKinds Or_stepParts Ve_against Co_doubted Co_evening c3_1) none n1 z9)) hc1169 h
            refine r_iload 0 dX1_holds_73 rfl ?_
            refine r_sipush (v := (210 : Int32)) dX1_holds_75 (by decide) ?_
            refine r_icmp_lt (tgt := 117) dX1_holds_78 (by decide) (fun hc1174 => ?_) (fun hc1174 => ?_)
            · have h := ip (fun z9 => (lC (f_Co_holds_L42 N Tap_tellerCount Cl_count Cl_tellers Cl_kinds Cl_events Cl_firsts Cl_lasts Or_stepKinds Or_stepParts Ve_against Co_doubted Co_evening c3_1) none n1 z9)) hc1174 h
              refine r_aload_n 1 dX1_holds_117 rfl ?_
              refine r_iload 0 dX1_holds_118 rfl ?_
              obtain ⟨r1175, hc1176, h⟩ := ob (fun z9 => (lC (f_Co_holds_L42 N Tap_tellerCount Cl_count Cl_tellers Cl_kinds Cl_events Cl_firsts Cl_lasts Or_stepKinds Or_stepParts Ve_against Co_doubted Co_evening c3_1) none n1 z9)) rfl h
              refine c_Vv (rest := []) 0 0 _ dX1_holds_120 kv_X1_88 (ct_Co_reckon_i1 hc1176) rfl rfl lX_74 rfl (Nat.le_of_ble_eq_true rfl) (by decide) (by decide) ?_
              refine r_iinc (v2 := (l4_1 + (1 : Int32))) 3 [(4, .int (l4_1 + (1 : Int32))), (5, .int (rget 400 Or_stepKinds l4_1)), (0, .ref (ad 74)), (3, .int c3_1)] dX1_holds_123 rfl rfl (by decide) rfl ?_
              refine r_goto (tgt := 42) dX1_holds_126 (by decide) ?_
              refine r_ls [2, 3, 0] (ls2 := [(0, .ref (ad 74)), (3, .int c3_1), (4, .int (l4_1 + (1 : Int32)))]) rfl ?_
              exact ih1 c3_1 (l4_1 + (1 : Int32)) Ve_judged_1 Ve_liarSet_1 Ve_setCount_1 r1175.1 r1175.2 h
            · have h := iq (fun z9 => (lC (f_Co_holds_L42 N Tap_tellerCount Cl_count Cl_tellers Cl_kinds Cl_events Cl_firsts Cl_lasts Or_stepKinds Or_stepParts Ve_against Co_doubted Co_evening c3_1) none n1 z9)) hc1174 h
              refine r_iload 0 dX1_holds_81 rfl ?_
              refine r_sipush (v := (219 : Int32)) dX1_holds_83 (by decide) ?_
              refine r_icmp_gt (tgt := 117) dX1_holds_86 (by decide) (fun hc1177 => ?_) (fun hc1177 => ?_)
              · have h := ip (fun z9 => (lC (f_Co_holds_L42 N Tap_tellerCount Cl_count Cl_tellers Cl_kinds Cl_events Cl_firsts Cl_lasts Or_stepKinds Or_stepParts Ve_against Co_doubted Co_evening c3_1) none n1 z9)) hc1177 h
                refine r_aload_n 1 dX1_holds_117 rfl ?_
                refine r_iload 0 dX1_holds_118 rfl ?_
                obtain ⟨r1178, hc1179, h⟩ := ob (fun z9 => (lC (f_Co_holds_L42 N Tap_tellerCount Cl_count Cl_tellers Cl_kinds Cl_events Cl_firsts Cl_lasts Or_stepKinds Or_stepParts Ve_against Co_doubted Co_evening c3_1) none n1 z9)) rfl h
                refine c_Vv (rest := []) 0 0 _ dX1_holds_120 kv_X1_88 (ct_Co_reckon_i1 hc1179) rfl rfl lX_74 rfl (Nat.le_of_ble_eq_true rfl) (by decide) (by decide) ?_
                refine r_iinc (v2 := (l4_1 + (1 : Int32))) 3 [(4, .int (l4_1 + (1 : Int32))), (5, .int (rget 400 Or_stepKinds l4_1)), (0, .ref (ad 74)), (3, .int c3_1)] dX1_holds_123 rfl rfl (by decide) rfl ?_
                refine r_goto (tgt := 42) dX1_holds_126 (by decide) ?_
                refine r_ls [2, 3, 0] (ls2 := [(0, .ref (ad 74)), (3, .int c3_1), (4, .int (l4_1 + (1 : Int32)))]) rfl ?_
                exact ih1 c3_1 (l4_1 + (1 : Int32)) Ve_judged_1 Ve_liarSet_1 Ve_setCount_1 r1178.1 r1178.2 h
              · have h := iq (fun z9 => (lC (f_Co_holds_L42 N Tap_tellerCount Cl_count Cl_tellers Cl_kinds Cl_events Cl_firsts Cl_lasts Or_stepKinds Or_stepParts Ve_against Co_doubted Co_evening c3_1) none n1 z9)) hc1177 h
                refine r_aload_n 1 dX1_holds_89 rfl ?_
                refine r_aload_n 1 dX1_holds_90 rfl ?_
                refine r_iload 0 dX1_holds_91 rfl ?_
                refine r_aload_n 1 dX1_holds_93 rfl ?_
                refine r_getf (v := .ref (ad 3)) _ dX1_holds_94 fl_X1_9 lX_74 rfl ?_
                refine r_getf (v := .ref (ad 15)) _ dX1_holds_97 fl_X1_38 lX_3 rfl ?_
                refine r_getf (v := .ref (ad 24)) _ dX1_holds_100 fl_X1_78 lX_15 rfl ?_
                refine r_iload 3 dX1_holds_103 rfl ?_
                refine c_V (rest := [.int (rget 400 Or_stepKinds l4_1), .ref (ad 74), .ref (ad 74)]) 0 0 _ dX1_holds_105 kv_X1_59 (ct_Row_get lX_24 lX_25 (Nat.le_of_ble_eq_true rfl)) rfl rfl lX_24 rfl (Nat.le_of_ble_eq_true rfl) (by decide) (by decide) ?_
                obtain ⟨r1180, hc1181, h⟩ := ob (fun z9 => (lC (f_Co_holds_L42 N Tap_tellerCount Cl_count Cl_tellers Cl_kinds Cl_events Cl_firsts Cl_lasts Or_stepKinds Or_stepParts Ve_against Co_doubted Co_evening c3_1) none n1 z9)) rfl h
                refine c_V (rest := [.ref (ad 74)]) 0 0 _ dX1_holds_108 kv_X1_81 (ct_Co_fact_i1 hc1181) rfl rfl lX_74 rfl (Nat.le_of_ble_eq_true rfl) (by decide) (by decide) ?_
                obtain ⟨r1182, hc1183, h⟩ := ob (fun z9 => (lC (f_Co_holds_L42 N Tap_tellerCount Cl_count Cl_tellers Cl_kinds Cl_events Cl_firsts Cl_lasts Or_stepKinds Or_stepParts Ve_against Co_doubted Co_evening c3_1) none n1 z9)) rfl h
                refine c_Vv (rest := []) 0 0 _ dX1_holds_111 kv_X1_85 (ct_Co_push_i1 hc1183) rfl rfl lX_74 rfl (Nat.le_of_ble_eq_true rfl) (by decide) (by decide) ?_
                refine r_goto (tgt := 123) dX1_holds_114 (by decide) ?_
                refine r_iinc (v2 := (l4_1 + (1 : Int32))) 3 [(4, .int (l4_1 + (1 : Int32))), (5, .int (rget 400 Or_stepKinds l4_1)), (0, .ref (ad 74)), (3, .int c3_1)] dX1_holds_123 rfl rfl (by decide) rfl ?_
                refine r_goto (tgt := 42) dX1_holds_126 (by decide) ?_
                refine r_ls [2, 3, 0] (ls2 := [(0, .ref (ad 74)), (3, .int c3_1), (4, .int (l4_1 + (1 : Int32)))]) rfl ?_
                exact ih1 c3_1 (l4_1 + (1 : Int32)) r1180.2.1 r1180.2.2.1 r1180.2.2.2 r1182.1 r1182.2 h
    exact L1 _ (rget 16 Or_ends p1) (f_Or_startOf Or_ends p1) Ve_judged Ve_liarSet Ve_setCount (0 : Int32) Co_stack h
  · have h := iq (fun z9 => z9) hc1164 h
    refine r_iconst (v := (1 : Int32)) dX1_holds_32 (by decide) ?_
    refine r_zret dX1_holds_33 rfl (by decide) ?_
    have h := Option.some.inj (show some _ = some o from h)
    subst h
    exact hq
theorem ct_Co_holds_i1 {g : GG} {ad : Nat → Nat} {t : va_W} {x0 x1 x3 x11 x12 x24 x25 x26 x27 x28 x29 x30 x31 x37 x39 x40 x41 x47 x48 x54 x56 x58 x59 x60 x61 x66 : Int32} {x2 x13 x14 x22 x23 x33 x34 x35 x42 x43 x44 x45 x46 x49 x50 x51 x52 x53 x62 : Nat → Int32} {x32 : Int64} {x36 x38 x55 x57 : Nat → Int64} {N : Nat} {Tap_tellerCount : Int32} {Cl_count : Int32} {Cl_tellers : Nat → Int32} {Cl_kinds : Nat → Int32} {Cl_events : Nat → Int32} {Cl_firsts : Nat → Int32} {Cl_lasts : Nat → Int32} {Or_ends : Nat → Int32} {Or_stepKinds : Nat → Int32} {Or_stepParts : Nat → Int32} {Ve_judged : Int32} {Ve_liarSet : Int32} {Ve_setCount : Int32} {Ve_against : Nat → Int32} {Co_top : Int32} {Co_doubted : Int32} {Co_evening : Int32} {Co_stack : Nat → Int32} {p1 : Int32} {o : Int32 × Int32 × Int32 × Int32 × Int32 × (Nat → Int32)} (h : f_Co_holds N Tap_tellerCount Cl_count Cl_tellers Cl_kinds Cl_events Cl_firsts Cl_lasts Or_ends Or_stepKinds Or_stepParts Ve_judged Ve_liarSet Ve_setCount Ve_against Co_top Co_doubted Co_evening Co_stack p1 = some o) : Ct g mX1_holds 6 0 0 [.ref (ad 74), .int p1] (wlX g ad x0 x1 x2 x3 Tap_tellerCount Cl_count Cl_tellers Cl_kinds Cl_events Cl_firsts Cl_lasts x11 x12 x13 x14 Or_ends Or_stepKinds Or_stepParts Ve_judged Ve_liarSet Ve_setCount Ve_against x22 x23 x24 x25 x26 x27 x28 x29 x30 x31 x32 x33 x34 x35 x36 x37 x38 x39 x40 x41 x42 x43 x44 x45 x46 x47 x48 x49 x50 x51 x52 x53 x54 x55 x56 x57 x58 x59 x60 x61 x62 Co_top Co_doubted Co_evening x66 Co_stack ++ t) (Dv (some (.int o.1)) (wlX g ad x0 x1 x2 x3 Tap_tellerCount Cl_count Cl_tellers Cl_kinds Cl_events Cl_firsts Cl_lasts x11 x12 x13 x14 Or_ends Or_stepKinds Or_stepParts o.2.1 o.2.2.1 o.2.2.2.1 Ve_against x22 x23 x24 x25 x26 x27 x28 x29 x30 x31 x32 x33 x34 x35 x36 x37 x38 x39 x40 x41 x42 x43 x44 x45 x46 x47 x48 x49 x50 x51 x52 x53 x54 x55 x56 x57 x58 x59 x60 x61 x62 o.2.2.2.2.1 Co_doubted Co_evening x66 o.2.2.2.2.2 ++ t)) := Ct.ofR (by decide +kernel) rfl (Nat.le_of_ble_eq_true rfl) (rt_Co_holds_i1 h ⟨rfl, rfl⟩)
