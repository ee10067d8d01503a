set_option maxRecDepth 20000 in
set_option maxHeartbeats 4000000 in
theorem rt_Ve_liarSet {g : GG} {ad : Nat → Nat} {t : va_W} {x0 x1 x3 x5 x11 x12 x24 x25 x26 x27 x28 x29 x30 x31 x37 x39 x40 x41 x47 x48 x54 x56 x58 x59 x60 x61 x63 x64 x65 x66 : Int32} {x2 x6 x7 x8 x9 x10 x13 x14 x15 x16 x17 x22 x23 x33 x34 x35 x42 x43 x44 x45 x46 x49 x50 x51 x52 x53 x62 x67 : Nat → Int32} {x32 : Int64} {x36 x38 x55 x57 : Nat → Int64} {N : Nat} {Tap_tellerCount : Int32} {Ve_judged : Int32} {Ve_liarSet : Int32} {Ve_setCount : Int32} {Ve_against : Nat → Int32} {p1 : Int32} {o : Int32 × Int32 × Int32 × Int32} {Q : Rs → va_W → Prop} (h : f_Ve_liarSet N Tap_tellerCount Ve_judged Ve_liarSet Ve_setCount Ve_against p1 = some o) (hq : Q (.inl (some (.int o.1))) (wlX g ad x0 x1 x2 x3 Tap_tellerCount x5 x6 x7 x8 x9 x10 x11 x12 x13 x14 x15 x16 x17 o.2.1 o.2.2.1 o.2.2.2 Ve_against x22 x23 x24 x25 x26 x27 x28 x29 x30 x31 x32 x33 x34 x35 x36 x37 x38 x39 x40 x41 x42 x43 x44 x45 x46 x47 x48 x49 x50 x51 x52 x53 x54 x55 x56 x57 x58 x59 x60 x61 x62 x63 x64 x65 x66 x67 ++ t)) : R g mX8_liarSet 4 0 0 0 [(0, .ref (ad 26)), (1, .int p1)] [] (wlX g ad x0 x1 x2 x3 Tap_tellerCount x5 x6 x7 x8 x9 x10 x11 x12 x13 x14 x15 x16 x17 Ve_judged Ve_liarSet Ve_setCount Ve_against x22 x23 x24 x25 x26 x27 x28 x29 x30 x31 x32 x33 x34 x35 x36 x37 x38 x39 x40 x41 x42 x43 x44 x45 x46 x47 x48 x49 x50 x51 x52 x53 x54 x55 x56 x57 x58 x59 x60 x61 x62 x63 x64 x65 x66 x67 ++ t) Q := by
  unfold f_Ve_liarSet at h
  refine r_aload_n 0 dX8_liarSet_0 rfl ?_
  refine r_iload_n 1 dX8_liarSet_1 rfl ?_
  obtain ⟨r881, hc882, h⟩ := ob (fun z9 => z9) rfl h
  refine c_Vv (rest := []) 0 0 _ dX8_liarSet_2 kv_X8_77 (ct_Ve_judge hc882) rfl rfl lX_26 rfl (Nat.le_of_ble_eq_true rfl) (by decide) (by decide) ?_
  refine r_aload_n 0 dX8_liarSet_5 rfl ?_
  refine r_getf (v := .int r881.2.1) _ dX8_liarSet_6 fl_X8_80 lX_26 rfl ?_
  refine r_iret dX8_liarSet_9 rfl ?_
  have h := Option.some.inj (show some _ = some o from h)
  subst h
  exact hq
theorem ct_Ve_liarSet {g : GG} {ad : Nat → Nat} {t : va_W} {x0 x1 x3 x5 x11 x12 x24 x25 x26 x27 x28 x29 x30 x31 x37 x39 x40 x41 x47 x48 x54 x56 x58 x59 x60 x61 x63 x64 x65 x66 : Int32} {x2 x6 x7 x8 x9 x10 x13 x14 x15 x16 x17 x22 x23 x33 x34 x35 x42 x43 x44 x45 x46 x49 x50 x51 x52 x53 x62 x67 : Nat → Int32} {x32 : Int64} {x36 x38 x55 x57 : Nat → Int64} {N : Nat} {Tap_tellerCount : Int32} {Ve_judged : Int32} {Ve_liarSet : Int32} {Ve_setCount : Int32} {Ve_against : Nat → Int32} {p1 : Int32} {o : Int32 × Int32 × Int32 × Int32} (h : f_Ve_liarSet N Tap_tellerCount Ve_judged Ve_liarSet Ve_setCount Ve_against p1 = some o) : Ct g mX8_liarSet 4 0 0 [.ref (ad 26), .int p1] (wlX g ad x0 x1 x2 x3 Tap_tellerCount x5 x6 x7 x8 x9 x10 x11 x12 x13 x14 x15 x16 x17 Ve_judged Ve_liarSet Ve_setCount Ve_against x22 x23 x24 x25 x26 x27 x28 x29 x30 x31 x32 x33 x34 x35 x36 x37 x38 x39 x40 x41 x42 x43 x44 x45 x46 x47 x48 x49 x50 x51 x52 x53 x54 x55 x56 x57 x58 x59 x60 x61 x62 x63 x64 x65 x66 x67 ++ t) (Dv (some (.int o.1)) (wlX g ad x0 x1 x2 x3 Tap_tellerCount x5 x6 x7 x8 x9 x10 x11 x12 x13 x14 x15 x16 x17 o.2.1 o.2.2.1 o.2.2.2 Ve_against x22 x23 x24 x25 x26 x27 x28 x29 x30 x31 x32 x33 x34 x35 x36 x37 x38 x39 x40 x41 x42 x43 x44 x45 x46 x47 x48 x49 x50 x51 x52 x53 x54 x55 x56 x57 x58 x59 x60 x61 x62 x63 x64 x65 x66 x67 ++ t)) := Ct.ofR (by decide +kernel) rfl (Nat.le_of_ble_eq_true rfl) (rt_Ve_liarSet h ⟨rfl, rfl⟩)
set_option maxRecDepth 20000 in
set_option maxHeartbeats 4000000 in
theorem rt_Main_liars {g : GG} {ad : Nat → Nat} {t : va_W} {x0 x1 x3 x5 x11 x12 x24 x25 x26 x27 x28 x29 x30 x31 x37 x39 x40 x41 x47 x48 x54 x56 x58 x60 x61 x63 x64 x65 x66 : Int32} {x2 x6 x7 x8 x9 x10 x13 x14 x15 x16 x17 x22 x23 x33 x34 x35 x42 x43 x44 x45 x46 x49 x50 x51 x52 x53 x62 x67 : Nat → Int32} {x32 : Int64} {x36 x38 x55 x57 : Nat → Int64} {N : Nat} {Tap_tellerCount : Int32} {Ve_judged : Int32} {Ve_liarSet : Int32} {Ve_setCount : Int32} {Ve_against : Nat → Int32} {Co_doubted : Int32} {o : Int32 × Int32 × Int32 × Int32} {Q : Rs → va_W → Prop} (h : f_Main_liars N Tap_tellerCount Ve_judged Ve_liarSet Ve_setCount Ve_against Co_doubted = some o) (hq : Q (.inl (some (.int o.1))) (wlX g ad x0 x1 x2 x3 Tap_tellerCount x5 x6 x7 x8 x9 x10 x11 x12 x13 x14 x15 x16 x17 o.2.1 o.2.2.1 o.2.2.2 Ve_against x22 x23 x24 x25 x26 x27 x28 x29 x30 x31 x32 x33 x34 x35 x36 x37 x38 x39 x40 x41 x42 x43 x44 x45 x46 x47 x48 x49 x50 x51 x52 x53 x54 x55 x56 x57 x58 Co_doubted x60 x61 x62 x63 x64 x65 x66 x67 ++ t)) : R g mX9_liars 5 0 0 0 [(0, .ref (ad 0))] [] (wlX g ad x0 x1 x2 x3 Tap_tellerCount x5 x6 x7 x8 x9 x10 x11 x12 x13 x14 x15 x16 x17 Ve_judged Ve_liarSet Ve_setCount Ve_against x22 x23 x24 x25 x26 x27 x28 x29 x30 x31 x32 x33 x34 x35 x36 x37 x38 x39 x40 x41 x42 x43 x44 x45 x46 x47 x48 x49 x50 x51 x52 x53 x54 x55 x56 x57 x58 Co_doubted x60 x61 x62 x63 x64 x65 x66 x67 ++ t) Q := by
  unfold f_Main_liars at h
  refine r_aload_n 0 dX9_liars_0 rfl ?_
  refine r_getf (v := .ref (ad 26)) _ dX9_liars_1 fl_X9_39 lX_0 rfl ?_
  refine r_aload_n 0 dX9_liars_4 rfl ?_
  refine r_getf (v := .ref (ad 71)) _ dX9_liars_5 fl_X9_48 lX_0 rfl ?_
  refine r_getf (v := .int Co_doubted) _ dX9_liars_8 fl_X9_162 lX_71 rfl ?_
  obtain ⟨r883, hc884, h⟩ := ob (fun z9 => z9) rfl h
  refine c_V (rest := []) 0 0 _ dX9_liars_11 kv_X9_179 (ct_Ve_liarSet hc884) rfl rfl lX_26 rfl (Nat.le_of_ble_eq_true rfl) (by decide) (by decide) ?_
  refine c_S (rest := []) 0 0 dX9_liars_14 ks_X9_182 (ct_J6_bitCount_0f7a4 rfl) rfl rfl (Nat.le_of_ble_eq_true rfl) (by decide) (by decide) ?_
  refine r_iret dX9_liars_17 rfl ?_
  have h := Option.some.inj (show some _ = some o from h)
  subst h
  exact hq
theorem ct_Main_liars {g : GG} {ad : Nat → Nat} {t : va_W} {x0 x1 x3 x5 x11 x12 x24 x25 x26 x27 x28 x29 x30 x31 x37 x39 x40 x41 x47 x48 x54 x56 x58 x60 x61 x63 x64 x65 x66 : Int32} {x2 x6 x7 x8 x9 x10 x13 x14 x15 x16 x17 x22 x23 x33 x34 x35 x42 x43 x44 x45 x46 x49 x50 x51 x52 x53 x62 x67 : Nat → Int32} {x32 : Int64} {x36 x38 x55 x57 : Nat → Int64} {N : Nat} {Tap_tellerCount : Int32} {Ve_judged : Int32} {Ve_liarSet : Int32} {Ve_setCount : Int32} {Ve_against : Nat → Int32} {Co_doubted : Int32} {o : Int32 × Int32 × Int32 × Int32} (h : f_Main_liars N Tap_tellerCount Ve_judged Ve_liarSet Ve_setCount Ve_against Co_doubted = some o) : Ct g mX9_liars 5 0 0 [.ref (ad 0)] (wlX g ad x0 x1 x2 x3 Tap_tellerCount x5 x6 x7 x8 x9 x10 x11 x12 x13 x14 x15 x16 x17 Ve_judged Ve_liarSet Ve_setCount Ve_against x22 x23 x24 x25 x26 x27 x28 x29 x30 x31 x32 x33 x34 x35 x36 x37 x38 x39 x40 x41 x42 x43 x44 x45 x46 x47 x48 x49 x50 x51 x52 x53 x54 x55 x56 x57 x58 Co_doubted x60 x61 x62 x63 x64 x65 x66 x67 ++ t) (Dv (some (.int o.1)) (wlX g ad x0 x1 x2 x3 Tap_tellerCount x5 x6 x7 x8 x9 x10 x11 x12 x13 x14 x15 x16 x17 o.2.1 o.2.2.1 o.2.2.2 Ve_against x22 x23 x24 x25 x26 x27 x28 x29 x30 x31 x32 x33 x34 x35 x36 x37 x38 x39 x40 x41 x42 x43 x44 x45 x46 x47 x48 x49 x50 x51 x52 x53 x54 x55 x56 x57 x58 Co_doubted x60 x61 x62 x63 x64 x65 x66 x67 ++ t)) := Ct.ofR (by decide +kernel) rfl (Nat.le_of_ble_eq_true rfl) (rt_Main_liars h ⟨rfl, rfl⟩)
set_option maxRecDepth 20000 in
set_option maxHeartbeats 4000000 in
theorem rt_Ve_setCount {g : GG} {ad : Nat → Nat} {t : va_W} {x0 x1 x3 x5 x11 x12 x24 x25 x26 x27 x28 x29 x30 x31 x37 x39 x40 x41 x47 x48 x54 x56 x58 x59 x60 x61 x63 x64 x65 x66 : Int32} {x2 x6 x7 x8 x9 x10 x13 x14 x15 x16 x17 x22 x23 x33 x34 x35 x42 x43 x44 x45 x46 x49 x50 x51 x52 x53 x62 x67 : Nat → Int32} {x32 : Int64} {x36 x38 x55 x57 : Nat → Int64} {N : Nat} {Tap_tellerCount : Int32} {Ve_judged : Int32} {Ve_liarSet : Int32} {Ve_setCount : Int32} {Ve_against : Nat → Int32} {p1 : Int32} {o : Int32 × Int32 × Int32 × Int32} {Q : Rs → va_W → Prop} (h : f_Ve_setCount N Tap_tellerCount Ve_judged Ve_liarSet Ve_setCount Ve_against p1 = some o) (hq : Q (.inl (some (.int o.1))) (wlX g ad x0 x1 x2 x3 Tap_tellerCount x5 x6 x7 x8 x9 x10 x11 x12 x13 x14 x15 x16 x17 o.2.1 o.2.2.1 o.2.2.2 Ve_against x22 x23 x24 x25 x26 x27 x28 x29 x30 x31 x32 x33 x34 x35 x36 x37 x38 x39 x40 x41 x42 x43 x44 x45 x46 x47 x48 x49 x50 x51 x52 x53 x54 x55 x56 x57 x58 x59 x60 x61 x62 x63 x64 x65 x66 x67 ++ t)) : R g mX8_setCount 4 0 0 0 [(0, .ref (ad 26)), (1, .int p1)] [] (wlX g ad x0 x1 x2 x3 Tap_tellerCount x5 x6 x7 x8 x9 x10 x11 x12 x13 x14 x15 x16 x17 Ve_judged Ve_liarSet Ve_setCount Ve_against x22 x23 x24 x25 x26 x27 x28 x29 x30 x31 x32 x33 x34 x35 x36 x37 x38 x39 x40 x41 x42 x43 x44 x45 x46 x47 x48 x49 x50 x51 x52 x53 x54 x55 x56 x57 x58 x59 x60 x61 x62 x63 x64 x65 x66 x67 ++ t) Q := by
  unfold f_Ve_setCount at h
  refine r_aload_n 0 dX8_setCount_0 rfl ?_
  refine r_iload_n 1 dX8_setCount_1 rfl ?_
  obtain ⟨r885, hc886, h⟩ := ob (fun z9 => z9) rfl h
  refine c_Vv (rest := []) 0 0 _ dX8_setCount_2 kv_X8_77 (ct_Ve_judge hc886) rfl rfl lX_26 rfl (Nat.le_of_ble_eq_true rfl) (by decide) (by decide) ?_
  refine r_aload_n 0 dX8_setCount_5 rfl ?_
  refine r_getf (v := .int r885.2.2) _ dX8_setCount_6 fl_X8_83 lX_26 rfl ?_
  refine r_iret dX8_setCount_9 rfl ?_
  have h := Option.some.inj (show some _ = some o from h)
  subst h
  exact hq
theorem ct_Ve_setCount {g : GG} {ad : Nat → Nat} {t : va_W} {x0 x1 x3 x5 x11 x12 x24 x25 x26 x27 x28 x29 x30 x31 x37 x39 x40 x41 x47 x48 x54 x56 x58 x59 x60 x61 x63 x64 x65 x66 : Int32} {x2 x6 x7 x8 x9 x10 x13 x14 x15 x16 x17 x22 x23 x33 x34 x35 x42 x43 x44 x45 x46 x49 x50 x51 x52 x53 x62 x67 : Nat → Int32} {x32 : Int64} {x36 x38 x55 x57 : Nat → Int64} {N : Nat} {Tap_tellerCount : Int32} {Ve_judged : Int32} {Ve_liarSet : Int32} {Ve_setCount : Int32} {Ve_against : Nat → Int32} {p1 : Int32} {o : Int32 × Int32 × Int32 × Int32} (h : f_Ve_setCount N Tap_tellerCount Ve_judged Ve_liarSet Ve_setCount Ve_against p1 = some o) : Ct g mX8_setCount 4 0 0 [.ref (ad 26), .int p1] (wlX g ad x0 x1 x2 x3 Tap_tellerCount x5 x6 x7 x8 x9 x10 x11 x12 x13 x14 x15 x16 x17 Ve_judged Ve_liarSet Ve_setCount Ve_against x22 x23 x24 x25 x26 x27 x28 x29 x30 x31 x32 x33 x34 x35 x36 x37 x38 x39 x40 x41 x42 x43 x44 x45 x46 x47 x48 x49 x50 x51 x52 x53 x54 x55 x56 x57 x58 x59 x60 x61 x62 x63 x64 x65 x66 x67 ++ t) (Dv (some (.int o.1)) (wlX g ad x0 x1 x2 x3 Tap_tellerCount x5 x6 x7 x8 x9 x10 x11 x12 x13 x14 x15 x16 x17 o.2.1 o.2.2.1 o.2.2.2 Ve_against x22 x23 x24 x25 x26 x27 x28 x29 x30 x31 x32 x33 x34 x35 x36 x37 x38 x39 x40 x41 x42 x43 x44 x45 x46 x47 x48 x49 x50 x51 x52 x53 x54 x55 x56 x57 x58 x59 x60 x61 x62 x63 x64 x65 x66 x67 ++ t)) := Ct.ofR (by decide +kernel) rfl (Nat.le_of_ble_eq_true rfl) (rt_Ve_setCount h ⟨rfl, rfl⟩)
set_option maxRecDepth 20000 in
set_option maxHeartbeats 4000000 in
theorem rt_Main_smallestSets {g : GG} {ad : Nat → Nat} {t : va_W} {x0 x1 x3 x5 x11 x12 x24 x25 x26 x27 x28 x29 x30 x31 x37 x39 x40 x41 x47 x48 x54 x56 x58 x60 x61 x63 x64 x65 x66 : Int32} {x2 x6 x7 x8 x9 x10 x13 x14 x15 x16 x17 x22 x23 x33 x34 x35 x42 x43 x44 x45 x46 x49 x50 x51 x52 x53 x62 x67 : Nat → Int32} {x32 : Int64} {x36 x38 x55 x57 : Nat → Int64} {N : Nat} {Tap_tellerCount : Int32} {Ve_judged : Int32} {Ve_liarSet : Int32} {Ve_setCount : Int32} {Ve_against : Nat → Int32} {Co_doubted : Int32} {o : Int32 × Int32 × Int32 × Int32} {Q : Rs → va_W → Prop} (h : f_Main_smallestSets N Tap_tellerCount Ve_judged Ve_liarSet Ve_setCount Ve_against Co_doubted = some o) (hq : Q (.inl (some (.int o.1))) (wlX g ad x0 x1 x2 x3 Tap_tellerCount x5 x6 x7 x8 x9 x10 x11 x12 x13 x14 x15 x16 x17 o.2.1 o.2.2.1 o.2.2.2 Ve_against x22 x23 x24 x25 x26 x27 x28 x29 x30 x31 x32 x33 x34 x35 x36 x37 x38 x39 x40 x41 x42 x43 x44 x45 x46 x47 x48 x49 x50 x51 x52 x53 x54 x55 x56 x57 x58 Co_doubted x60 x61 x62 x63 x64 x65 x66 x67 ++ t)) : R g mX9_smallestSets 5 0 0 0 [(0, .ref (ad 0))] [] (wlX g ad x0 x1 x2 x3 Tap_tellerCount x5 x6 x7 x8 x9 x10 x11 x12 x13 x14 x15 x16 x17 Ve_judged Ve_liarSet Ve_setCount Ve_against x22 x23 x24 x25 x26 x27 x28 x29 x30 x31 x32 x33 x34 x35 x36 x37 x38 x39 x40 x41 x42 x43 x44 x45 x46 x47 x48 x49 x50 x51 x52 x53 x54 x55 x56 x57 x58 Co_doubted x60 x61 x62 x63 x64 x65 x66 x67 ++ t) Q := by
  unfold f_Main_smallestSets at h
  refine r_aload_n 0 dX9_smallestSets_0 rfl ?_
  refine r_getf (v := .ref (ad 26)) _ dX9_smallestSets_1 fl_X9_39 lX_0 rfl ?_
  refine r_aload_n 0 dX9_smallestSets_4 rfl ?_
  refine r_getf (v := .ref (ad 71)) _ dX9_smallestSets_5 fl_X9_48 lX_0 rfl ?_
  refine r_getf (v := .int Co_doubted) _ dX9_smallestSets_8 fl_X9_162 lX_71 rfl ?_
  obtain ⟨r887, hc888, h⟩ := ob (fun z9 => z9) rfl h
  refine c_V (rest := []) 0 0 _ dX9_smallestSets_11 kv_X9_187 (ct_Ve_setCount hc888) rfl rfl lX_26 rfl (Nat.le_of_ble_eq_true rfl) (by decide) (by decide) ?_
  refine r_iret dX9_smallestSets_14 rfl ?_
  have h := Option.some.inj (show some _ = some o from h)
  subst h
  exact hq
theorem ct_Main_smallestSets {g : GG} {ad : Nat → Nat} {t : va_W} {x0 x1 x3 x5 x11 x12 x24 x25 x26 x27 x28 x29 x30 x31 x37 x39 x40 x41 x47 x48 x54 x56 x58 x60 x61 x63 x64 x65 x66 : Int32} {x2 x6 x7 x8 x9 x10 x13 x14 x15 x16 x17 x22 x23 x33 x34 x35 x42 x43 x44 x45 x46 x49 x50 x51 x52 x53 x62 x67 : Nat → Int32} {x32 : Int64} {x36 x38 x55 x57 : Nat → Int64} {N : Nat} {Tap_tellerCount : Int32} {Ve_judged : Int32} {Ve_liarSet : Int32} {Ve_setCount : Int32} {Ve_against : Nat → Int32} {Co_doubted : Int32} {o : Int32 × Int32 × Int32 × Int32} (h : f_Main_smallestSets N Tap_tellerCount Ve_judged Ve_liarSet Ve_setCount Ve_against Co_doubted = some o) : Ct g mX9_smallestSets 5 0 0 [.ref (ad 0)] (wlX g ad x0 x1 x2 x3 Tap_tellerCount x5 x6 x7 x8 x9 x10 x11 x12 x13 x14 x15 x16 x17 Ve_judged Ve_liarSet Ve_setCount Ve_against x22 x23 x24 x25 x26 x27 x28 x29 x30 x31 x32 x33 x34 x35 x36 x37 x38 x39 x40 x41 x42 x43 x44 x45 x46 x47 x48 x49 x50 x51 x52 x53 x54 x55 x56 x57 x58 Co_doubted x60 x61 x62 x63 x64 x65 x66 x67 ++ t) (Dv (some (.int o.1)) (wlX g ad x0 x1 x2 x3 Tap_tellerCount x5 x6 x7 x8 x9 x10 x11 x12 x13 x14 x15 x16 x17 o.2.1 o.2.2.1 o.2.2.2 Ve_against x22 x23 x24 x25 x26 x27 x28 x29 x30 x31 x32 x33 x34 x35 x36 x37 x38 x39 x40 x41 x42 x43 x44 x45 x46 x47 x48 x49 x50 x51 x52 x53 x54 x55 x56 x57 x58 Co_doubted x60 x61 x62 x63 x64 x65 x66 x67 ++ t)) := Ct.ofR (by decide +kernel) rfl (Nat.le_of_ble_eq_true rfl) (rt_Main_smallestSets h ⟨rfl, rfl⟩)
set_option maxRecDepth 20000 in
set_option maxHeartbeats 4000000 in
theorem rt_Main_isLiar {g : GG} {ad : Nat → Nat} {t : va_W} {x0 x1 x3 x5 x11 x12 x24 x25 x26 x27 x28 x29 x30 x31 x37 x39 x40 x41 x47 x48 x54 x56 x58 x60 x61 x63 x64 x65 x66 : Int32} {x2 x6 x7 x8 x9 x10 x13 x14 x15 x16 x17 x22 x23 x33 x34 x35 x42 x43 x44 x45 x46 x49 x50 x51 x52 x53 x62 x67 : Nat → Int32} {x32 : Int64} {x36 x38 x55 x57 : Nat → Int64} {N : Nat} {Tap_tellerCount : Int32} {Ve_judged : Int32} {Ve_liarSet : Int32} {Ve_setCount : Int32} {Ve_against : Nat → Int32} {Co_doubted : Int32} {p1 : Int32} {o : (Int32 × Int32 × Int32 × Int32) ⊕ String} {Q : Rs → va_W → Prop} (h : f_Main_isLiar N Tap_tellerCount Ve_judged Ve_liarSet Ve_setCount Ve_against Co_doubted p1 = some o) (hq1 : ∀ q, o = .inl q → Q (.inl (some (.int q.1))) (wlX g ad x0 x1 x2 x3 Tap_tellerCount x5 x6 x7 x8 x9 x10 x11 x12 x13 x14 x15 x16 x17 q.2.1 q.2.2.1 q.2.2.2 Ve_against x22 x23 x24 x25 x26 x27 x28 x29 x30 x31 x32 x33 x34 x35 x36 x37 x38 x39 x40 x41 x42 x43 x44 x45 x46 x47 x48 x49 x50 x51 x52 x53 x54 x55 x56 x57 x58 Co_doubted x60 x61 x62 x63 x64 x65 x66 x67 ++ t)) (hq2 : ∀ E, o = .inr E → Q (.inr E) (wlX g ad x0 x1 x2 x3 Tap_tellerCount x5 x6 x7 x8 x9 x10 x11 x12 x13 x14 x15 x16 x17 Ve_judged Ve_liarSet Ve_setCount Ve_against x22 x23 x24 x25 x26 x27 x28 x29 x30 x31 x32 x33 x34 x35 x36 x37 x38 x39 x40 x41 x42 x43 x44 x45 x46 x47 x48 x49 x50 x51 x52 x53 x54 x55 x56 x57 x58 Co_doubted x60 x61 x62 x63 x64 x65 x66 x67 ++ t)) : R g mX9_isLiar 7 1 6 0 [(0, .ref (ad 0)), (1, .int p1)] [] (wlX g ad x0 x1 x2 x3 Tap_tellerCount x5 x6 x7 x8 x9 x10 x11 x12 x13 x14 x15 x16 x17 Ve_judged Ve_liarSet Ve_setCount Ve_against x22 x23 x24 x25 x26 x27 x28 x29 x30 x31 x32 x33 x34 x35 x36 x37 x38 x39 x40 x41 x42 x43 x44 x45 x46 x47 x48 x49 x50 x51 x52 x53 x54 x55 x56 x57 x58 Co_doubted x60 x61 x62 x63 x64 x65 x66 x67 ++ t) Q := by
  unfold f_Main_isLiar at h
  refine r_aload_n 0 dX9_isLiar_0 rfl ?_
  refine r_iload_n 1 dX9_isLiar_1 rfl ?_
  obtain ⟨r889, hc890, h⟩ := ob (fun z9 => z9) rfl h
  rcases r889 with q891 | E894
  · refine c_Xv (rest := []) 0 0 _ dX9_isLiar_2 kv_X9_156 (ct_Main_needTeller hc890) rfl rfl lX_0 rfl (Nat.le_of_ble_eq_true rfl) (by decide) (by decide) ?_
    try dsimp only [Sum.elim_inl, Sum.elim_inr] at h
    refine r_aload_n 0 dX9_isLiar_5 rfl ?_
    refine r_getf (v := .ref (ad 26)) _ dX9_isLiar_6 fl_X9_39 lX_0 rfl ?_
    refine r_aload_n 0 dX9_isLiar_9 rfl ?_
    refine r_getf (v := .ref (ad 71)) _ dX9_isLiar_10 fl_X9_48 lX_0 rfl ?_
    refine r_getf (v := .int Co_doubted) _ dX9_isLiar_13 fl_X9_162 lX_71 rfl ?_
    obtain ⟨r892, hc893, h⟩ := ob (fun z9 => z9) rfl h
    refine c_V (rest := []) 0 0 _ dX9_isLiar_16 kv_X9_179 (ct_Ve_liarSet hc893) rfl rfl lX_26 rfl (Nat.le_of_ble_eq_true rfl) (by decide) (by decide) ?_
    refine r_iload_n 1 dX9_isLiar_19 rfl ?_
    refine c_S (rest := []) 0 0 dX9_isLiar_20 ks_X9_165 (ct_Main_has rfl) rfl rfl (Nat.le_of_ble_eq_true rfl) (by decide) (by decide) ?_
    refine r_zret dX9_isLiar_23 rfl (zO_n (zb_Main_has _ _)) ?_
    have h := Option.some.inj (show some _ = some o from h)
    subst h
    exact hq1 _ rfl
  · refine c_Xt (rest := []) 0 0 _ dX9_isLiar_2 kv_X9_156 (ct_Main_needTeller hc890) rfl rfl lX_0 rfl (Nat.le_of_ble_eq_true rfl) (by decide) (by decide) ?_
    refine rx_out rfl ?_
    have h := Option.some.inj (show some _ = some o from h)
    subst h
    exact hq2 _ rfl
theorem ct_Main_isLiar {g : GG} {ad : Nat → Nat} {t : va_W} {x0 x1 x3 x5 x11 x12 x24 x25 x26 x27 x28 x29 x30 x31 x37 x39 x40 x41 x47 x48 x54 x56 x58 x60 x61 x63 x64 x65 x66 : Int32} {x2 x6 x7 x8 x9 x10 x13 x14 x15 x16 x17 x22 x23 x33 x34 x35 x42 x43 x44 x45 x46 x49 x50 x51 x52 x53 x62 x67 : Nat → Int32} {x32 : Int64} {x36 x38 x55 x57 : Nat → Int64} {N : Nat} {Tap_tellerCount : Int32} {Ve_judged : Int32} {Ve_liarSet : Int32} {Ve_setCount : Int32} {Ve_against : Nat → Int32} {Co_doubted : Int32} {p1 : Int32} {o : (Int32 × Int32 × Int32 × Int32) ⊕ String} (h : f_Main_isLiar N Tap_tellerCount Ve_judged Ve_liarSet Ve_setCount Ve_against Co_doubted p1 = some o) : Ct g mX9_isLiar 7 1 6 [.ref (ad 0), .int p1] (wlX g ad x0 x1 x2 x3 Tap_tellerCount x5 x6 x7 x8 x9 x10 x11 x12 x13 x14 x15 x16 x17 Ve_judged Ve_liarSet Ve_setCount Ve_against x22 x23 x24 x25 x26 x27 x28 x29 x30 x31 x32 x33 x34 x35 x36 x37 x38 x39 x40 x41 x42 x43 x44 x45 x46 x47 x48 x49 x50 x51 x52 x53 x54 x55 x56 x57 x58 Co_doubted x60 x61 x62 x63 x64 x65 x66 x67 ++ t) (Dt o (fun q => some (.int q.1)) (fun q => (wlX g ad x0 x1 x2 x3 Tap_tellerCount x5 x6 x7 x8 x9 x10 x11 x12 x13 x14 x15 x16 x17 q.2.1 q.2.2.1 q.2.2.2 Ve_against x22 x23 x24 x25 x26 x27 x28 x29 x30 x31 x32 x33 x34 x35 x36 x37 x38 x39 x40 x41 x42 x43 x44 x45 x46 x47 x48 x49 x50 x51 x52 x53 x54 x55 x56 x57 x58 Co_doubted x60 x61 x62 x63 x64 x65 x66 x67 ++ t)) (wlX g ad x0 x1 x2 x3 Tap_tellerCount x5 x6 x7 x8 x9 x10 x11 x12 x13 x14 x15 x16 x17 Ve_judged Ve_liarSet Ve_setCount Ve_against x22 x23 x24 x25 x26 x27 x28 x29 x30 x31 x32 x33 x34 x35 x36 x37 x38 x39 x40 x41 x42 x43 x44 x45 x46 x47 x48 x49 x50 x51 x52 x53 x54 x55 x56 x57 x58 Co_doubted x60 x61 x62 x63 x64 x65 x66 x67 ++ t)) := Ct.ofR (by decide +kernel) rfl (Nat.le_of_ble_eq_true rfl) (rt_Main_isLiar h (fun q e => by subst e; exact ⟨rfl, rfl⟩) (fun E e => by subst e; exact ⟨rfl, rfl⟩))
set_option maxRecDepth 20000 in
set_option maxHeartbeats 4000000 in
theorem rt_Main_needEvent {g : GG} {ad : Nat → Nat} {t : va_W} {x0 x1 x4 x5 x11 x12 x18 x19 x20 x24 x25 x26 x27 x28 x29 x30 x31 x37 x39 x40 x41 x47 x48 x54 x56 x58 x59 x60 x61 x63 x64 x65 x66 : Int32} {x2 x6 x7 x8 x9 x10 x13 x14 x15 x16 x17 x21 x22 x23 x33 x34 x35 x42 x43 x44 x45 x46 x49 x50 x51 x52 x53 x62 x67 : Nat → Int32} {x32 : Int64} {x36 x38 x55 x57 : Nat → Int64} {Tap_eventCount : Int32} {p1 : Int32} {o : (Unit) ⊕ String} {Q : Rs → va_W → Prop} (h : f_Main_needEvent Tap_eventCount p1 = some o) (hq1 : ∀ q, o = .inl q → Q (.inl (none)) (wlX g ad x0 x1 x2 Tap_eventCount x4 x5 x6 x7 x8 x9 x10 x11 x12 x13 x14 x15 x16 x17 x18 x19 x20 x21 x22 x23 x24 x25 x26 x27 x28 x29 x30 x31 x32 x33 x34 x35 x36 x37 x38 x39 x40 x41 x42 x43 x44 x45 x46 x47 x48 x49 x50 x51 x52 x53 x54 x55 x56 x57 x58 x59 x60 x61 x62 x63 x64 x65 x66 x67 ++ t)) (hq2 : ∀ E, o = .inr E → Q (.inr E) (wlX g ad x0 x1 x2 Tap_eventCount x4 x5 x6 x7 x8 x9 x10 x11 x12 x13 x14 x15 x16 x17 x18 x19 x20 x21 x22 x23 x24 x25 x26 x27 x28 x29 x30 x31 x32 x33 x34 x35 x36 x37 x38 x39 x40 x41 x42 x43 x44 x45 x46 x47 x48 x49 x50 x51 x52 x53 x54 x55 x56 x57 x58 x59 x60 x61 x62 x63 x64 x65 x66 x67 ++ t)) : R g mX9_needEvent 6 1 6 0 [(0, .ref (ad 0)), (1, .int p1)] [] (wlX g ad x0 x1 x2 Tap_eventCount x4 x5 x6 x7 x8 x9 x10 x11 x12 x13 x14 x15 x16 x17 x18 x19 x20 x21 x22 x23 x24 x25 x26 x27 x28 x29 x30 x31 x32 x33 x34 x35 x36 x37 x38 x39 x40 x41 x42 x43 x44 x45 x46 x47 x48 x49 x50 x51 x52 x53 x54 x55 x56 x57 x58 x59 x60 x61 x62 x63 x64 x65 x66 x67 ++ t) Q := by
  unfold f_Main_needEvent at h
  refine r_iload_n 1 dX9_needEvent_0 rfl ?_
  refine r_if_lt (tgt := 15) dX9_needEvent_1 (by decide) (fun hc895 => ?_) (fun hc895 => ?_)
  · have h := ip (fun z9 => z9) hc895 h
    refine r_throw (x := 0) (y := 0) dX9_needEvent_15 dX9_needEvent_18 dX9_needEvent_19 dX9_needEvent_21 dX9_needEvent_24 kx_X9_149_218_153 rfl (Nat.le_of_ble_eq_true rfl) (by decide) ?_
    have h := Option.some.inj (show some _ = some o from h)
    subst h
    exact hq2 _ rfl
  · have h := iq (fun z9 => z9) hc895 h
    refine r_iload_n 1 dX9_needEvent_4 rfl ?_
    refine r_aload_n 0 dX9_needEvent_5 rfl ?_
    refine r_getf (v := .ref (ad 3)) _ dX9_needEvent_6 fl_X9_35 lX_0 rfl ?_
    refine r_getf (v := .int Tap_eventCount) _ dX9_needEvent_9 fl_X9_98 lX_3 rfl ?_
    refine r_icmp_lt (tgt := 25) dX9_needEvent_12 (by decide) (fun hc896 => ?_) (fun hc896 => ?_)
    · have h := ip (fun z9 => z9) hc896 h
      refine r_vret dX9_needEvent_25 rfl ?_
      have h := Option.some.inj (show some _ = some o from h)
      subst h
      exact hq1 _ rfl
    · have h := iq (fun z9 => z9) hc896 h
      refine r_throw (x := 0) (y := 0) dX9_needEvent_15 dX9_needEvent_18 dX9_needEvent_19 dX9_needEvent_21 dX9_needEvent_24 kx_X9_149_218_153 rfl (Nat.le_of_ble_eq_true rfl) (by decide) ?_
      have h := Option.some.inj (show some _ = some o from h)
      subst h
      exact hq2 _ rfl
theorem ct_Main_needEvent {g : GG} {ad : Nat → Nat} {t : va_W} {x0 x1 x4 x5 x11 x12 x18 x19 x20 x24 x25 x26 x27 x28 x29 x30 x31 x37 x39 x40 x41 x47 x48 x54 x56 x58 x59 x60 x61 x63 x64 x65 x66 : Int32} {x2 x6 x7 x8 x9 x10 x13 x14 x15 x16 x17 x21 x22 x23 x33 x34 x35 x42 x43 x44 x45 x46 x49 x50 x51 x52 x53 x62 x67 : Nat → Int32} {x32 : Int64} {x36 x38 x55 x57 : Nat → Int64} {Tap_eventCount : Int32} {p1 : Int32} {o : (Unit) ⊕ String} (h : f_Main_needEvent Tap_eventCount p1 = some o) : Ct g mX9_needEvent 6 1 6 [.ref (ad 0), .int p1] (wlX g ad x0 x1 x2 Tap_eventCount x4 x5 x6 x7 x8 x9 x10 x11 x12 x13 x14 x15 x16 x17 x18 x19 x20 x21 x22 x23 x24 x25 x26 x27 x28 x29 x30 x31 x32 x33 x34 x35 x36 x37 x38 x39 x40 x41 x42 x43 x44 x45 x46 x47 x48 x49 x50 x51 x52 x53 x54 x55 x56 x57 x58 x59 x60 x61 x62 x63 x64 x65 x66 x67 ++ t) (Dt o (fun q => none) (fun q => (wlX g ad x0 x1 x2 Tap_eventCount x4 x5 x6 x7 x8 x9 x10 x11 x12 x13 x14 x15 x16 x17 x18 x19 x20 x21 x22 x23 x24 x25 x26 x27 x28 x29 x30 x31 x32 x33 x34 x35 x36 x37 x38 x39 x40 x41 x42 x43 x44 x45 x46 x47 x48 x49 x50 x51 x52 x53 x54 x55 x56 x57 x58 x59 x60 x61 x62 x63 x64 x65 x66 x67 ++ t)) (wlX g ad x0 x1 x2 Tap_eventCount x4 x5 x6 x7 x8 x9 x10 x11 x12 x13 x14 x15 x16 x17 x18 x19 x20 x21 x22 x23 x24 x25 x26 x27 x28 x29 x30 x31 x32 x33 x34 x35 x36 x37 x38 x39 x40 x41 x42 x43 x44 x45 x46 x47 x48 x49 x50 x51 x52 x53 x54 x55 x56 x57 x58 x59 x60 x61 x62 x63 x64 x65 x66 x67 ++ t)) := Ct.ofR (by decide +kernel) rfl (Nat.le_of_ble_eq_true rfl) (rt_Main_needEvent h (fun q e => by subst e; exact ⟨rfl, rfl⟩) (fun E e => by subst e; exact ⟨rfl, rfl⟩))
set_option maxRecDepth 20000 in
set_option maxHeartbeats 4000000 in
theorem rt_Ve_isHeard {g : GG} {ad : Nat → Nat} {t : va_W} {x0 x1 x3 x4 x5 x11 x12 x18 x19 x20 x24 x25 x26 x27 x28 x29 x30 x31 x37 x39 x40 x41 x47 x48 x54 x56 x58 x59 x60 x61 x63 x64 x65 x66 : Int32} {x2 x9 x10 x13 x14 x15 x16 x17 x21 x22 x23 x33 x34 x35 x42 x43 x44 x45 x46 x49 x50 x51 x52 x53 x62 x67 : Nat → Int32} {x32 : Int64} {x36 x38 x55 x57 : Nat → Int64} {Cl_tellers : Nat → Int32} {Cl_kinds : Nat → Int32} {Cl_events : Nat → Int32} {p1 : Int32} {p2 : Int32} {p3 : Int32} {o : Int32} {Q : Rs → va_W → Prop} (h : f_Ve_isHeard Cl_tellers Cl_kinds Cl_events p1 p2 p3 = o) (hq : Q (.inl (some (.int o))) (wlX g ad x0 x1 x2 x3 x4 x5 Cl_tellers Cl_kinds Cl_events x9 x10 x11 x12 x13 x14 x15 x16 x17 x18 x19 x20 x21 x22 x23 x24 x25 x26 x27 x28 x29 x30 x31 x32 x33 x34 x35 x36 x37 x38 x39 x40 x41 x42 x43 x44 x45 x46 x47 x48 x49 x50 x51 x52 x53 x54 x55 x56 x57 x58 x59 x60 x61 x62 x63 x64 x65 x66 x67 ++ t)) : R g mX8_isHeard 2 0 0 0 [(0, .ref (ad 26)), (1, .int p1), (2, .int p2), (3, .int p3)] [] (wlX g ad x0 x1 x2 x3 x4 x5 Cl_tellers Cl_kinds Cl_events x9 x10 x11 x12 x13 x14 x15 x16 x17 x18 x19 x20 x21 x22 x23 x24 x25 x26 x27 x28 x29 x30 x31 x32 x33 x34 x35 x36 x37 x38 x39 x40 x41 x42 x43 x44 x45 x46 x47 x48 x49 x50 x51 x52 x53 x54 x55 x56 x57 x58 x59 x60 x61 x62 x63 x64 x65 x66 x67 ++ t) Q := by
  unfold f_Ve_isHeard at h
  refine r_aload_n 0 dX8_isHeard_0 rfl ?_
  refine r_getf (v := .ref (ad 3)) _ dX8_isHeard_1 fl_X8_9 lX_26 rfl ?_
  refine r_getf (v := .ref (ad 4)) _ dX8_isHeard_4 fl_X8_38 lX_3 rfl ?_
  refine r_getf (v := .ref (ad 7)) _ dX8_isHeard_7 fl_X8_120 lX_4 rfl ?_
  refine r_iload_n 1 dX8_isHeard_10 rfl ?_
  refine c_V (rest := []) 0 0 _ dX8_isHeard_11 kv_X8_56 (ct_Row_get lX_7 lX_8 (Nat.le_of_ble_eq_true rfl)) rfl rfl lX_7 rfl (Nat.le_of_ble_eq_true rfl) (by decide) (by decide) ?_
  refine r_if_ne (tgt := 60) dX8_isHeard_14 (by decide) (fun hc897 => ?_) (fun hc897 => ?_)
  · have h := iq (fun z9 => z9) hc897 h
    refine r_iconst (v := (0 : Int32)) dX8_isHeard_60 (by decide) ?_
    refine r_zret dX8_isHeard_61 rfl (by decide) ?_
    have h : _ = o := h
    subst h
    exact hq
  · have h := ip (fun z9 => z9) hc897 h
    refine r_aload_n 0 dX8_isHeard_17 rfl ?_
    refine r_getf (v := .ref (ad 3)) _ dX8_isHeard_18 fl_X8_9 lX_26 rfl ?_
    refine r_getf (v := .ref (ad 4)) _ dX8_isHeard_21 fl_X8_38 lX_3 rfl ?_
    refine r_getf (v := .ref (ad 9)) _ dX8_isHeard_24 fl_X8_123 lX_4 rfl ?_
    refine r_iload_n 1 dX8_isHeard_27 rfl ?_
    refine c_V (rest := []) 0 0 _ dX8_isHeard_28 kv_X8_56 (ct_Row_get lX_9 lX_10 (Nat.le_of_ble_eq_true rfl)) rfl rfl lX_9 rfl (Nat.le_of_ble_eq_true rfl) (by decide) (by decide) ?_
    refine r_iload_n 2 dX8_isHeard_31 rfl ?_
    refine r_icmp_ne (tgt := 60) dX8_isHeard_32 (by decide) (fun hc898 => ?_) (fun hc898 => ?_)
    · have h := iq (fun z9 => z9) hc898 h
      refine r_iconst (v := (0 : Int32)) dX8_isHeard_60 (by decide) ?_
      refine r_zret dX8_isHeard_61 rfl (by decide) ?_
      have h : _ = o := h
      subst h
      exact hq
    · have h := ip (fun z9 => z9) hc898 h
      refine r_iload_n 3 dX8_isHeard_35 rfl ?_
      refine r_aload_n 0 dX8_isHeard_36 rfl ?_
      refine r_getf (v := .ref (ad 3)) _ dX8_isHeard_37 fl_X8_9 lX_26 rfl ?_
      refine r_getf (v := .ref (ad 4)) _ dX8_isHeard_40 fl_X8_38 lX_3 rfl ?_
      refine r_getf (v := .ref (ad 5)) _ dX8_isHeard_43 fl_X8_53 lX_4 rfl ?_
      refine r_iload_n 1 dX8_isHeard_46 rfl ?_
      refine c_V (rest := [.int p3]) 0 0 _ dX8_isHeard_47 kv_X8_56 (ct_Row_get lX_5 lX_6 (Nat.le_of_ble_eq_true rfl)) rfl rfl lX_5 rfl (Nat.le_of_ble_eq_true rfl) (by decide) (by decide) ?_
      refine c_SN (rest := []) 0 0 dX8_isHeard_50 kq_X8_66 (ct_Main_has rfl) rfl rfl (Nat.le_of_ble_eq_true rfl) (by decide) (by decide) ?_
      refine r_if_ne (tgt := 60) dX8_isHeard_53 (by decide) (fun hc899 => ?_) (fun hc899 => ?_)
      · have h := iq (fun z9 => z9) hc899 h
        refine r_iconst (v := (0 : Int32)) dX8_isHeard_60 (by decide) ?_
        refine r_zret dX8_isHeard_61 rfl (by decide) ?_
        have h : _ = o := h
        subst h
        exact hq
      · have h := ip (fun z9 => z9) hc899 h
        refine r_iconst (v := (1 : Int32)) dX8_isHeard_56 (by decide) ?_
        refine r_goto (tgt := 61) dX8_isHeard_57 (by decide) ?_
        refine r_zret dX8_isHeard_61 rfl (by decide) ?_
        have h : _ = o := h
        subst h
        exact hq
theorem ct_Ve_isHeard {g : GG} {ad : Nat → Nat} {t : va_W} {x0 x1 x3 x4 x5 x11 x12 x18 x19 x20 x24 x25 x26 x27 x28 x29 x30 x31 x37 x39 x40 x41 x47 x48 x54 x56 x58 x59 x60 x61 x63 x64 x65 x66 : Int32} {x2 x9 x10 x13 x14 x15 x16 x17 x21 x22 x23 x33 x34 x35 x42 x43 x44 x45 x46 x49 x50 x51 x52 x53 x62 x67 : Nat → Int32} {x32 : Int64} {x36 x38 x55 x57 : Nat → Int64} {Cl_tellers : Nat → Int32} {Cl_kinds : Nat → Int32} {Cl_events : Nat → Int32} {p1 : Int32} {p2 : Int32} {p3 : Int32} {o : Int32} (h : f_Ve_isHeard Cl_tellers Cl_kinds Cl_events p1 p2 p3 = o) : Ct g mX8_isHeard 2 0 0 [.ref (ad 26), .int p1, .int p2, .int p3] (wlX g ad x0 x1 x2 x3 x4 x5 Cl_tellers Cl_kinds Cl_events x9 x10 x11 x12 x13 x14 x15 x16 x17 x18 x19 x20 x21 x22 x23 x24 x25 x26 x27 x28 x29 x30 x31 x32 x33 x34 x35 x36 x37 x38 x39 x40 x41 x42 x43 x44 x45 x46 x47 x48 x49 x50 x51 x52 x53 x54 x55 x56 x57 x58 x59 x60 x61 x62 x63 x64 x65 x66 x67 ++ t) (Dv (some (.int o)) (wlX g ad x0 x1 x2 x3 x4 x5 Cl_tellers Cl_kinds Cl_events x9 x10 x11 x12 x13 x14 x15 x16 x17 x18 x19 x20 x21 x22 x23 x24 x25 x26 x27 x28 x29 x30 x31 x32 x33 x34 x35 x36 x37 x38 x39 x40 x41 x42 x43 x44 x45 x46 x47 x48 x49 x50 x51 x52 x53 x54 x55 x56 x57 x58 x59 x60 x61 x62 x63 x64 x65 x66 x67 ++ t)) := Ct.ofR (by decide +kernel) rfl (Nat.le_of_ble_eq_true rfl) (rt_Ve_isHeard h ⟨rfl, rfl⟩)
set_option maxRecDepth 20000 in
set_option maxHeartbeats 4000000 in
theorem rt_Ve_lastHour {g : GG} {ad : Nat → Nat} {t : va_W} {x0 x1 x3 x4 x11 x12 x18 x19 x20 x24 x25 x26 x27 x28 x29 x30 x31 x37 x39 x40 x41 x47 x48 x54 x56 x58 x59 x60 x61 x63 x64 x65 x66 : Int32} {x2 x9 x13 x14 x15 x16 x17 x21 x22 x23 x33 x34 x35 x42 x43 x44 x45 x46 x49 x50 x51 x52 x53 x62 x67 : Nat → Int32} {x32 : Int64} {x36 x38 x55 x57 : Nat → Int64} {N : Nat} {Cl_count : Int32} {Cl_tellers : Nat → Int32} {Cl_kinds : Nat → Int32} {Cl_events : Nat → Int32} {Cl_lasts : Nat → Int32} {p1 : Int32} {p2 : Int32} {o : Int32} {Q : Rs → va_W → Prop} (h : f_Ve_lastHour N Cl_count Cl_tellers Cl_kinds Cl_events Cl_lasts p1 p2 = some o) (hq : Q (.inl (some (.int o))) (wlX g ad x0 x1 x2 x3 x4 Cl_count Cl_tellers Cl_kinds Cl_events x9 Cl_lasts x11 x12 x13 x14 x15 x16 x17 x18 x19 x20 x21 x22 x23 x24 x25 x26 x27 x28 x29 x30 x31 x32 x33 x34 x35 x36 x37 x38 x39 x40 x41 x42 x43 x44 x45 x46 x47 x48 x49 x50 x51 x52 x53 x54 x55 x56 x57 x58 x59 x60 x61 x62 x63 x64 x65 x66 x67 ++ t)) : R g mX8_lastHour 3 0 0 0 [(0, .ref (ad 26)), (1, .int p1), (2, .int p2)] [] (wlX g ad x0 x1 x2 x3 x4 Cl_count Cl_tellers Cl_kinds Cl_events x9 Cl_lasts x11 x12 x13 x14 x15 x16 x17 x18 x19 x20 x21 x22 x23 x24 x25 x26 x27 x28 x29 x30 x31 x32 x33 x34 x35 x36 x37 x38 x39 x40 x41 x42 x43 x44 x45 x46 x47 x48 x49 x50 x51 x52 x53 x54 x55 x56 x57 x58 x59 x60 x61 x62 x63 x64 x65 x66 x67 ++ t) Q := by
  unfold f_Ve_lastHour at h
  refine r_bipush (v := (99 : Int32)) dX8_lastHour_0 (by decide) ?_
  refine r_istore_n [(3, .int (99 : Int32)), (0, .ref (ad 26)), (1, .int p1), (2, .int p2)] dX8_lastHour_2 (by decide) rfl ?_
  refine r_iconst (v := (0 : Int32)) dX8_lastHour_3 (by decide) ?_
  refine r_istore [(4, .int (0 : Int32)), (3, .int (99 : Int32)), (0, .ref (ad 26)), (1, .int p1), (2, .int p2)] dX8_lastHour_4 (by decide) rfl ?_
  refine r_ls [2, 3, 4, 1, 0] (ls2 := [(0, .ref (ad 26)), (1, .int p1), (2, .int p2), (3, .int (99 : Int32)), (4, .int (0 : Int32))]) rfl ?_
  have L1 : ∀ (n1 : Nat) (l3_1 : Int32) (l4_1 : Int32), (fun z9 => z9) (lpS (f_Ve_lastHour_L6 Cl_count Cl_tellers Cl_kinds Cl_events Cl_lasts p1 p2) none n1 (l3_1, l4_1)) = some o → R g mX8_lastHour 3 0 0 6 [(0, .ref (ad 26)), (1, .int p1), (2, .int p2), (3, .int l3_1), (4, .int l4_1)] [] (wlX g ad x0 x1 x2 x3 x4 Cl_count Cl_tellers Cl_kinds Cl_events x9 Cl_lasts x11 x12 x13 x14 x15 x16 x17 x18 x19 x20 x21 x22 x23 x24 x25 x26 x27 x28 x29 x30 x31 x32 x33 x34 x35 x36 x37 x38 x39 x40 x41 x42 x43 x44 x45 x46 x47 x48 x49 x50 x51 x52 x53 x54 x55 x56 x57 x58 x59 x60 x61 x62 x63 x64 x65 x66 x67 ++ t) Q := by
    intro n1
    induction n1 with
    | zero => intro l3_1 l4_1 h; exact nomatch (show (none : Option _) = some _ from h)
    | succ n1 ih1 =>
      intro l3_1 l4_1 h
      have h : (fun z9 => (lC (f_Ve_lastHour_L6 Cl_count Cl_tellers Cl_kinds Cl_events Cl_lasts p1 p2) none n1 z9)) (f_Ve_lastHour_L6 Cl_count Cl_tellers Cl_kinds Cl_events Cl_lasts p1 p2 (l3_1, l4_1)) = some o := h
      unfold f_Ve_lastHour_L6 at h
      try dsimp only at h
      refine r_iload 4 dX8_lastHour_6 rfl ?_
      refine r_aload_n 0 dX8_lastHour_8 rfl ?_
      refine r_getf (v := .ref (ad 3)) _ dX8_lastHour_9 fl_X8_9 lX_26 rfl ?_
      refine r_getf (v := .ref (ad 4)) _ dX8_lastHour_12 fl_X8_38 lX_3 rfl ?_
      refine r_getf (v := .int Cl_count) _ dX8_lastHour_15 fl_X8_44 lX_4 rfl ?_
      refine r_icmp_ge (tgt := 58) dX8_lastHour_18 (by decide) (fun hc900 => ?_) (fun hc900 => ?_)
      · have h := ip (fun z9 => (lC (f_Ve_lastHour_L6 Cl_count Cl_tellers Cl_kinds Cl_events Cl_lasts p1 p2) none n1 z9)) hc900 h
        refine r_iload_n 3 dX8_lastHour_58 rfl ?_
        refine r_iret dX8_lastHour_59 rfl ?_
        have h := Option.some.inj (show some _ = some o from h)
        subst h
        exact hq
      · have h := iq (fun z9 => (lC (f_Ve_lastHour_L6 Cl_count Cl_tellers Cl_kinds Cl_events Cl_lasts p1 p2) none n1 z9)) hc900 h
        refine r_aload_n 0 dX8_lastHour_21 rfl ?_
        refine r_iload 4 dX8_lastHour_22 rfl ?_
        refine r_iload_n 1 dX8_lastHour_24 rfl ?_
        refine r_iload_n 2 dX8_lastHour_25 rfl ?_
        refine c_V (rest := []) 0 0 _ dX8_lastHour_26 kv_X8_95 (ct_Ve_isHeard rfl) rfl rfl lX_26 rfl (Nat.le_of_ble_eq_true rfl) (by decide) (by decide) ?_
        refine r_if_eq (tgt := 52) dX8_lastHour_29 (by decide) (fun hc901 => ?_) (fun hc901 => ?_)
        · have h := ip (fun z9 => (lC (f_Ve_lastHour_L6 Cl_count Cl_tellers Cl_kinds Cl_events Cl_lasts p1 p2) none n1 z9)) hc901 h
          refine r_iinc (v2 := (l4_1 + (1 : Int32))) 4 [(4, .int (l4_1 + (1 : Int32))), (0, .ref (ad 26)), (1, .int p1), (2, .int p2), (3, .int l3_1)] dX8_lastHour_52 rfl rfl (by decide) rfl ?_
          refine r_goto (tgt := 6) dX8_lastHour_55 (by decide) ?_
          refine r_ls [1, 2, 3, 4, 0] (ls2 := [(0, .ref (ad 26)), (1, .int p1), (2, .int p2), (3, .int l3_1), (4, .int (l4_1 + (1 : Int32)))]) rfl ?_
          exact ih1 l3_1 (l4_1 + (1 : Int32)) h
        · have h := iq (fun z9 => (lC (f_Ve_lastHour_L6 Cl_count Cl_tellers Cl_kinds Cl_events Cl_lasts p1 p2) none n1 z9)) hc901 h
          refine r_iload_n 3 dX8_lastHour_32 rfl ?_
          refine r_aload_n 0 dX8_lastHour_33 rfl ?_
          refine r_getf (v := .ref (ad 3)) _ dX8_lastHour_34 fl_X8_9 lX_26 rfl ?_
          refine r_getf (v := .ref (ad 4)) _ dX8_lastHour_37 fl_X8_38 lX_3 rfl ?_
          refine r_getf (v := .ref (ad 13)) _ dX8_lastHour_40 fl_X8_108 lX_4 rfl ?_
          refine r_iload 4 dX8_lastHour_43 rfl ?_
          refine c_V (rest := [.int l3_1]) 0 0 _ dX8_lastHour_45 kv_X8_56 (ct_Row_get lX_13 lX_14 (Nat.le_of_ble_eq_true rfl)) rfl rfl lX_13 rfl (Nat.le_of_ble_eq_true rfl) (by decide) (by decide) ?_
          refine c_mmin (rest := []) dX8_lastHour_48 ks_X8_111 (Nat.le_of_ble_eq_true rfl) (by decide) ?_
          refine r_istore_n [(3, .int (f_J9_min_7cf53 l3_1 (rget 40 Cl_lasts l4_1))), (0, .ref (ad 26)), (1, .int p1), (2, .int p2), (4, .int l4_1)] dX8_lastHour_51 (by decide) rfl ?_
          refine r_iinc (v2 := (l4_1 + (1 : Int32))) 4 [(4, .int (l4_1 + (1 : Int32))), (3, .int (f_J9_min_7cf53 l3_1 (rget 40 Cl_lasts l4_1))), (0, .ref (ad 26)), (1, .int p1), (2, .int p2)] dX8_lastHour_52 rfl rfl (by decide) rfl ?_
          refine r_goto (tgt := 6) dX8_lastHour_55 (by decide) ?_
          refine r_ls [2, 3, 4, 1, 0] (ls2 := [(0, .ref (ad 26)), (1, .int p1), (2, .int p2), (3, .int (f_J9_min_7cf53 l3_1 (rget 40 Cl_lasts l4_1))), (4, .int (l4_1 + (1 : Int32)))]) rfl ?_
          exact ih1 (f_J9_min_7cf53 l3_1 (rget 40 Cl_lasts l4_1)) (l4_1 + (1 : Int32)) h
  exact L1 _ (99 : Int32) (0 : Int32) h
theorem ct_Ve_lastHour {g : GG} {ad : Nat → Nat} {t : va_W} {x0 x1 x3 x4 x11 x12 x18 x19 x20 x24 x25 x26 x27 x28 x29 x30 x31 x37 x39 x40 x41 x47 x48 x54 x56 x58 x59 x60 x61 x63 x64 x65 x66 : Int32} {x2 x9 x13 x14 x15 x16 x17 x21 x22 x23 x33 x34 x35 x42 x43 x44 x45 x46 x49 x50 x51 x52 x53 x62 x67 : Nat → Int32} {x32 : Int64} {x36 x38 x55 x57 : Nat → Int64} {N : Nat} {Cl_count : Int32} {Cl_tellers : Nat → Int32} {Cl_kinds : Nat → Int32} {Cl_events : Nat → Int32} {Cl_lasts : Nat → Int32} {p1 : Int32} {p2 : Int32} {o : Int32} (h : f_Ve_lastHour N Cl_count Cl_tellers Cl_kinds Cl_events Cl_lasts p1 p2 = some o) : Ct g mX8_lastHour 3 0 0 [.ref (ad 26), .int p1, .int p2] (wlX g ad x0 x1 x2 x3 x4 Cl_count Cl_tellers Cl_kinds Cl_events x9 Cl_lasts x11 x12 x13 x14 x15 x16 x17 x18 x19 x20 x21 x22 x23 x24 x25 x26 x27 x28 x29 x30 x31 x32 x33 x34 x35 x36 x37 x38 x39 x40 x41 x42 x43 x44 x45 x46 x47 x48 x49 x50 x51 x52 x53 x54 x55 x56 x57 x58 x59 x60 x61 x62 x63 x64 x65 x66 x67 ++ t) (Dv (some (.int o)) (wlX g ad x0 x1 x2 x3 x4 Cl_count Cl_tellers Cl_kinds Cl_events x9 Cl_lasts x11 x12 x13 x14 x15 x16 x17 x18 x19 x20 x21 x22 x23 x24 x25 x26 x27 x28 x29 x30 x31 x32 x33 x34 x35 x36 x37 x38 x39 x40 x41 x42 x43 x44 x45 x46 x47 x48 x49 x50 x51 x52 x53 x54 x55 x56 x57 x58 x59 x60 x61 x62 x63 x64 x65 x66 x67 ++ t)) := Ct.ofR (by decide +kernel) rfl (Nat.le_of_ble_eq_true rfl) (rt_Ve_lastHour h ⟨rfl, rfl⟩)
set_option maxRecDepth 20000 in
set_option maxHeartbeats 4000000 in
theorem rt_Ve_firstHour {g : GG} {ad : Nat → Nat} {t : va_W} {x0 x1 x3 x4 x11 x12 x18 x19 x20 x24 x25 x26 x27 x28 x29 x30 x31 x37 x39 x40 x41 x47 x48 x54 x56 x58 x59 x60 x61 x63 x64 x65 x66 : Int32} {x2 x10 x13 x14 x15 x16 x17 x21 x22 x23 x33 x34 x35 x42 x43 x44 x45 x46 x49 x50 x51 x52 x53 x62 x67 : Nat → Int32} {x32 : Int64} {x36 x38 x55 x57 : Nat → Int64} {N : Nat} {Cl_count : Int32} {Cl_tellers : Nat → Int32} {Cl_kinds : Nat → Int32} {Cl_events : Nat → Int32} {Cl_firsts : Nat → Int32} {p1 : Int32} {p2 : Int32} {o : Int32} {Q : Rs → va_W → Prop} (h : f_Ve_firstHour N Cl_count Cl_tellers Cl_kinds Cl_events Cl_firsts p1 p2 = some o) (hq : Q (.inl (some (.int o))) (wlX g ad x0 x1 x2 x3 x4 Cl_count Cl_tellers Cl_kinds Cl_events Cl_firsts x10 x11 x12 x13 x14 x15 x16 x17 x18 x19 x20 x21 x22 x23 x24 x25 x26 x27 x28 x29 x30 x31 x32 x33 x34 x35 x36 x37 x38 x39 x40 x41 x42 x43 x44 x45 x46 x47 x48 x49 x50 x51 x52 x53 x54 x55 x56 x57 x58 x59 x60 x61 x62 x63 x64 x65 x66 x67 ++ t)) : R g mX8_firstHour 3 0 0 0 [(0, .ref (ad 26)), (1, .int p1), (2, .int p2)] [] (wlX g ad x0 x1 x2 x3 x4 Cl_count Cl_tellers Cl_kinds Cl_events Cl_firsts x10 x11 x12 x13 x14 x15 x16 x17 x18 x19 x20 x21 x22 x23 x24 x25 x26 x27 x28 x29 x30 x31 x32 x33 x34 x35 x36 x37 x38 x39 x40 x41 x42 x43 x44 x45 x46 x47 x48 x49 x50 x51 x52 x53 x54 x55 x56 x57 x58 x59 x60 x61 x62 x63 x64 x65 x66 x67 ++ t) Q := by
  unfold f_Ve_firstHour at h
  refine r_iconst (v := (0 : Int32)) dX8_firstHour_0 (by decide) ?_
  refine r_istore_n [(3, .int (0 : Int32)), (0, .ref (ad 26)), (1, .int p1), (2, .int p2)] dX8_firstHour_1 (by decide) rfl ?_
  refine r_iconst (v := (0 : Int32)) dX8_firstHour_2 (by decide) ?_
  refine r_istore [(4, .int (0 : Int32)), (3, .int (0 : Int32)), (0, .ref (ad 26)), (1, .int p1), (2, .int p2)] dX8_firstHour_3 (by decide) rfl ?_
  refine r_ls [2, 3, 4, 1, 0] (ls2 := [(0, .ref (ad 26)), (1, .int p1), (2, .int p2), (3, .int (0 : Int32)), (4, .int (0 : Int32))]) rfl ?_
  have L1 : ∀ (n1 : Nat) (l3_1 : Int32) (l4_1 : Int32), (fun z9 => z9) (lpS (f_Ve_firstHour_L5 Cl_count Cl_tellers Cl_kinds Cl_events Cl_firsts p1 p2) none n1 (l3_1, l4_1)) = some o → R g mX8_firstHour 3 0 0 5 [(0, .ref (ad 26)), (1, .int p1), (2, .int p2), (3, .int l3_1), (4, .int l4_1)] [] (wlX g ad x0 x1 x2 x3 x4 Cl_count Cl_tellers Cl_kinds Cl_events Cl_firsts x10 x11 x12 x13 x14 x15 x16 x17 x18 x19 x20 x21 x22 x23 x24 x25 x26 x27 x28 x29 x30 x31 x32 x33 x34 x35 x36 x37 x38 x39 x40 x41 x42 x43 x44 x45 x46 x47 x48 x49 x50 x51 x52 x53 x54 x55 x56 x57 x58 x59 x60 x61 x62 x63 x64 x65 x66 x67 ++ t) Q := by
    intro n1
    induction n1 with
    | zero => intro l3_1 l4_1 h; exact nomatch (show (none : Option _) = some _ from h)
    | succ n1 ih1 =>
      intro l3_1 l4_1 h
      have h : (fun z9 => (lC (f_Ve_firstHour_L5 Cl_count Cl_tellers Cl_kinds Cl_events Cl_firsts p1 p2) none n1 z9)) (f_Ve_firstHour_L5 Cl_count Cl_tellers Cl_kinds Cl_events Cl_firsts p1 p2 (l3_1, l4_1)) = some o := h
      unfold f_Ve_firstHour_L5 at h
      try dsimp only at h
      refine r_iload 4 dX8_firstHour_5 rfl ?_
      refine r_aload_n 0 dX8_firstHour_7 rfl ?_
      refine r_getf (v := .ref (ad 3)) _ dX8_firstHour_8 fl_X8_9 lX_26 rfl ?_
      refine r_getf (v := .ref (ad 4)) _ dX8_firstHour_11 fl_X8_38 lX_3 rfl ?_
      refine r_getf (v := .int Cl_count) _ dX8_firstHour_14 fl_X8_44 lX_4 rfl ?_
      refine r_icmp_ge (tgt := 57) dX8_firstHour_17 (by decide) (fun hc902 => ?_) (fun hc902 => ?_)
      · have h := ip (fun z9 => (lC (f_Ve_firstHour_L5 Cl_count Cl_tellers Cl_kinds Cl_events Cl_firsts p1 p2) none n1 z9)) hc902 h
        refine r_iload_n 3 dX8_firstHour_57 rfl ?_
        refine r_iret dX8_firstHour_58 rfl ?_
        have h := Option.some.inj (show some _ = some o from h)
        subst h
        exact hq
      · have h := iq (fun z9 => (lC (f_Ve_firstHour_L5 Cl_count Cl_tellers Cl_kinds Cl_events Cl_firsts p1 p2) none n1 z9)) hc902 h
        refine r_aload_n 0 dX8_firstHour_20 rfl ?_
        refine r_iload 4 dX8_firstHour_21 rfl ?_
        refine r_iload_n 1 dX8_firstHour_23 rfl ?_
        refine r_iload_n 2 dX8_firstHour_24 rfl ?_
        refine c_V (rest := []) 0 0 _ dX8_firstHour_25 kv_X8_95 (ct_Ve_isHeard rfl) rfl rfl lX_26 rfl (Nat.le_of_ble_eq_true rfl) (by decide) (by decide) ?_
        refine r_if_eq (tgt := 51) dX8_firstHour_28 (by decide) (fun hc903 => ?_) (fun hc903 => ?_)
        · have h := ip (fun z9 => (lC (f_Ve_firstHour_L5 Cl_count Cl_tellers Cl_kinds Cl_events Cl_firsts p1 p2) none n1 z9)) hc903 h
          refine r_iinc (v2 := (l4_1 + (1 : Int32))) 4 [(4, .int (l4_1 + (1 : Int32))), (0, .ref (ad 26)), (1, .int p1), (2, .int p2), (3, .int l3_1)] dX8_firstHour_51 rfl rfl (by decide) rfl ?_
          refine r_goto (tgt := 5) dX8_firstHour_54 (by decide) ?_
          refine r_ls [1, 2, 3, 4, 0] (ls2 := [(0, .ref (ad 26)), (1, .int p1), (2, .int p2), (3, .int l3_1), (4, .int (l4_1 + (1 : Int32)))]) rfl ?_
          exact ih1 l3_1 (l4_1 + (1 : Int32)) h
        · have h := iq (fun z9 => (lC (f_Ve_firstHour_L5 Cl_count Cl_tellers Cl_kinds Cl_events Cl_firsts p1 p2) none n1 z9)) hc903 h
          refine r_iload_n 3 dX8_firstHour_31 rfl ?_
          refine r_aload_n 0 dX8_firstHour_32 rfl ?_
          refine r_getf (v := .ref (ad 3)) _ dX8_firstHour_33 fl_X8_9 lX_26 rfl ?_
          refine r_getf (v := .ref (ad 4)) _ dX8_firstHour_36 fl_X8_38 lX_3 rfl ?_
          refine r_getf (v := .ref (ad 11)) _ dX8_firstHour_39 fl_X8_99 lX_4 rfl ?_
          refine r_iload 4 dX8_firstHour_42 rfl ?_
          refine c_V (rest := [.int l3_1]) 0 0 _ dX8_firstHour_44 kv_X8_56 (ct_Row_get lX_11 lX_12 (Nat.le_of_ble_eq_true rfl)) rfl rfl lX_11 rfl (Nat.le_of_ble_eq_true rfl) (by decide) (by decide) ?_
          refine c_mmax (rest := []) dX8_firstHour_47 ks_X8_102 (Nat.le_of_ble_eq_true rfl) (by decide) ?_
          refine r_istore_n [(3, .int (f_J9_max_7cf53 l3_1 (rget 40 Cl_firsts l4_1))), (0, .ref (ad 26)), (1, .int p1), (2, .int p2), (4, .int l4_1)] dX8_firstHour_50 (by decide) rfl ?_
          refine r_iinc (v2 := (l4_1 + (1 : Int32))) 4 [(4, .int (l4_1 + (1 : Int32))), (3, .int (f_J9_max_7cf53 l3_1 (rget 40 Cl_firsts l4_1))), (0, .ref (ad 26)), (1, .int p1), (2, .int p2)] dX8_firstHour_51 rfl rfl (by decide) rfl ?_
          refine r_goto (tgt := 5) dX8_firstHour_54 (by decide) ?_
          refine r_ls [2, 3, 4, 1, 0] (ls2 := [(0, .ref (ad 26)), (1, .int p1), (2, .int p2), (3, .int (f_J9_max_7cf53 l3_1 (rget 40 Cl_firsts l4_1))), (4, .int (l4_1 + (1 : Int32)))]) rfl ?_
          exact ih1 (f_J9_max_7cf53 l3_1 (rget 40 Cl_firsts l4_1)) (l4_1 + (1 : Int32)) h
  exact L1 _ (0 : Int32) (0 : Int32) h
theorem ct_Ve_firstHour {g : GG} {ad : Nat → Nat} {t : va_W} {x0 x1 x3 x4 x11 x12 x18 x19 x20 x24 x25 x26 x27 x28 x29 x30 x31 x37 x39 x40 x41 x47 x48 x54 x56 x58 x59 x60 x61 x63 x64 x65 x66 : Int32} {x2 x10 x13 x14 x15 x16 x17 x21 x22 x23 x33 x34 x35 x42 x43 x44 x45 x46 x49 x50 x51 x52 x53 x62 x67 : Nat → Int32} {x32 : Int64} {x36 x38 x55 x57 : Nat → Int64} {N : Nat} {Cl_count : Int32} {Cl_tellers : Nat → Int32} {Cl_kinds : Nat → Int32} {Cl_events : Nat → Int32} {Cl_firsts : Nat → Int32} {p1 : Int32} {p2 : Int32} {o : Int32} (h : f_Ve_firstHour N Cl_count Cl_tellers Cl_kinds Cl_events Cl_firsts p1 p2 = some o) : Ct g mX8_firstHour 3 0 0 [.ref (ad 26), .int p1, .int p2] (wlX g ad x0 x1 x2 x3 x4 Cl_count Cl_tellers Cl_kinds Cl_events Cl_firsts x10 x11 x12 x13 x14 x15 x16 x17 x18 x19 x20 x21 x22 x23 x24 x25 x26 x27 x28 x29 x30 x31 x32 x33 x34 x35 x36 x37 x38 x39 x40 x41 x42 x43 x44 x45 x46 x47 x48 x49 x50 x51 x52 x53 x54 x55 x56 x57 x58 x59 x60 x61 x62 x63 x64 x65 x66 x67 ++ t) (Dv (some (.int o)) (wlX g ad x0 x1 x2 x3 x4 Cl_count Cl_tellers Cl_kinds Cl_events Cl_firsts x10 x11 x12 x13 x14 x15 x16 x17 x18 x19 x20 x21 x22 x23 x24 x25 x26 x27 x28 x29 x30 x31 x32 x33 x34 x35 x36 x37 x38 x39 x40 x41 x42 x43 x44 x45 x46 x47 x48 x49 x50 x51 x52 x53 x54 x55 x56 x57 x58 x59 x60 x61 x62 x63 x64 x65 x66 x67 ++ t)) := Ct.ofR (by decide +kernel) rfl (Nat.le_of_ble_eq_true rfl) (rt_Ve_firstHour h ⟨rfl, rfl⟩)
set_option maxRecDepth 20000 in
set_option maxHeartbeats 4000000 in
theorem rt_Ve_windowHours {g : GG} {ad : Nat → Nat} {t : va_W} {x0 x1 x3 x4 x11 x12 x18 x19 x20 x24 x25 x26 x27 x28 x29 x30 x31 x37 x39 x40 x41 x47 x48 x54 x56 x58 x59 x60 x61 x63 x64 x65 x66 : Int32} {x2 x13 x14 x15 x16 x17 x21 x22 x23 x33 x34 x35 x42 x43 x44 x45 x46 x49 x50 x51 x52 x53 x62 x67 : Nat → Int32} {x32 : Int64} {x36 x38 x55 x57 : Nat → Int64} {N : Nat} {Cl_count : Int32} {Cl_tellers : Nat → Int32} {Cl_kinds : Nat → Int32} {Cl_events : Nat → Int32} {Cl_firsts : Nat → Int32} {Cl_lasts : Nat → Int32} {p1 : Int32} {p2 : Int32} {o : Int32} {Q : Rs → va_W → Prop} (h : f_Ve_windowHours N Cl_count Cl_tellers Cl_kinds Cl_events Cl_firsts Cl_lasts p1 p2 = some o) (hq : Q (.inl (some (.int o))) (wlX g ad x0 x1 x2 x3 x4 Cl_count Cl_tellers Cl_kinds Cl_events Cl_firsts Cl_lasts x11 x12 x13 x14 x15 x16 x17 x18 x19 x20 x21 x22 x23 x24 x25 x26 x27 x28 x29 x30 x31 x32 x33 x34 x35 x36 x37 x38 x39 x40 x41 x42 x43 x44 x45 x46 x47 x48 x49 x50 x51 x52 x53 x54 x55 x56 x57 x58 x59 x60 x61 x62 x63 x64 x65 x66 x67 ++ t)) : R g mX8_windowHours 4 0 0 0 [(0, .ref (ad 26)), (1, .int p1), (2, .int p2)] [] (wlX g ad x0 x1 x2 x3 x4 Cl_count Cl_tellers Cl_kinds Cl_events Cl_firsts Cl_lasts x11 x12 x13 x14 x15 x16 x17 x18 x19 x20 x21 x22 x23 x24 x25 x26 x27 x28 x29 x30 x31 x32 x33 x34 x35 x36 x37 x38 x39 x40 x41 x42 x43 x44 x45 x46 x47 x48 x49 x50 x51 x52 x53 x54 x55 x56 x57 x58 x59 x60 x61 x62 x63 x64 x65 x66 x67 ++ t) Q := by
  unfold f_Ve_windowHours at h
  refine r_iconst (v := (0 : Int32)) dX8_windowHours_0 (by decide) ?_
  refine r_aload_n 0 dX8_windowHours_1 rfl ?_
  refine r_iload_n 1 dX8_windowHours_2 rfl ?_
  refine r_iload_n 2 dX8_windowHours_3 rfl ?_
  obtain ⟨r904, hc905, h⟩ := ob (fun z9 => z9) rfl h
  refine c_V (rest := [.int (0 : Int32)]) 0 0 _ dX8_windowHours_4 kv_X8_114 (ct_Ve_lastHour hc905) rfl rfl lX_26 rfl (Nat.le_of_ble_eq_true rfl) (by decide) (by decide) ?_
  refine r_aload_n 0 dX8_windowHours_7 rfl ?_
  refine r_iload_n 1 dX8_windowHours_8 rfl ?_
  refine r_iload_n 2 dX8_windowHours_9 rfl ?_
  obtain ⟨r906, hc907, h⟩ := ob (fun z9 => z9) rfl h
  refine c_V (rest := [.int r904, .int (0 : Int32)]) 0 0 _ dX8_windowHours_10 kv_X8_117 (ct_Ve_firstHour hc907) rfl rfl lX_26 rfl (Nat.le_of_ble_eq_true rfl) (by decide) (by decide) ?_
  refine r_isub dX8_windowHours_13 ?_
  refine r_iconst (v := (1 : Int32)) dX8_windowHours_14 (by decide) ?_
  refine r_iadd dX8_windowHours_15 ?_
  refine c_mmax (rest := []) dX8_windowHours_16 ks_X8_102 (Nat.le_of_ble_eq_true rfl) (by decide) ?_
  refine r_iret dX8_windowHours_19 rfl ?_
  have h := Option.some.inj (show some _ = some o from h)
  subst h
  exact hq
theorem ct_Ve_windowHours {g : GG} {ad : Nat → Nat} {t : va_W} {x0 x1 x3 x4 x11 x12 x18 x19 x20 x24 x25 x26 x27 x28 x29 x30 x31 x37 x39 x40 x41 x47 x48 x54 x56 x58 x59 x60 x61 x63 x64 x65 x66 : Int32} {x2 x13 x14 x15 x16 x17 x21 x22 x23 x33 x34 x35 x42 x43 x44 x45 x46 x49 x50 x51 x52 x53 x62 x67 : Nat → Int32} {x32 : Int64} {x36 x38 x55 x57 : Nat → Int64} {N : Nat} {Cl_count : Int32} {Cl_tellers : Nat → Int32} {Cl_kinds : Nat → Int32} {Cl_events : Nat → Int32} {Cl_firsts : Nat → Int32} {Cl_lasts : Nat → Int32} {p1 : Int32} {p2 : Int32} {o : Int32} (h : f_Ve_windowHours N Cl_count Cl_tellers Cl_kinds Cl_events Cl_firsts Cl_lasts p1 p2 = some o) : Ct g mX8_windowHours 4 0 0 [.ref (ad 26), .int p1, .int p2] (wlX g ad x0 x1 x2 x3 x4 Cl_count Cl_tellers Cl_kinds Cl_events Cl_firsts Cl_lasts x11 x12 x13 x14 x15 x16 x17 x18 x19 x20 x21 x22 x23 x24 x25 x26 x27 x28 x29 x30 x31 x32 x33 x34 x35 x36 x37 x38 x39 x40 x41 x42 x43 x44 x45 x46 x47 x48 x49 x50 x51 x52 x53 x54 x55 x56 x57 x58 x59 x60 x61 x62 x63 x64 x65 x66 x67 ++ t) (Dv (some (.int o)) (wlX g ad x0 x1 x2 x3 x4 Cl_count Cl_tellers Cl_kinds Cl_events Cl_firsts Cl_lasts x11 x12 x13 x14 x15 x16 x17 x18 x19 x20 x21 x22 x23 x24 x25 x26 x27 x28 x29 x30 x31 x32 x33 x34 x35 x36 x37 x38 x39 x40 x41 x42 x43 x44 x45 x46 x47 x48 x49 x50 x51 x52 x53 x54 x55 x56 x57 x58 x59 x60 x61 x62 x63 x64 x65 x66 x67 ++ t)) := Ct.ofR (by decide +kernel) rfl (Nat.le_of_ble_eq_true rfl) (rt_Ve_windowHours h ⟨rfl, rfl⟩)
set_option maxRecDepth 20000 in
set_option maxHeartbeats 4000000 in
theorem rt_Main_isAgreed {g : GG} {ad : Nat → Nat} {t : va_W} {x0 x1 x4 x11 x12 x18 x19 x20 x24 x25 x26 x27 x28 x29 x30 x31 x37 x39 x40 x41 x47 x48 x54 x56 x58 x60 x61 x63 x64 x65 x66 : Int32} {x2 x13 x14 x15 x16 x17 x21 x22 x23 x33 x34 x35 x42 x43 x44 x45 x46 x49 x50 x51 x52 x53 x62 x67 : Nat → Int32} {x32 : Int64} {x36 x38 x55 x57 : Nat → Int64} {N : Nat} {Tap_eventCount : Int32} {Cl_count : Int32} {Cl_tellers : Nat → Int32} {Cl_kinds : Nat → Int32} {Cl_events : Nat → Int32} {Cl_firsts : Nat → Int32} {Cl_lasts : Nat → Int32} {Co_doubted : Int32} {p1 : Int32} {o : (Int32) ⊕ String} {Q : Rs → va_W → Prop} (h : f_Main_isAgreed N Tap_eventCount Cl_count Cl_tellers Cl_kinds Cl_events Cl_firsts Cl_lasts Co_doubted p1 = some o) (hq1 : ∀ q, o = .inl q → Q (.inl (some (.int q))) (wlX g ad x0 x1 x2 Tap_eventCount x4 Cl_count Cl_tellers Cl_kinds Cl_events Cl_firsts Cl_lasts x11 x12 x13 x14 x15 x16 x17 x18 x19 x20 x21 x22 x23 x24 x25 x26 x27 x28 x29 x30 x31 x32 x33 x34 x35 x36 x37 x38 x39 x40 x41 x42 x43 x44 x45 x46 x47 x48 x49 x50 x51 x52 x53 x54 x55 x56 x57 x58 Co_doubted x60 x61 x62 x63 x64 x65 x66 x67 ++ t)) (hq2 : ∀ E, o = .inr E → Q (.inr E) (wlX g ad x0 x1 x2 Tap_eventCount x4 Cl_count Cl_tellers Cl_kinds Cl_events Cl_firsts Cl_lasts x11 x12 x13 x14 x15 x16 x17 x18 x19 x20 x21 x22 x23 x24 x25 x26 x27 x28 x29 x30 x31 x32 x33 x34 x35 x36 x37 x38 x39 x40 x41 x42 x43 x44 x45 x46 x47 x48 x49 x50 x51 x52 x53 x54 x55 x56 x57 x58 Co_doubted x60 x61 x62 x63 x64 x65 x66 x67 ++ t)) : R g mX9_isAgreed 7 1 6 0 [(0, .ref (ad 0)), (1, .int p1)] [] (wlX g ad x0 x1 x2 Tap_eventCount x4 Cl_count Cl_tellers Cl_kinds Cl_events Cl_firsts Cl_lasts x11 x12 x13 x14 x15 x16 x17 x18 x19 x20 x21 x22 x23 x24 x25 x26 x27 x28 x29 x30 x31 x32 x33 x34 x35 x36 x37 x38 x39 x40 x41 x42 x43 x44 x45 x46 x47 x48 x49 x50 x51 x52 x53 x54 x55 x56 x57 x58 Co_doubted x60 x61 x62 x63 x64 x65 x66 x67 ++ t) Q := by
  unfold f_Main_isAgreed at h
  refine r_aload_n 0 dX9_isAgreed_0 rfl ?_
  refine r_iload_n 1 dX9_isAgreed_1 rfl ?_
  obtain ⟨r908, hc909, h⟩ := ob (fun z9 => z9) rfl h
  rcases r908 with q910 | E914
  · refine c_Xv (rest := []) 0 0 _ dX9_isAgreed_2 kv_X9_192 (ct_Main_needEvent hc909) rfl rfl lX_0 rfl (Nat.le_of_ble_eq_true rfl) (by decide) (by decide) ?_
    try dsimp only [Sum.elim_inl, Sum.elim_inr] at h
    refine r_aload_n 0 dX9_isAgreed_5 rfl ?_
    refine r_getf (v := .ref (ad 26)) _ dX9_isAgreed_6 fl_X9_39 lX_0 rfl ?_
    refine r_iload_n 1 dX9_isAgreed_9 rfl ?_
    refine r_aload_n 0 dX9_isAgreed_10 rfl ?_
    refine r_getf (v := .ref (ad 71)) _ dX9_isAgreed_11 fl_X9_48 lX_0 rfl ?_
    refine r_getf (v := .int Co_doubted) _ dX9_isAgreed_14 fl_X9_162 lX_71 rfl ?_
    obtain ⟨r911, hc912, h⟩ := ob (fun z9 => z9) rfl h
    refine c_V (rest := []) 0 0 _ dX9_isAgreed_17 kv_X9_195 (ct_Ve_windowHours hc912) rfl rfl lX_26 rfl (Nat.le_of_ble_eq_true rfl) (by decide) (by decide) ?_
    refine r_if_le (tgt := 27) dX9_isAgreed_20 (by decide) (fun hc913 => ?_) (fun hc913 => ?_)
    · have h := ip (fun z9 => z9) hc913 h
      refine r_iconst (v := (0 : Int32)) dX9_isAgreed_27 (by decide) ?_
      refine r_zret dX9_isAgreed_28 rfl (by decide) ?_
      have h := Option.some.inj (show some _ = some o from h)
      subst h
      exact hq1 _ rfl
    · have h := iq (fun z9 => z9) hc913 h
      refine r_iconst (v := (1 : Int32)) dX9_isAgreed_23 (by decide) ?_
      refine r_goto (tgt := 28) dX9_isAgreed_24 (by decide) ?_
      refine r_zret dX9_isAgreed_28 rfl (by decide) ?_
      have h := Option.some.inj (show some _ = some o from h)
      subst h
      exact hq1 _ rfl
  · refine c_Xt (rest := []) 0 0 _ dX9_isAgreed_2 kv_X9_192 (ct_Main_needEvent hc909) rfl rfl lX_0 rfl (Nat.le_of_ble_eq_true rfl) (by decide) (by decide) ?_
    refine rx_out rfl ?_
    have h := Option.some.inj (show some _ = some o from h)
    subst h
    exact hq2 _ rfl
theorem ct_Main_isAgreed {g : GG} {ad : Nat → Nat} {t : va_W} {x0 x1 x4 x11 x12 x18 x19 x20 x24 x25 x26 x27 x28 x29 x30 x31 x37 x39 x40 x41 x47 x48 x54 x56 x58 x60 x61 x63 x64 x65 x66 : Int32} {x2 x13 x14 x15 x16 x17 x21 x22 x23 x33 x34 x35 x42 x43 x44 x45 x46 x49 x50 x51 x52 x53 x62 x67 : Nat → Int32} {x32 : Int64} {x36 x38 x55 x57 : Nat → Int64} {N : Nat} {Tap_eventCount : Int32} {Cl_count : Int32} {Cl_tellers : Nat → Int32} {Cl_kinds : Nat → Int32} {Cl_events : Nat → Int32} {Cl_firsts : Nat → Int32} {Cl_lasts : Nat → Int32} {Co_doubted : Int32} {p1 : Int32} {o : (Int32) ⊕ String} (h : f_Main_isAgreed N Tap_eventCount Cl_count Cl_tellers Cl_kinds Cl_events Cl_firsts Cl_lasts Co_doubted p1 = some o) : Ct g mX9_isAgreed 7 1 6 [.ref (ad 0), .int p1] (wlX g ad x0 x1 x2 Tap_eventCount x4 Cl_count Cl_tellers Cl_kinds Cl_events Cl_firsts Cl_lasts x11 x12 x13 x14 x15 x16 x17 x18 x19 x20 x21 x22 x23 x24 x25 x26 x27 x28 x29 x30 x31 x32 x33 x34 x35 x36 x37 x38 x39 x40 x41 x42 x43 x44 x45 x46 x47 x48 x49 x50 x51 x52 x53 x54 x55 x56 x57 x58 Co_doubted x60 x61 x62 x63 x64 x65 x66 x67 ++ t) (Dt o (fun q => some (.int q)) (fun q => (wlX g ad x0 x1 x2 Tap_eventCount x4 Cl_count Cl_tellers Cl_kinds Cl_events Cl_firsts Cl_lasts x11 x12 x13 x14 x15 x16 x17 x18 x19 x20 x21 x22 x23 x24 x25 x26 x27 x28 x29 x30 x31 x32 x33 x34 x35 x36 x37 x38 x39 x40 x41 x42 x43 x44 x45 x46 x47 x48 x49 x50 x51 x52 x53 x54 x55 x56 x57 x58 Co_doubted x60 x61 x62 x63 x64 x65 x66 x67 ++ t)) (wlX g ad x0 x1 x2 Tap_eventCount x4 Cl_count Cl_tellers Cl_kinds Cl_events Cl_firsts Cl_lasts x11 x12 x13 x14 x15 x16 x17 x18 x19 x20 x21 x22 x23 x24 x25 x26 x27 x28 x29 x30 x31 x32 x33 x34 x35 x36 x37 x38 x39 x40 x41 x42 x43 x44 x45 x46 x47 x48 x49 x50 x51 x52 x53 x54 x55 x56 x57 x58 Co_doubted x60 x61 x62 x63 x64 x65 x66 x67 ++ t)) := Ct.ofR (by decide +kernel) rfl (Nat.le_of_ble_eq_true rfl) (rt_Main_isAgreed h (fun q e => by subst e; exact ⟨rfl, rfl⟩) (fun E e => by subst e; exact ⟨rfl, rfl⟩))
set_option maxRecDepth 20000 in
set_option maxHeartbeats 4000000 in
theorem rt_Main_needWindow {g : GG} {ad : Nat → Nat} {t : va_W} {x0 x1 x3 x4 x11 x12 x18 x19 x20 x24 x25 x26 x27 x28 x29 x30 x31 x37 x39 x40 x41 x47 x48 x54 x56 x58 x60 x61 x63 x64 x65 x66 : Int32} {x2 x13 x14 x15 x16 x17 x21 x22 x23 x33 x34 x35 x42 x43 x44 x45 x46 x49 x50 x51 x52 x53 x62 x67 : Nat → Int32} {x32 : Int64} {x36 x38 x55 x57 : Nat → Int64} {N : Nat} {Cl_count : Int32} {Cl_tellers : Nat → Int32} {Cl_kinds : Nat → Int32} {Cl_events : Nat → Int32} {Cl_firsts : Nat → Int32} {Cl_lasts : Nat → Int32} {Co_doubted : Int32} {p1 : Int32} {o : (Unit) ⊕ String} {Q : Rs → va_W → Prop} (h : f_Main_needWindow N Cl_count Cl_tellers Cl_kinds Cl_events Cl_firsts Cl_lasts Co_doubted p1 = some o) (hq1 : ∀ q, o = .inl q → Q (.inl (none)) (wlX g ad x0 x1 x2 x3 x4 Cl_count Cl_tellers Cl_kinds Cl_events Cl_firsts Cl_lasts x11 x12 x13 x14 x15 x16 x17 x18 x19 x20 x21 x22 x23 x24 x25 x26 x27 x28 x29 x30 x31 x32 x33 x34 x35 x36 x37 x38 x39 x40 x41 x42 x43 x44 x45 x46 x47 x48 x49 x50 x51 x52 x53 x54 x55 x56 x57 x58 Co_doubted x60 x61 x62 x63 x64 x65 x66 x67 ++ t)) (hq2 : ∀ E, o = .inr E → Q (.inr E) (wlX g ad x0 x1 x2 x3 x4 Cl_count Cl_tellers Cl_kinds Cl_events Cl_firsts Cl_lasts x11 x12 x13 x14 x15 x16 x17 x18 x19 x20 x21 x22 x23 x24 x25 x26 x27 x28 x29 x30 x31 x32 x33 x34 x35 x36 x37 x38 x39 x40 x41 x42 x43 x44 x45 x46 x47 x48 x49 x50 x51 x52 x53 x54 x55 x56 x57 x58 Co_doubted x60 x61 x62 x63 x64 x65 x66 x67 ++ t)) : R g mX9_needWindow 6 1 6 0 [(0, .ref (ad 0)), (1, .int p1)] [] (wlX g ad x0 x1 x2 x3 x4 Cl_count Cl_tellers Cl_kinds Cl_events Cl_firsts Cl_lasts x11 x12 x13 x14 x15 x16 x17 x18 x19 x20 x21 x22 x23 x24 x25 x26 x27 x28 x29 x30 x31 x32 x33 x34 x35 x36 x37 x38 x39 x40 x41 x42 x43 x44 x45 x46 x47 x48 x49 x50 x51 x52 x53 x54 x55 x56 x57 x58 Co_doubted x60 x61 x62 x63 x64 x65 x66 x67 ++ t) Q := by
  unfold f_Main_needWindow at h
  refine r_aload_n 0 dX9_needWindow_0 rfl ?_
  refine r_getf (v := .ref (ad 26)) _ dX9_needWindow_1 fl_X9_39 lX_0 rfl ?_
  refine r_iload_n 1 dX9_needWindow_4 rfl ?_
  refine r_aload_n 0 dX9_needWindow_5 rfl ?_
  refine r_getf (v := .ref (ad 71)) _ dX9_needWindow_6 fl_X9_48 lX_0 rfl ?_
  refine r_getf (v := .int Co_doubted) _ dX9_needWindow_9 fl_X9_162 lX_71 rfl ?_
  obtain ⟨r915, hc916, h⟩ := ob (fun z9 => z9) rfl h
  refine c_V (rest := []) 1 6 _ dX9_needWindow_12 kv_X9_195 (ct_Ve_windowHours hc916) rfl rfl lX_26 rfl (Nat.le_of_ble_eq_true rfl) (by decide) (by decide) ?_
  refine r_if_ne (tgt := 28) dX9_needWindow_15 (by decide) (fun hc917 => ?_) (fun hc917 => ?_)
  · have h := iq (fun z9 => z9) hc917 h
    refine r_vret dX9_needWindow_28 rfl ?_
    have h := Option.some.inj (show some _ = some o from h)
    subst h
    exact hq1 _ rfl
  · have h := ip (fun z9 => z9) hc917 h
    refine r_throw (x := 0) (y := 0) dX9_needWindow_18 dX9_needWindow_21 dX9_needWindow_22 dX9_needWindow_24 dX9_needWindow_27 kx_X9_62_220_66 rfl (Nat.le_of_ble_eq_true rfl) (by decide) ?_
    have h := Option.some.inj (show some _ = some o from h)
    subst h
    exact hq2 _ rfl
theorem ct_Main_needWindow {g : GG} {ad : Nat → Nat} {t : va_W} {x0 x1 x3 x4 x11 x12 x18 x19 x20 x24 x25 x26 x27 x28 x29 x30 x31 x37 x39 x40 x41 x47 x48 x54 x56 x58 x60 x61 x63 x64 x65 x66 : Int32} {x2 x13 x14 x15 x16 x17 x21 x22 x23 x33 x34 x35 x42 x43 x44 x45 x46 x49 x50 x51 x52 x53 x62 x67 : Nat → Int32} {x32 : Int64} {x36 x38 x55 x57 : Nat → Int64} {N : Nat} {Cl_count : Int32} {Cl_tellers : Nat → Int32} {Cl_kinds : Nat → Int32} {Cl_events : Nat → Int32} {Cl_firsts : Nat → Int32} {Cl_lasts : Nat → Int32} {Co_doubted : Int32} {p1 : Int32} {o : (Unit) ⊕ String} (h : f_Main_needWindow N Cl_count Cl_tellers Cl_kinds Cl_events Cl_firsts Cl_lasts Co_doubted p1 = some o) : Ct g mX9_needWindow 6 1 6 [.ref (ad 0), .int p1] (wlX g ad x0 x1 x2 x3 x4 Cl_count Cl_tellers Cl_kinds Cl_events Cl_firsts Cl_lasts x11 x12 x13 x14 x15 x16 x17 x18 x19 x20 x21 x22 x23 x24 x25 x26 x27 x28 x29 x30 x31 x32 x33 x34 x35 x36 x37 x38 x39 x40 x41 x42 x43 x44 x45 x46 x47 x48 x49 x50 x51 x52 x53 x54 x55 x56 x57 x58 Co_doubted x60 x61 x62 x63 x64 x65 x66 x67 ++ t) (Dt o (fun q => none) (fun q => (wlX g ad x0 x1 x2 x3 x4 Cl_count Cl_tellers Cl_kinds Cl_events Cl_firsts Cl_lasts x11 x12 x13 x14 x15 x16 x17 x18 x19 x20 x21 x22 x23 x24 x25 x26 x27 x28 x29 x30 x31 x32 x33 x34 x35 x36 x37 x38 x39 x40 x41 x42 x43 x44 x45 x46 x47 x48 x49 x50 x51 x52 x53 x54 x55 x56 x57 x58 Co_doubted x60 x61 x62 x63 x64 x65 x66 x67 ++ t)) (wlX g ad x0 x1 x2 x3 x4 Cl_count Cl_tellers Cl_kinds Cl_events Cl_firsts Cl_lasts x11 x12 x13 x14 x15 x16 x17 x18 x19 x20 x21 x22 x23 x24 x25 x26 x27 x28 x29 x30 x31 x32 x33 x34 x35 x36 x37 x38 x39 x40 x41 x42 x43 x44 x45 x46 x47 x48 x49 x50 x51 x52 x53 x54 x55 x56 x57 x58 Co_doubted x60 x61 x62 x63 x64 x65 x66 x67 ++ t)) := Ct.ofR (by decide +kernel) rfl (Nat.le_of_ble_eq_true rfl) (rt_Main_needWindow h (fun q e => by subst e; exact ⟨rfl, rfl⟩) (fun E e => by subst e; exact ⟨rfl, rfl⟩))
set_option maxRecDepth 20000 in
set_option maxHeartbeats 4000000 in
theorem rt_Main_windowFrom {g : GG} {ad : Nat → Nat} {t : va_W} {x0 x1 x4 x11 x12 x18 x19 x20 x24 x25 x26 x27 x28 x29 x30 x31 x37 x39 x40 x41 x47 x48 x54 x56 x58 x60 x61 x63 x64 x65 x66 : Int32} {x2 x13 x14 x15 x16 x17 x21 x22 x23 x33 x34 x35 x42 x43 x44 x45 x46 x49 x50 x51 x52 x53 x62 x67 : Nat → Int32} {x32 : Int64} {x36 x38 x55 x57 : Nat → Int64} {N : Nat} {Tap_eventCount : Int32} {Cl_count : Int32} {Cl_tellers : Nat → Int32} {Cl_kinds : Nat → Int32} {Cl_events : Nat → Int32} {Cl_firsts : Nat → Int32} {Cl_lasts : Nat → Int32} {Co_doubted : Int32} {p1 : Int32} {o : (Int32) ⊕ String} {Q : Rs → va_W → Prop} (h : f_Main_windowFrom N Tap_eventCount Cl_count Cl_tellers Cl_kinds Cl_events Cl_firsts Cl_lasts Co_doubted p1 = some o) (hq1 : ∀ q, o = .inl q → Q (.inl (some (.int q))) (wlX g ad x0 x1 x2 Tap_eventCount x4 Cl_count Cl_tellers Cl_kinds Cl_events Cl_firsts Cl_lasts x11 x12 x13 x14 x15 x16 x17 x18 x19 x20 x21 x22 x23 x24 x25 x26 x27 x28 x29 x30 x31 x32 x33 x34 x35 x36 x37 x38 x39 x40 x41 x42 x43 x44 x45 x46 x47 x48 x49 x50 x51 x52 x53 x54 x55 x56 x57 x58 Co_doubted x60 x61 x62 x63 x64 x65 x66 x67 ++ t)) (hq2 : ∀ E, o = .inr E → Q (.inr E) (wlX g ad x0 x1 x2 Tap_eventCount x4 Cl_count Cl_tellers Cl_kinds Cl_events Cl_firsts Cl_lasts x11 x12 x13 x14 x15 x16 x17 x18 x19 x20 x21 x22 x23 x24 x25 x26 x27 x28 x29 x30 x31 x32 x33 x34 x35 x36 x37 x38 x39 x40 x41 x42 x43 x44 x45 x46 x47 x48 x49 x50 x51 x52 x53 x54 x55 x56 x57 x58 Co_doubted x60 x61 x62 x63 x64 x65 x66 x67 ++ t)) : R g mX9_windowFrom 7 2 12 0 [(0, .ref (ad 0)), (1, .int p1)] [] (wlX g ad x0 x1 x2 Tap_eventCount x4 Cl_count Cl_tellers Cl_kinds Cl_events Cl_firsts Cl_lasts x11 x12 x13 x14 x15 x16 x17 x18 x19 x20 x21 x22 x23 x24 x25 x26 x27 x28 x29 x30 x31 x32 x33 x34 x35 x36 x37 x38 x39 x40 x41 x42 x43 x44 x45 x46 x47 x48 x49 x50 x51 x52 x53 x54 x55 x56 x57 x58 Co_doubted x60 x61 x62 x63 x64 x65 x66 x67 ++ t) Q := by
  unfold f_Main_windowFrom at h
  refine r_aload_n 0 dX9_windowFrom_0 rfl ?_
  refine r_iload_n 1 dX9_windowFrom_1 rfl ?_
  obtain ⟨r918, hc919, h⟩ := ob (fun z9 => z9) rfl h
  rcases r918 with q920 | E927
  · refine c_Xv (rest := []) 1 6 _ dX9_windowFrom_2 kv_X9_192 (ct_Main_needEvent hc919) rfl rfl lX_0 rfl (Nat.le_of_ble_eq_true rfl) (by decide) (by decide) ?_
    try dsimp only [Sum.elim_inl, Sum.elim_inr] at h
    refine r_aload_n 0 dX9_windowFrom_5 rfl ?_
    refine r_iload_n 1 dX9_windowFrom_6 rfl ?_
    obtain ⟨r921, hc922, h⟩ := ob (fun z9 => z9) rfl h
    rcases r921 with q923 | E926
    · refine c_Xv (rest := []) 0 0 _ dX9_windowFrom_7 kv_X9_198 (ct_Main_needWindow hc922) rfl rfl lX_0 rfl (Nat.le_of_ble_eq_true rfl) (by decide) (by decide) ?_
      try dsimp only [Sum.elim_inl, Sum.elim_inr] at h
      refine r_aload_n 0 dX9_windowFrom_10 rfl ?_
      refine r_getf (v := .ref (ad 26)) _ dX9_windowFrom_11 fl_X9_39 lX_0 rfl ?_
      refine r_iload_n 1 dX9_windowFrom_14 rfl ?_
      refine r_aload_n 0 dX9_windowFrom_15 rfl ?_
      refine r_getf (v := .ref (ad 71)) _ dX9_windowFrom_16 fl_X9_48 lX_0 rfl ?_
      refine r_getf (v := .int Co_doubted) _ dX9_windowFrom_19 fl_X9_162 lX_71 rfl ?_
      obtain ⟨r924, hc925, h⟩ := ob (fun z9 => z9) rfl h
      refine c_V (rest := []) 0 0 _ dX9_windowFrom_22 kv_X9_201 (ct_Ve_firstHour hc925) rfl rfl lX_26 rfl (Nat.le_of_ble_eq_true rfl) (by decide) (by decide) ?_
      refine r_iret dX9_windowFrom_25 rfl ?_
      have h := Option.some.inj (show some _ = some o from h)
      subst h
      exact hq1 _ rfl
    · refine c_Xt (rest := []) 0 0 _ dX9_windowFrom_7 kv_X9_198 (ct_Main_needWindow hc922) rfl rfl lX_0 rfl (Nat.le_of_ble_eq_true rfl) (by decide) (by decide) ?_
      refine rx_out rfl ?_
      have h := Option.some.inj (show some _ = some o from h)
      subst h
      exact hq2 _ rfl
  · refine c_Xt (rest := []) 1 6 _ dX9_windowFrom_2 kv_X9_192 (ct_Main_needEvent hc919) rfl rfl lX_0 rfl (Nat.le_of_ble_eq_true rfl) (by decide) (by decide) ?_
    refine rx_out rfl ?_
    have h := Option.some.inj (show some _ = some o from h)
    subst h
    exact hq2 _ rfl
theorem ct_Main_windowFrom {g : GG} {ad : Nat → Nat} {t : va_W} {x0 x1 x4 x11 x12 x18 x19 x20 x24 x25 x26 x27 x28 x29 x30 x31 x37 x39 x40 x41 x47 x48 x54 x56 x58 x60 x61 x63 x64 x65 x66 : Int32} {x2 x13 x14 x15 x16 x17 x21 x22 x23 x33 x34 x35 x42 x43 x44 x45 x46 x49 x50 x51 x52 x53 x62 x67 : Nat → Int32} {x32 : Int64} {x36 x38 x55 x57 : Nat → Int64} {N : Nat} {Tap_eventCount : Int32} {Cl_count : Int32} {Cl_tellers : Nat → Int32} {Cl_kinds : Nat → Int32} {Cl_events : Nat → Int32} {Cl_firsts : Nat → Int32} {Cl_lasts : Nat → Int32} {Co_doubted : Int32} {p1 : Int32} {o : (Int32) ⊕ String} (h : f_Main_windowFrom N Tap_eventCount Cl_count Cl_tellers Cl_kinds Cl_events Cl_firsts Cl_lasts Co_doubted p1 = some o) : Ct g mX9_windowFrom 7 2 12 [.ref (ad 0), .int p1] (wlX g ad x0 x1 x2 Tap_eventCount x4 Cl_count Cl_tellers Cl_kinds Cl_events Cl_firsts Cl_lasts x11 x12 x13 x14 x15 x16 x17 x18 x19 x20 x21 x22 x23 x24 x25 x26 x27 x28 x29 x30 x31 x32 x33 x34 x35 x36 x37 x38 x39 x40 x41 x42 x43 x44 x45 x46 x47 x48 x49 x50 x51 x52 x53 x54 x55 x56 x57 x58 Co_doubted x60 x61 x62 x63 x64 x65 x66 x67 ++ t) (Dt o (fun q => some (.int q)) (fun q => (wlX g ad x0 x1 x2 Tap_eventCount x4 Cl_count Cl_tellers Cl_kinds Cl_events Cl_firsts Cl_lasts x11 x12 x13 x14 x15 x16 x17 x18 x19 x20 x21 x22 x23 x24 x25 x26 x27 x28 x29 x30 x31 x32 x33 x34 x35 x36 x37 x38 x39 x40 x41 x42 x43 x44 x45 x46 x47 x48 x49 x50 x51 x52 x53 x54 x55 x56 x57 x58 Co_doubted x60 x61 x62 x63 x64 x65 x66 x67 ++ t)) (wlX g ad x0 x1 x2 Tap_eventCount x4 Cl_count Cl_tellers Cl_kinds Cl_events Cl_firsts Cl_lasts x11 x12 x13 x14 x15 x16 x17 x18 x19 x20 x21 x22 x23 x24 x25 x26 x27 x28 x29 x30 x31 x32 x33 x34 x35 x36 x37 x38 x39 x40 x41 x42 x43 x44 x45 x46 x47 x48 x49 x50 x51 x52 x53 x54 x55 x56 x57 x58 Co_doubted x60 x61 x62 x63 x64 x65 x66 x67 ++ t)) := Ct.ofR (by decide +kernel) rfl (Nat.le_of_ble_eq_true rfl) (rt_Main_windowFrom h (fun q e => by subst e; exact ⟨rfl, rfl⟩) (fun E e => by subst e; exact ⟨rfl, rfl⟩))
set_option maxRecDepth 20000 in
set_option maxHeartbeats 4000000 in
theorem rt_Main_windowTo {g : GG} {ad : Nat → Nat} {t : va_W} {x0 x1 x4 x11 x12 x18 x19 x20 x24 x25 x26 x27 x28 x29 x30 x31 x37 x39 x40 x41 x47 x48 x54 x56 x58 x60 x61 x63 x64 x65 x66 : Int32} {x2 x13 x14 x15 x16 x17 x21 x22 x23 x33 x34 x35 x42 x43 x44 x45 x46 x49 x50 x51 x52 x53 x62 x67 : Nat → Int32} {x32 : Int64} {x36 x38 x55 x57 : Nat → Int64} {N : Nat} {Tap_eventCount : Int32} {Cl_count : Int32} {Cl_tellers : Nat → Int32} {Cl_kinds : Nat → Int32} {Cl_events : Nat → Int32} {Cl_firsts : Nat → Int32} {Cl_lasts : Nat → Int32} {Co_doubted : Int32} {p1 : Int32} {o : (Int32) ⊕ String} {Q : Rs → va_W → Prop} (h : f_Main_windowTo N Tap_eventCount Cl_count Cl_tellers Cl_kinds Cl_events Cl_firsts Cl_lasts Co_doubted p1 = some o) (hq1 : ∀ q, o = .inl q → Q (.inl (some (.int q))) (wlX g ad x0 x1 x2 Tap_eventCount x4 Cl_count Cl_tellers Cl_kinds Cl_events Cl_firsts Cl_lasts x11 x12 x13 x14 x15 x16 x17 x18 x19 x20 x21 x22 x23 x24 x25 x26 x27 x28 x29 x30 x31 x32 x33 x34 x35 x36 x37 x38 x39 x40 x41 x42 x43 x44 x45 x46 x47 x48 x49 x50 x51 x52 x53 x54 x55 x56 x57 x58 Co_doubted x60 x61 x62 x63 x64 x65 x66 x67 ++ t)) (hq2 : ∀ E, o = .inr E → Q (.inr E) (wlX g ad x0 x1 x2 Tap_eventCount x4 Cl_count Cl_tellers Cl_kinds Cl_events Cl_firsts Cl_lasts x11 x12 x13 x14 x15 x16 x17 x18 x19 x20 x21 x22 x23 x24 x25 x26 x27 x28 x29 x30 x31 x32 x33 x34 x35 x36 x37 x38 x39 x40 x41 x42 x43 x44 x45 x46 x47 x48 x49 x50 x51 x52 x53 x54 x55 x56 x57 x58 Co_doubted x60 x61 x62 x63 x64 x65 x66 x67 ++ t)) : R g mX9_windowTo 7 2 12 0 [(0, .ref (ad 0)), (1, .int p1)] [] (wlX g ad x0 x1 x2 Tap_eventCount x4 Cl_count Cl_tellers Cl_kinds Cl_events Cl_firsts Cl_lasts x11 x12 x13 x14 x15 x16 x17 x18 x19 x20 x21 x22 x23 x24 x25 x26 x27 x28 x29 x30 x31 x32 x33 x34 x35 x36 x37 x38 x39 x40 x41 x42 x43 x44 x45 x46 x47 x48 x49 x50 x51 x52 x53 x54 x55 x56 x57 x58 Co_doubted x60 x61 x62 x63 x64 x65 x66 x67 ++ t) Q := by
  unfold f_Main_windowTo at h
  refine r_aload_n 0 dX9_windowTo_0 rfl ?_
  refine r_iload_n 1 dX9_windowTo_1 rfl ?_
  obtain ⟨r928, hc929, h⟩ := ob (fun z9 => z9) rfl h
  rcases r928 with q930 | E937
  · refine c_Xv (rest := []) 1 6 _ dX9_windowTo_2 kv_X9_192 (ct_Main_needEvent hc929) rfl rfl lX_0 rfl (Nat.le_of_ble_eq_true rfl) (by decide) (by decide) ?_
    try dsimp only [Sum.elim_inl, Sum.elim_inr] at h
    refine r_aload_n 0 dX9_windowTo_5 rfl ?_
    refine r_iload_n 1 dX9_windowTo_6 rfl ?_
    obtain ⟨r931, hc932, h⟩ := ob (fun z9 => z9) rfl h
    rcases r931 with q933 | E936
    · refine c_Xv (rest := []) 0 0 _ dX9_windowTo_7 kv_X9_198 (ct_Main_needWindow hc932) rfl rfl lX_0 rfl (Nat.le_of_ble_eq_true rfl) (by decide) (by decide) ?_
      try dsimp only [Sum.elim_inl, Sum.elim_inr] at h
      refine r_aload_n 0 dX9_windowTo_10 rfl ?_
      refine r_getf (v := .ref (ad 26)) _ dX9_windowTo_11 fl_X9_39 lX_0 rfl ?_
      refine r_iload_n 1 dX9_windowTo_14 rfl ?_
      refine r_aload_n 0 dX9_windowTo_15 rfl ?_
      refine r_getf (v := .ref (ad 71)) _ dX9_windowTo_16 fl_X9_48 lX_0 rfl ?_
      refine r_getf (v := .int Co_doubted) _ dX9_windowTo_19 fl_X9_162 lX_71 rfl ?_
      obtain ⟨r934, hc935, h⟩ := ob (fun z9 => z9) rfl h
      refine c_V (rest := []) 0 0 _ dX9_windowTo_22 kv_X9_204 (ct_Ve_lastHour hc935) rfl rfl lX_26 rfl (Nat.le_of_ble_eq_true rfl) (by decide) (by decide) ?_
      refine r_iret dX9_windowTo_25 rfl ?_
      have h := Option.some.inj (show some _ = some o from h)
      subst h
      exact hq1 _ rfl
    · refine c_Xt (rest := []) 0 0 _ dX9_windowTo_7 kv_X9_198 (ct_Main_needWindow hc932) rfl rfl lX_0 rfl (Nat.le_of_ble_eq_true rfl) (by decide) (by decide) ?_
      refine rx_out rfl ?_
      have h := Option.some.inj (show some _ = some o from h)
      subst h
      exact hq2 _ rfl
  · refine c_Xt (rest := []) 1 6 _ dX9_windowTo_2 kv_X9_192 (ct_Main_needEvent hc929) rfl rfl lX_0 rfl (Nat.le_of_ble_eq_true rfl) (by decide) (by decide) ?_
    refine rx_out rfl ?_
    have h := Option.some.inj (show some _ = some o from h)
    subst h
    exact hq2 _ rfl
theorem ct_Main_windowTo {g : GG} {ad : Nat → Nat} {t : va_W} {x0 x1 x4 x11 x12 x18 x19 x20 x24 x25 x26 x27 x28 x29 x30 x31 x37 x39 x40 x41 x47 x48 x54 x56 x58 x60 x61 x63 x64 x65 x66 : Int32} {x2 x13 x14 x15 x16 x17 x21 x22 x23 x33 x34 x35 x42 x43 x44 x45 x46 x49 x50 x51 x52 x53 x62 x67 : Nat → Int32} {x32 : Int64} {x36 x38 x55 x57 : Nat → Int64} {N : Nat} {Tap_eventCount : Int32} {Cl_count : Int32} {Cl_tellers : Nat → Int32} {Cl_kinds : Nat → Int32} {Cl_events : Nat → Int32} {Cl_firsts : Nat → Int32} {Cl_lasts : Nat → Int32} {Co_doubted : Int32} {p1 : Int32} {o : (Int32) ⊕ String} (h : f_Main_windowTo N Tap_eventCount Cl_count Cl_tellers Cl_kinds Cl_events Cl_firsts Cl_lasts Co_doubted p1 = some o) : Ct g mX9_windowTo 7 2 12 [.ref (ad 0), .int p1] (wlX g ad x0 x1 x2 Tap_eventCount x4 Cl_count Cl_tellers Cl_kinds Cl_events Cl_firsts Cl_lasts x11 x12 x13 x14 x15 x16 x17 x18 x19 x20 x21 x22 x23 x24 x25 x26 x27 x28 x29 x30 x31 x32 x33 x34 x35 x36 x37 x38 x39 x40 x41 x42 x43 x44 x45 x46 x47 x48 x49 x50 x51 x52 x53 x54 x55 x56 x57 x58 Co_doubted x60 x61 x62 x63 x64 x65 x66 x67 ++ t) (Dt o (fun q => some (.int q)) (fun q => (wlX g ad x0 x1 x2 Tap_eventCount x4 Cl_count Cl_tellers Cl_kinds Cl_events Cl_firsts Cl_lasts x11 x12 x13 x14 x15 x16 x17 x18 x19 x20 x21 x22 x23 x24 x25 x26 x27 x28 x29 x30 x31 x32 x33 x34 x35 x36 x37 x38 x39 x40 x41 x42 x43 x44 x45 x46 x47 x48 x49 x50 x51 x52 x53 x54 x55 x56 x57 x58 Co_doubted x60 x61 x62 x63 x64 x65 x66 x67 ++ t)) (wlX g ad x0 x1 x2 Tap_eventCount x4 Cl_count Cl_tellers Cl_kinds Cl_events Cl_firsts Cl_lasts x11 x12 x13 x14 x15 x16 x17 x18 x19 x20 x21 x22 x23 x24 x25 x26 x27 x28 x29 x30 x31 x32 x33 x34 x35 x36 x37 x38 x39 x40 x41 x42 x43 x44 x45 x46 x47 x48 x49 x50 x51 x52 x53 x54 x55 x56 x57 x58 Co_doubted x60 x61 x62 x63 x64 x65 x66 x67 ++ t)) := Ct.ofR (by decide +kernel) rfl (Nat.le_of_ble_eq_true rfl) (rt_Main_windowTo h (fun q e => by subst e; exact ⟨rfl, rfl⟩) (fun E e => by subst e; exact ⟨rfl, rfl⟩))
