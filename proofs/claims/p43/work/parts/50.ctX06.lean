set_option maxRecDepth 20000 in
set_option maxHeartbeats 4000000 in
theorem rt_Cl_copyFrom {g : GG} {ad : Nat → Nat} {t : va_W} {x0 x1 x3 x4 x11 x12 x18 x19 x20 x24 x25 x26 x27 x28 x29 x30 x31 x37 x39 x40 x47 x48 x54 x56 x58 x59 x60 x61 x63 x64 x65 x66 : Int32} {x2 x13 x14 x15 x16 x17 x21 x22 x23 x33 x34 x35 x49 x50 x51 x52 x53 x62 x67 : Nat → Int32} {x32 : Int64} {x36 x38 x55 x57 : Nat → Int64} {Cl_count : Int32} {Cl_tellers : Nat → Int32} {Cl_kinds : Nat → Int32} {Cl_events : Nat → Int32} {Cl_firsts : Nat → Int32} {Cl_lasts : Nat → Int32} {Cl_count_2 : Int32} {Cl_tellers_2 : Nat → Int32} {Cl_kinds_2 : Nat → Int32} {Cl_events_2 : Nat → Int32} {Cl_firsts_2 : Nat → Int32} {Cl_lasts_2 : Nat → Int32} {o : Int32 × (Nat → Int32) × (Nat → Int32) × (Nat → Int32) × (Nat → Int32) × (Nat → Int32)} {Q : Rs → va_W → Prop} (h : f_Cl_copyFrom Cl_count Cl_tellers Cl_kinds Cl_events Cl_firsts Cl_lasts Cl_count_2 Cl_tellers_2 Cl_kinds_2 Cl_events_2 Cl_firsts_2 Cl_lasts_2 = some o) (hq : Q (.inl (none)) (wlX g ad x0 x1 x2 x3 x4 o.1 o.2.1 o.2.2.1 o.2.2.2.1 o.2.2.2.2.1 o.2.2.2.2.2 x11 x12 x13 x14 x15 x16 x17 x18 x19 x20 x21 x22 x23 x24 x25 x26 x27 x28 x29 x30 x31 x32 x33 x34 x35 x36 x37 x38 x39 x40 Cl_count_2 Cl_tellers_2 Cl_kinds_2 Cl_events_2 Cl_firsts_2 Cl_lasts_2 x47 x48 x49 x50 x51 x52 x53 x54 x55 x56 x57 x58 x59 x60 x61 x62 x63 x64 x65 x66 x67 ++ t)) : R g mX0_copyFrom 3 0 0 0 [(0, .ref (ad 4)), (1, .ref (ad 45))] [] (wlX g ad x0 x1 x2 x3 x4 Cl_count Cl_tellers Cl_kinds Cl_events Cl_firsts Cl_lasts x11 x12 x13 x14 x15 x16 x17 x18 x19 x20 x21 x22 x23 x24 x25 x26 x27 x28 x29 x30 x31 x32 x33 x34 x35 x36 x37 x38 x39 x40 Cl_count_2 Cl_tellers_2 Cl_kinds_2 Cl_events_2 Cl_firsts_2 Cl_lasts_2 x47 x48 x49 x50 x51 x52 x53 x54 x55 x56 x57 x58 x59 x60 x61 x62 x63 x64 x65 x66 x67 ++ t) Q := by
  unfold f_Cl_copyFrom at h
  refine r_aload_n 0 dX0_copyFrom_0 rfl ?_
  refine r_getf (v := .ref (ad 5)) _ dX0_copyFrom_1 fl_X0_14 lX_4 rfl ?_
  refine r_aload_n 1 dX0_copyFrom_4 rfl ?_
  refine r_getf (v := .ref (ad 46)) _ dX0_copyFrom_5 fl_X0_14 lX_45 rfl ?_
  refine c_Vv (rest := []) 0 0 _ dX0_copyFrom_8 kv_X0_36 (ct_Row_copyFrom lX_5 lX_6 lX_46 lX_47 (by decide) (sX_6 _) (Nat.le_of_ble_eq_true rfl) (Nat.le_of_ble_eq_true rfl)) rfl rfl lX_5 rfl (Nat.le_of_ble_eq_true rfl) (by decide) (by decide) ?_
  refine r_aload_n 0 dX0_copyFrom_11 rfl ?_
  refine r_getf (v := .ref (ad 7)) _ dX0_copyFrom_12 fl_X0_20 lX_4 rfl ?_
  refine r_aload_n 1 dX0_copyFrom_15 rfl ?_
  refine r_getf (v := .ref (ad 48)) _ dX0_copyFrom_16 fl_X0_20 lX_45 rfl ?_
  refine c_Vv (rest := []) 0 0 _ dX0_copyFrom_19 kv_X0_36 (ct_Row_copyFrom lX_7 lX_8 lX_48 lX_49 (by decide) (sX_7 _) (Nat.le_of_ble_eq_true rfl) (Nat.le_of_ble_eq_true rfl)) rfl rfl lX_7 rfl (Nat.le_of_ble_eq_true rfl) (by decide) (by decide) ?_
  refine r_aload_n 0 dX0_copyFrom_22 rfl ?_
  refine r_getf (v := .ref (ad 9)) _ dX0_copyFrom_23 fl_X0_23 lX_4 rfl ?_
  refine r_aload_n 1 dX0_copyFrom_26 rfl ?_
  refine r_getf (v := .ref (ad 50)) _ dX0_copyFrom_27 fl_X0_23 lX_45 rfl ?_
  refine c_Vv (rest := []) 0 0 _ dX0_copyFrom_30 kv_X0_36 (ct_Row_copyFrom lX_9 lX_10 lX_50 lX_51 (by decide) (sX_8 _) (Nat.le_of_ble_eq_true rfl) (Nat.le_of_ble_eq_true rfl)) rfl rfl lX_9 rfl (Nat.le_of_ble_eq_true rfl) (by decide) (by decide) ?_
  refine r_aload_n 0 dX0_copyFrom_33 rfl ?_
  refine r_getf (v := .ref (ad 11)) _ dX0_copyFrom_34 fl_X0_26 lX_4 rfl ?_
  refine r_aload_n 1 dX0_copyFrom_37 rfl ?_
  refine r_getf (v := .ref (ad 52)) _ dX0_copyFrom_38 fl_X0_26 lX_45 rfl ?_
  refine c_Vv (rest := []) 0 0 _ dX0_copyFrom_41 kv_X0_36 (ct_Row_copyFrom lX_11 lX_12 lX_52 lX_53 (by decide) (sX_9 _) (Nat.le_of_ble_eq_true rfl) (Nat.le_of_ble_eq_true rfl)) rfl rfl lX_11 rfl (Nat.le_of_ble_eq_true rfl) (by decide) (by decide) ?_
  refine r_aload_n 0 dX0_copyFrom_44 rfl ?_
  refine r_getf (v := .ref (ad 13)) _ dX0_copyFrom_45 fl_X0_29 lX_4 rfl ?_
  refine r_aload_n 1 dX0_copyFrom_48 rfl ?_
  refine r_getf (v := .ref (ad 54)) _ dX0_copyFrom_49 fl_X0_29 lX_45 rfl ?_
  refine c_Vv (rest := []) 0 0 _ dX0_copyFrom_52 kv_X0_36 (ct_Row_copyFrom lX_13 lX_14 lX_54 lX_55 (by decide) (sX_10 _) (Nat.le_of_ble_eq_true rfl) (Nat.le_of_ble_eq_true rfl)) rfl rfl lX_13 rfl (Nat.le_of_ble_eq_true rfl) (by decide) (by decide) ?_
  refine r_aload_n 0 dX0_copyFrom_55 rfl ?_
  refine r_aload_n 1 dX0_copyFrom_56 rfl ?_
  refine r_getf (v := .int Cl_count_2) _ dX0_copyFrom_57 fl_X0_32 lX_45 rfl ?_
  refine r_putf _ dX0_copyFrom_60 fl_X0_32 lX_4 (Nat.le_of_ble_eq_true rfl) rfl rfl (sX_5 _) ?_
  refine r_vret dX0_copyFrom_63 rfl ?_
  have h := Option.some.inj (show some _ = some o from h)
  subst h
  exact hq
theorem ct_Cl_copyFrom {g : GG} {ad : Nat → Nat} {t : va_W} {x0 x1 x3 x4 x11 x12 x18 x19 x20 x24 x25 x26 x27 x28 x29 x30 x31 x37 x39 x40 x47 x48 x54 x56 x58 x59 x60 x61 x63 x64 x65 x66 : Int32} {x2 x13 x14 x15 x16 x17 x21 x22 x23 x33 x34 x35 x49 x50 x51 x52 x53 x62 x67 : Nat → Int32} {x32 : Int64} {x36 x38 x55 x57 : Nat → Int64} {Cl_count : Int32} {Cl_tellers : Nat → Int32} {Cl_kinds : Nat → Int32} {Cl_events : Nat → Int32} {Cl_firsts : Nat → Int32} {Cl_lasts : Nat → Int32} {Cl_count_2 : Int32} {Cl_tellers_2 : Nat → Int32} {Cl_kinds_2 : Nat → Int32} {Cl_events_2 : Nat → Int32} {Cl_firsts_2 : Nat → Int32} {Cl_lasts_2 : Nat → Int32} {o : Int32 × (Nat → Int32) × (Nat → Int32) × (Nat → Int32) × (Nat → Int32) × (Nat → Int32)} (h : f_Cl_copyFrom Cl_count Cl_tellers Cl_kinds Cl_events Cl_firsts Cl_lasts Cl_count_2 Cl_tellers_2 Cl_kinds_2 Cl_events_2 Cl_firsts_2 Cl_lasts_2 = some o) : Ct g mX0_copyFrom 3 0 0 [.ref (ad 4), .ref (ad 45)] (wlX g ad x0 x1 x2 x3 x4 Cl_count Cl_tellers Cl_kinds Cl_events Cl_firsts Cl_lasts x11 x12 x13 x14 x15 x16 x17 x18 x19 x20 x21 x22 x23 x24 x25 x26 x27 x28 x29 x30 x31 x32 x33 x34 x35 x36 x37 x38 x39 x40 Cl_count_2 Cl_tellers_2 Cl_kinds_2 Cl_events_2 Cl_firsts_2 Cl_lasts_2 x47 x48 x49 x50 x51 x52 x53 x54 x55 x56 x57 x58 x59 x60 x61 x62 x63 x64 x65 x66 x67 ++ t) (Dv (none) (wlX g ad x0 x1 x2 x3 x4 o.1 o.2.1 o.2.2.1 o.2.2.2.1 o.2.2.2.2.1 o.2.2.2.2.2 x11 x12 x13 x14 x15 x16 x17 x18 x19 x20 x21 x22 x23 x24 x25 x26 x27 x28 x29 x30 x31 x32 x33 x34 x35 x36 x37 x38 x39 x40 Cl_count_2 Cl_tellers_2 Cl_kinds_2 Cl_events_2 Cl_firsts_2 Cl_lasts_2 x47 x48 x49 x50 x51 x52 x53 x54 x55 x56 x57 x58 x59 x60 x61 x62 x63 x64 x65 x66 x67 ++ t)) := Ct.ofR (by decide +kernel) rfl (Nat.le_of_ble_eq_true rfl) (rt_Cl_copyFrom h ⟨rfl, rfl⟩)
set_option maxRecDepth 20000 in
set_option maxHeartbeats 4000000 in
theorem rt_Or_copyFrom {g : GG} {ad : Nat → Nat} {t : va_W} {x0 x1 x3 x4 x5 x18 x19 x20 x24 x25 x26 x27 x28 x29 x30 x31 x37 x39 x40 x41 x54 x56 x58 x59 x60 x61 x63 x64 x65 x66 : Int32} {x2 x6 x7 x8 x9 x10 x21 x22 x23 x33 x34 x35 x42 x43 x44 x45 x46 x62 x67 : Nat → Int32} {x32 : Int64} {x36 x38 x55 x57 : Nat → Int64} {Or_count : Int32} {Or_stepCount : Int32} {Or_doubts : Nat → Int32} {Or_tellers : Nat → Int32} {Or_ends : Nat → Int32} {Or_stepKinds : Nat → Int32} {Or_stepParts : Nat → Int32} {Or_count_2 : Int32} {Or_stepCount_2 : Int32} {Or_doubts_2 : Nat → Int32} {Or_tellers_2 : Nat → Int32} {Or_ends_2 : Nat → Int32} {Or_stepKinds_2 : Nat → Int32} {Or_stepParts_2 : Nat → Int32} {o : Int32 × Int32 × (Nat → Int32) × (Nat → Int32) × (Nat → Int32) × (Nat → Int32) × (Nat → Int32)} {Q : Rs → va_W → Prop} (h : f_Or_copyFrom Or_count Or_stepCount Or_doubts Or_tellers Or_ends Or_stepKinds Or_stepParts Or_count_2 Or_stepCount_2 Or_doubts_2 Or_tellers_2 Or_ends_2 Or_stepKinds_2 Or_stepParts_2 = some o) (hq : Q (.inl (none)) (wlX g ad x0 x1 x2 x3 x4 x5 x6 x7 x8 x9 x10 o.1 o.2.1 o.2.2.1 o.2.2.2.1 o.2.2.2.2.1 o.2.2.2.2.2.1 o.2.2.2.2.2.2 x18 x19 x20 x21 x22 x23 x24 x25 x26 x27 x28 x29 x30 x31 x32 x33 x34 x35 x36 x37 x38 x39 x40 x41 x42 x43 x44 x45 x46 Or_count_2 Or_stepCount_2 Or_doubts_2 Or_tellers_2 Or_ends_2 Or_stepKinds_2 Or_stepParts_2 x54 x55 x56 x57 x58 x59 x60 x61 x62 x63 x64 x65 x66 x67 ++ t)) : R g mX3_copyFrom 3 0 0 0 [(0, .ref (ad 15)), (1, .ref (ad 56))] [] (wlX g ad x0 x1 x2 x3 x4 x5 x6 x7 x8 x9 x10 Or_count Or_stepCount Or_doubts Or_tellers Or_ends Or_stepKinds Or_stepParts x18 x19 x20 x21 x22 x23 x24 x25 x26 x27 x28 x29 x30 x31 x32 x33 x34 x35 x36 x37 x38 x39 x40 x41 x42 x43 x44 x45 x46 Or_count_2 Or_stepCount_2 Or_doubts_2 Or_tellers_2 Or_ends_2 Or_stepKinds_2 Or_stepParts_2 x54 x55 x56 x57 x58 x59 x60 x61 x62 x63 x64 x65 x66 x67 ++ t) Q := by
  unfold f_Or_copyFrom at h
  refine r_aload_n 0 dX3_copyFrom_0 rfl ?_
  refine r_getf (v := .ref (ad 16)) _ dX3_copyFrom_1 fl_X3_14 lX_15 rfl ?_
  refine r_aload_n 1 dX3_copyFrom_4 rfl ?_
  refine r_getf (v := .ref (ad 57)) _ dX3_copyFrom_5 fl_X3_14 lX_56 rfl ?_
  refine c_Vv (rest := []) 0 0 _ dX3_copyFrom_8 kv_X3_39 (ct_Row_copyFrom lX_16 lX_17 lX_57 lX_58 (by decide) (sX_13 _) (Nat.le_of_ble_eq_true rfl) (Nat.le_of_ble_eq_true rfl)) rfl rfl lX_16 rfl (Nat.le_of_ble_eq_true rfl) (by decide) (by decide) ?_
  refine r_aload_n 0 dX3_copyFrom_11 rfl ?_
  refine r_getf (v := .ref (ad 18)) _ dX3_copyFrom_12 fl_X3_20 lX_15 rfl ?_
  refine r_aload_n 1 dX3_copyFrom_15 rfl ?_
  refine r_getf (v := .ref (ad 59)) _ dX3_copyFrom_16 fl_X3_20 lX_56 rfl ?_
  refine c_Vv (rest := []) 0 0 _ dX3_copyFrom_19 kv_X3_39 (ct_Row_copyFrom lX_18 lX_19 lX_59 lX_60 (by decide) (sX_14 _) (Nat.le_of_ble_eq_true rfl) (Nat.le_of_ble_eq_true rfl)) rfl rfl lX_18 rfl (Nat.le_of_ble_eq_true rfl) (by decide) (by decide) ?_
  refine r_aload_n 0 dX3_copyFrom_22 rfl ?_
  refine r_getf (v := .ref (ad 20)) _ dX3_copyFrom_23 fl_X3_23 lX_15 rfl ?_
  refine r_aload_n 1 dX3_copyFrom_26 rfl ?_
  refine r_getf (v := .ref (ad 61)) _ dX3_copyFrom_27 fl_X3_23 lX_56 rfl ?_
  refine c_Vv (rest := []) 0 0 _ dX3_copyFrom_30 kv_X3_39 (ct_Row_copyFrom lX_20 lX_21 lX_61 lX_62 (by decide) (sX_15 _) (Nat.le_of_ble_eq_true rfl) (Nat.le_of_ble_eq_true rfl)) rfl rfl lX_20 rfl (Nat.le_of_ble_eq_true rfl) (by decide) (by decide) ?_
  refine r_aload_n 0 dX3_copyFrom_33 rfl ?_
  refine r_getf (v := .ref (ad 22)) _ dX3_copyFrom_34 fl_X3_26 lX_15 rfl ?_
  refine r_aload_n 1 dX3_copyFrom_37 rfl ?_
  refine r_getf (v := .ref (ad 63)) _ dX3_copyFrom_38 fl_X3_26 lX_56 rfl ?_
  refine c_Vv (rest := []) 0 0 _ dX3_copyFrom_41 kv_X3_39 (ct_Row_copyFrom lX_22 lX_23 lX_63 lX_64 (by decide) (sX_16 _) (Nat.le_of_ble_eq_true rfl) (Nat.le_of_ble_eq_true rfl)) rfl rfl lX_22 rfl (Nat.le_of_ble_eq_true rfl) (by decide) (by decide) ?_
  refine r_aload_n 0 dX3_copyFrom_44 rfl ?_
  refine r_getf (v := .ref (ad 24)) _ dX3_copyFrom_45 fl_X3_29 lX_15 rfl ?_
  refine r_aload_n 1 dX3_copyFrom_48 rfl ?_
  refine r_getf (v := .ref (ad 65)) _ dX3_copyFrom_49 fl_X3_29 lX_56 rfl ?_
  refine c_Vv (rest := []) 0 0 _ dX3_copyFrom_52 kv_X3_39 (ct_Row_copyFrom lX_24 lX_25 lX_65 lX_66 (by decide) (sX_17 _) (Nat.le_of_ble_eq_true rfl) (Nat.le_of_ble_eq_true rfl)) rfl rfl lX_24 rfl (Nat.le_of_ble_eq_true rfl) (by decide) (by decide) ?_
  refine r_aload_n 0 dX3_copyFrom_55 rfl ?_
  refine r_aload_n 1 dX3_copyFrom_56 rfl ?_
  refine r_getf (v := .int Or_count_2) _ dX3_copyFrom_57 fl_X3_32 lX_56 rfl ?_
  refine r_putf _ dX3_copyFrom_60 fl_X3_32 lX_15 (Nat.le_of_ble_eq_true rfl) rfl rfl (sX_11 _) ?_
  refine r_aload_n 0 dX3_copyFrom_63 rfl ?_
  refine r_aload_n 1 dX3_copyFrom_64 rfl ?_
  refine r_getf (v := .int Or_stepCount_2) _ dX3_copyFrom_65 fl_X3_36 lX_56 rfl ?_
  refine r_putf _ dX3_copyFrom_68 fl_X3_36 lX_15 (Nat.le_of_ble_eq_true rfl) rfl rfl (sX_12 _) ?_
  refine r_vret dX3_copyFrom_71 rfl ?_
  have h := Option.some.inj (show some _ = some o from h)
  subst h
  exact hq
theorem ct_Or_copyFrom {g : GG} {ad : Nat → Nat} {t : va_W} {x0 x1 x3 x4 x5 x18 x19 x20 x24 x25 x26 x27 x28 x29 x30 x31 x37 x39 x40 x41 x54 x56 x58 x59 x60 x61 x63 x64 x65 x66 : Int32} {x2 x6 x7 x8 x9 x10 x21 x22 x23 x33 x34 x35 x42 x43 x44 x45 x46 x62 x67 : Nat → Int32} {x32 : Int64} {x36 x38 x55 x57 : Nat → Int64} {Or_count : Int32} {Or_stepCount : Int32} {Or_doubts : Nat → Int32} {Or_tellers : Nat → Int32} {Or_ends : Nat → Int32} {Or_stepKinds : Nat → Int32} {Or_stepParts : Nat → Int32} {Or_count_2 : Int32} {Or_stepCount_2 : Int32} {Or_doubts_2 : Nat → Int32} {Or_tellers_2 : Nat → Int32} {Or_ends_2 : Nat → Int32} {Or_stepKinds_2 : Nat → Int32} {Or_stepParts_2 : Nat → Int32} {o : Int32 × Int32 × (Nat → Int32) × (Nat → Int32) × (Nat → Int32) × (Nat → Int32) × (Nat → Int32)} (h : f_Or_copyFrom Or_count Or_stepCount Or_doubts Or_tellers Or_ends Or_stepKinds Or_stepParts Or_count_2 Or_stepCount_2 Or_doubts_2 Or_tellers_2 Or_ends_2 Or_stepKinds_2 Or_stepParts_2 = some o) : Ct g mX3_copyFrom 3 0 0 [.ref (ad 15), .ref (ad 56)] (wlX g ad x0 x1 x2 x3 x4 x5 x6 x7 x8 x9 x10 Or_count Or_stepCount Or_doubts Or_tellers Or_ends Or_stepKinds Or_stepParts x18 x19 x20 x21 x22 x23 x24 x25 x26 x27 x28 x29 x30 x31 x32 x33 x34 x35 x36 x37 x38 x39 x40 x41 x42 x43 x44 x45 x46 Or_count_2 Or_stepCount_2 Or_doubts_2 Or_tellers_2 Or_ends_2 Or_stepKinds_2 Or_stepParts_2 x54 x55 x56 x57 x58 x59 x60 x61 x62 x63 x64 x65 x66 x67 ++ t) (Dv (none) (wlX g ad x0 x1 x2 x3 x4 x5 x6 x7 x8 x9 x10 o.1 o.2.1 o.2.2.1 o.2.2.2.1 o.2.2.2.2.1 o.2.2.2.2.2.1 o.2.2.2.2.2.2 x18 x19 x20 x21 x22 x23 x24 x25 x26 x27 x28 x29 x30 x31 x32 x33 x34 x35 x36 x37 x38 x39 x40 x41 x42 x43 x44 x45 x46 Or_count_2 Or_stepCount_2 Or_doubts_2 Or_tellers_2 Or_ends_2 Or_stepKinds_2 Or_stepParts_2 x54 x55 x56 x57 x58 x59 x60 x61 x62 x63 x64 x65 x66 x67 ++ t)) := Ct.ofR (by decide +kernel) rfl (Nat.le_of_ble_eq_true rfl) (rt_Or_copyFrom h ⟨rfl, rfl⟩)
set_option maxRecDepth 20000 in
set_option maxHeartbeats 4000000 in
theorem rt_Tap_copyFrom {g : GG} {ad : Nat → Nat} {t : va_W} {x0 x1 x18 x19 x20 x24 x25 x26 x27 x28 x29 x30 x31 x37 x54 x56 x58 x59 x60 x61 x63 x64 x65 x66 : Int32} {x2 x21 x22 x23 x33 x34 x35 x62 x67 : Nat → Int32} {x32 : Int64} {x36 x38 x55 x57 : Nat → Int64} {Tap_eventCount : Int32} {Tap_tellerCount : Int32} {Cl_count : Int32} {Cl_tellers : Nat → Int32} {Cl_kinds : Nat → Int32} {Cl_events : Nat → Int32} {Cl_firsts : Nat → Int32} {Cl_lasts : Nat → Int32} {Or_count : Int32} {Or_stepCount : Int32} {Or_doubts : Nat → Int32} {Or_tellers : Nat → Int32} {Or_ends : Nat → Int32} {Or_stepKinds : Nat → Int32} {Or_stepParts : Nat → Int32} {Tap_eventCount_2 : Int32} {Tap_tellerCount_2 : Int32} {Cl_count_2 : Int32} {Cl_tellers_2 : Nat → Int32} {Cl_kinds_2 : Nat → Int32} {Cl_events_2 : Nat → Int32} {Cl_firsts_2 : Nat → Int32} {Cl_lasts_2 : Nat → Int32} {Or_count_2 : Int32} {Or_stepCount_2 : Int32} {Or_doubts_2 : Nat → Int32} {Or_tellers_2 : Nat → Int32} {Or_ends_2 : Nat → Int32} {Or_stepKinds_2 : Nat → Int32} {Or_stepParts_2 : Nat → Int32} {o : Int32 × Int32 × Int32 × (Nat → Int32) × (Nat → Int32) × (Nat → Int32) × (Nat → Int32) × (Nat → Int32) × Int32 × Int32 × (Nat → Int32) × (Nat → Int32) × (Nat → Int32) × (Nat → Int32) × (Nat → Int32)} {Q : Rs → va_W → Prop} (h : f_Tap_copyFrom Tap_eventCount Tap_tellerCount Cl_count Cl_tellers Cl_kinds Cl_events Cl_firsts Cl_lasts Or_count Or_stepCount Or_doubts Or_tellers Or_ends Or_stepKinds Or_stepParts Tap_eventCount_2 Tap_tellerCount_2 Cl_count_2 Cl_tellers_2 Cl_kinds_2 Cl_events_2 Cl_firsts_2 Cl_lasts_2 Or_count_2 Or_stepCount_2 Or_doubts_2 Or_tellers_2 Or_ends_2 Or_stepKinds_2 Or_stepParts_2 = some o) (hq : Q (.inl (none)) (wlX g ad x0 x1 x2 o.1 o.2.1 o.2.2.1 o.2.2.2.1 o.2.2.2.2.1 o.2.2.2.2.2.1 o.2.2.2.2.2.2.1 o.2.2.2.2.2.2.2.1 o.2.2.2.2.2.2.2.2.1 o.2.2.2.2.2.2.2.2.2.1 o.2.2.2.2.2.2.2.2.2.2.1 o.2.2.2.2.2.2.2.2.2.2.2.1 o.2.2.2.2.2.2.2.2.2.2.2.2.1 o.2.2.2.2.2.2.2.2.2.2.2.2.2.1 o.2.2.2.2.2.2.2.2.2.2.2.2.2.2 x18 x19 x20 x21 x22 x23 x24 x25 x26 x27 x28 x29 x30 x31 x32 x33 x34 x35 x36 x37 x38 Tap_eventCount_2 Tap_tellerCount_2 Cl_count_2 Cl_tellers_2 Cl_kinds_2 Cl_events_2 Cl_firsts_2 Cl_lasts_2 Or_count_2 Or_stepCount_2 Or_doubts_2 Or_tellers_2 Or_ends_2 Or_stepKinds_2 Or_stepParts_2 x54 x55 x56 x57 x58 x59 x60 x61 x62 x63 x64 x65 x66 x67 ++ t)) : R g mX6_copyFrom 4 0 0 0 [(0, .ref (ad 3)), (1, .ref (ad 44))] [] (wlX g ad x0 x1 x2 Tap_eventCount Tap_tellerCount Cl_count Cl_tellers Cl_kinds Cl_events Cl_firsts Cl_lasts Or_count Or_stepCount Or_doubts Or_tellers Or_ends Or_stepKinds Or_stepParts x18 x19 x20 x21 x22 x23 x24 x25 x26 x27 x28 x29 x30 x31 x32 x33 x34 x35 x36 x37 x38 Tap_eventCount_2 Tap_tellerCount_2 Cl_count_2 Cl_tellers_2 Cl_kinds_2 Cl_events_2 Cl_firsts_2 Cl_lasts_2 Or_count_2 Or_stepCount_2 Or_doubts_2 Or_tellers_2 Or_ends_2 Or_stepKinds_2 Or_stepParts_2 x54 x55 x56 x57 x58 x59 x60 x61 x62 x63 x64 x65 x66 x67 ++ t) Q := by
  unfold f_Tap_copyFrom at h
  refine r_aload_n 0 dX6_copyFrom_0 rfl ?_
  refine r_getf (v := .ref (ad 4)) _ dX6_copyFrom_1 fl_X6_10 lX_3 rfl ?_
  refine r_aload_n 1 dX6_copyFrom_4 rfl ?_
  refine r_getf (v := .ref (ad 45)) _ dX6_copyFrom_5 fl_X6_10 lX_44 rfl ?_
  obtain ⟨r652, hc653, h⟩ := ob (fun z9 => z9) rfl h
  refine c_Vv (rest := []) 0 0 _ dX6_copyFrom_8 kv_X6_37 (ct_Cl_copyFrom hc653) rfl rfl lX_4 rfl (Nat.le_of_ble_eq_true rfl) (by decide) (by decide) ?_
  refine r_aload_n 0 dX6_copyFrom_11 rfl ?_
  refine r_getf (v := .ref (ad 15)) _ dX6_copyFrom_12 fl_X6_19 lX_3 rfl ?_
  refine r_aload_n 1 dX6_copyFrom_15 rfl ?_
  refine r_getf (v := .ref (ad 56)) _ dX6_copyFrom_16 fl_X6_19 lX_44 rfl ?_
  obtain ⟨r654, hc655, h⟩ := ob (fun z9 => z9) rfl h
  refine c_Vv (rest := []) 0 0 _ dX6_copyFrom_19 kv_X6_41 (ct_Or_copyFrom hc655) rfl rfl lX_15 rfl (Nat.le_of_ble_eq_true rfl) (by decide) (by decide) ?_
  refine r_aload_n 0 dX6_copyFrom_22 rfl ?_
  refine r_aload_n 1 dX6_copyFrom_23 rfl ?_
  refine r_getf (v := .int Tap_eventCount_2) _ dX6_copyFrom_24 fl_X6_31 lX_44 rfl ?_
  refine r_putf _ dX6_copyFrom_27 fl_X6_31 lX_3 (Nat.le_of_ble_eq_true rfl) rfl rfl (sX_3 _) ?_
  refine r_aload_n 0 dX6_copyFrom_30 rfl ?_
  refine r_aload_n 1 dX6_copyFrom_31 rfl ?_
  refine r_getf (v := .int Tap_tellerCount_2) _ dX6_copyFrom_32 fl_X6_34 lX_44 rfl ?_
  refine r_putf _ dX6_copyFrom_35 fl_X6_34 lX_3 (Nat.le_of_ble_eq_true rfl) rfl rfl (sX_4 _) ?_
  refine r_vret dX6_copyFrom_38 rfl ?_
  have h := Option.some.inj (show some _ = some o from h)
  subst h
  exact hq
theorem ct_Tap_copyFrom {g : GG} {ad : Nat → Nat} {t : va_W} {x0 x1 x18 x19 x20 x24 x25 x26 x27 x28 x29 x30 x31 x37 x54 x56 x58 x59 x60 x61 x63 x64 x65 x66 : Int32} {x2 x21 x22 x23 x33 x34 x35 x62 x67 : Nat → Int32} {x32 : Int64} {x36 x38 x55 x57 : Nat → Int64} {Tap_eventCount : Int32} {Tap_tellerCount : Int32} {Cl_count : Int32} {Cl_tellers : Nat → Int32} {Cl_kinds : Nat → Int32} {Cl_events : Nat → Int32} {Cl_firsts : Nat → Int32} {Cl_lasts : Nat → Int32} {Or_count : Int32} {Or_stepCount : Int32} {Or_doubts : Nat → Int32} {Or_tellers : Nat → Int32} {Or_ends : Nat → Int32} {Or_stepKinds : Nat → Int32} {Or_stepParts : Nat → Int32} {Tap_eventCount_2 : Int32} {Tap_tellerCount_2 : Int32} {Cl_count_2 : Int32} {Cl_tellers_2 : Nat → Int32} {Cl_kinds_2 : Nat → Int32} {Cl_events_2 : Nat → Int32} {Cl_firsts_2 : Nat → Int32} {Cl_lasts_2 : Nat → Int32} {Or_count_2 : Int32} {Or_stepCount_2 : Int32} {Or_doubts_2 : Nat → Int32} {Or_tellers_2 : Nat → Int32} {Or_ends_2 : Nat → Int32} {Or_stepKinds_2 : Nat → Int32} {Or_stepParts_2 : Nat → Int32} {o : Int32 × Int32 × Int32 × (Nat → Int32) × (Nat → Int32) × (Nat → Int32) × (Nat → Int32) × (Nat → Int32) × Int32 × Int32 × (Nat → Int32) × (Nat → Int32) × (Nat → Int32) × (Nat → Int32) × (Nat → Int32)} (h : f_Tap_copyFrom Tap_eventCount Tap_tellerCount Cl_count Cl_tellers Cl_kinds Cl_events Cl_firsts Cl_lasts Or_count Or_stepCount Or_doubts Or_tellers Or_ends Or_stepKinds Or_stepParts Tap_eventCount_2 Tap_tellerCount_2 Cl_count_2 Cl_tellers_2 Cl_kinds_2 Cl_events_2 Cl_firsts_2 Cl_lasts_2 Or_count_2 Or_stepCount_2 Or_doubts_2 Or_tellers_2 Or_ends_2 Or_stepKinds_2 Or_stepParts_2 = some o) : Ct g mX6_copyFrom 4 0 0 [.ref (ad 3), .ref (ad 44)] (wlX g ad x0 x1 x2 Tap_eventCount Tap_tellerCount Cl_count Cl_tellers Cl_kinds Cl_events Cl_firsts Cl_lasts Or_count Or_stepCount Or_doubts Or_tellers Or_ends Or_stepKinds Or_stepParts x18 x19 x20 x21 x22 x23 x24 x25 x26 x27 x28 x29 x30 x31 x32 x33 x34 x35 x36 x37 x38 Tap_eventCount_2 Tap_tellerCount_2 Cl_count_2 Cl_tellers_2 Cl_kinds_2 Cl_events_2 Cl_firsts_2 Cl_lasts_2 Or_count_2 Or_stepCount_2 Or_doubts_2 Or_tellers_2 Or_ends_2 Or_stepKinds_2 Or_stepParts_2 x54 x55 x56 x57 x58 x59 x60 x61 x62 x63 x64 x65 x66 x67 ++ t) (Dv (none) (wlX g ad x0 x1 x2 o.1 o.2.1 o.2.2.1 o.2.2.2.1 o.2.2.2.2.1 o.2.2.2.2.2.1 o.2.2.2.2.2.2.1 o.2.2.2.2.2.2.2.1 o.2.2.2.2.2.2.2.2.1 o.2.2.2.2.2.2.2.2.2.1 o.2.2.2.2.2.2.2.2.2.2.1 o.2.2.2.2.2.2.2.2.2.2.2.1 o.2.2.2.2.2.2.2.2.2.2.2.2.1 o.2.2.2.2.2.2.2.2.2.2.2.2.2.1 o.2.2.2.2.2.2.2.2.2.2.2.2.2.2 x18 x19 x20 x21 x22 x23 x24 x25 x26 x27 x28 x29 x30 x31 x32 x33 x34 x35 x36 x37 x38 Tap_eventCount_2 Tap_tellerCount_2 Cl_count_2 Cl_tellers_2 Cl_kinds_2 Cl_events_2 Cl_firsts_2 Cl_lasts_2 Or_count_2 Or_stepCount_2 Or_doubts_2 Or_tellers_2 Or_ends_2 Or_stepKinds_2 Or_stepParts_2 x54 x55 x56 x57 x58 x59 x60 x61 x62 x63 x64 x65 x66 x67 ++ t)) := Ct.ofR (by decide +kernel) rfl (Nat.le_of_ble_eq_true rfl) (rt_Tap_copyFrom h ⟨rfl, rfl⟩)
set_option maxRecDepth 20000 in
set_option maxHeartbeats 4000000 in
theorem rt_Cl_contradict {g : GG} {ad : Nat → Nat} {t : va_W} {x0 x1 x3 x4 x5 x11 x12 x18 x19 x20 x24 x25 x26 x27 x28 x29 x30 x31 x37 x39 x40 x41 x47 x48 x54 x56 x58 x59 x60 x61 x63 x64 x65 x66 : Int32} {x2 x6 x13 x14 x15 x16 x17 x21 x22 x23 x33 x34 x35 x42 x43 x44 x45 x46 x49 x50 x51 x52 x53 x62 x67 : Nat → Int32} {x32 : Int64} {x36 x38 x55 x57 : Nat → Int64} {Cl_kinds : Nat → Int32} {Cl_events : Nat → Int32} {Cl_firsts : Nat → Int32} {Cl_lasts : Nat → Int32} {p1 : Int32} {p2 : Int32} {o : Int32} {Q : Rs → va_W → Prop} (h : f_Cl_contradict Cl_kinds Cl_events Cl_firsts Cl_lasts p1 p2 = o) (hq : Q (.inl (some (.int o))) (wlX g ad x0 x1 x2 x3 x4 x5 x6 Cl_kinds Cl_events Cl_firsts Cl_lasts x11 x12 x13 x14 x15 x16 x17 x18 x19 x20 x21 x22 x23 x24 x25 x26 x27 x28 x29 x30 x31 x32 x33 x34 x35 x36 x37 x38 x39 x40 x41 x42 x43 x44 x45 x46 x47 x48 x49 x50 x51 x52 x53 x54 x55 x56 x57 x58 x59 x60 x61 x62 x63 x64 x65 x66 x67 ++ t)) : R g mX0_contradict 2 0 0 0 [(0, .ref (ad 4)), (1, .int p1), (2, .int p2)] [] (wlX g ad x0 x1 x2 x3 x4 x5 x6 Cl_kinds Cl_events Cl_firsts Cl_lasts x11 x12 x13 x14 x15 x16 x17 x18 x19 x20 x21 x22 x23 x24 x25 x26 x27 x28 x29 x30 x31 x32 x33 x34 x35 x36 x37 x38 x39 x40 x41 x42 x43 x44 x45 x46 x47 x48 x49 x50 x51 x52 x53 x54 x55 x56 x57 x58 x59 x60 x61 x62 x63 x64 x65 x66 x67 ++ t) Q := by
  unfold f_Cl_contradict at h
  refine r_aload_n 0 dX0_contradict_0 rfl ?_
  refine r_getf (v := .ref (ad 7)) _ dX0_contradict_1 fl_X0_20 lX_4 rfl ?_
  refine r_iload_n 1 dX0_contradict_4 rfl ?_
  refine c_V (rest := []) 0 0 _ dX0_contradict_5 kv_X0_48 (ct_Row_get lX_7 lX_8 (Nat.le_of_ble_eq_true rfl)) rfl rfl lX_7 rfl (Nat.le_of_ble_eq_true rfl) (by decide) (by decide) ?_
  refine r_istore_n [(3, .int (rget 40 Cl_kinds p1)), (0, .ref (ad 4)), (1, .int p1), (2, .int p2)] dX0_contradict_8 (by decide) rfl ?_
  refine r_aload_n 1 dX0_contradict_9 rfl ?_
  refine r_getf (v := .ref (ad 7)) _ dX0_contradict_10 fl_X0_20 lX_4 rfl ?_
  refine r_iload_n 3 dX0_contradict_13 rfl ?_
  refine c_V (rest := []) 0 0 _ dX0_contradict_14 kv_X0_48 (ct_Row_get lX_7 lX_8 (Nat.le_of_ble_eq_true rfl)) rfl rfl lX_7 rfl (Nat.le_of_ble_eq_true rfl) (by decide) (by decide) ?_
  refine r_istore [(4, .int (rget 40 Cl_kinds p2)), (3, .int (rget 40 Cl_kinds p1)), (0, .ref (ad 4)), (1, .int p1), (2, .int p2)] dX0_contradict_17 (by decide) rfl ?_
  refine r_iload_n 1 dX0_contradict_19 rfl ?_
  refine r_if_ne (tgt := 91) dX0_contradict_20 (by decide) (fun hc656 => ?_) (fun hc656 => ?_)
  · have h := iq (fun z9 => z9) hc656 h
    refine r_iload_n 1 dX0_contradict_91 rfl ?_
    refine r_if_eq (tgt := 100) dX0_contradict_92 (by decide) (fun hc657 => ?_) (fun hc657 => ?_)
    · have h := ip (fun z9 => z9) hc657 h
      refine r_iconst (v := (0 : Int32)) dX0_contradict_100 (by decide) ?_
      refine r_zret dX0_contradict_101 rfl (by decide) ?_
      have h : _ = o := h
      subst h
      exact hq
    · have h := iq (fun z9 => z9) hc657 h
      refine r_iload 0 dX0_contradict_95 rfl ?_
      refine r_if_ne (tgt := 102) dX0_contradict_97 (by decide) (fun hc658 => ?_) (fun hc658 => ?_)
      · have h := iq (fun z9 => z9) hc658 h
        refine r_aload_n 2 dX0_contradict_102 rfl ?_
        refine r_getf (v := .ref (ad 9)) _ dX0_contradict_103 fl_X0_23 lX_4 rfl ?_
        refine r_iload_n 3 dX0_contradict_106 rfl ?_
        refine c_V (rest := []) 0 0 _ dX0_contradict_107 kv_X0_48 (ct_Row_get lX_9 lX_10 (Nat.le_of_ble_eq_true rfl)) rfl rfl lX_9 rfl (Nat.le_of_ble_eq_true rfl) (by decide) (by decide) ?_
        refine r_aload_n 2 dX0_contradict_110 rfl ?_
        refine r_getf (v := .ref (ad 11)) _ dX0_contradict_111 fl_X0_26 lX_4 rfl ?_
        refine r_iload_n 4 dX0_contradict_114 rfl ?_
        refine c_V (rest := [.int (rget 40 Cl_events p1)]) 0 0 _ dX0_contradict_115 kv_X0_48 (ct_Row_get lX_11 lX_12 (Nat.le_of_ble_eq_true rfl)) rfl rfl lX_11 rfl (Nat.le_of_ble_eq_true rfl) (by decide) (by decide) ?_
        refine r_icmp_ne (tgt := 144) dX0_contradict_118 (by decide) (fun hc659 => ?_) (fun hc659 => ?_)
        · have h := iq (fun z9 => z9) hc659 h
          refine r_iconst (v := (0 : Int32)) dX0_contradict_144 (by decide) ?_
          refine r_istore [(5, .int (0 : Int32)), (4, .int (rget 40 Cl_kinds p2)), (3, .int (rget 40 Cl_kinds p1)), (0, .ref (ad 4)), (1, .int p1), (2, .int p2)] dX0_contradict_145 (by decide) rfl ?_
          refine r_aload_n 3 dX0_contradict_147 rfl ?_
          refine r_getf (v := .ref (ad 9)) _ dX0_contradict_148 fl_X0_23 lX_4 rfl ?_
          refine r_iload_n 4 dX0_contradict_151 rfl ?_
          refine c_V (rest := []) 0 0 _ dX0_contradict_152 kv_X0_48 (ct_Row_get lX_9 lX_10 (Nat.le_of_ble_eq_true rfl)) rfl rfl lX_9 rfl (Nat.le_of_ble_eq_true rfl) (by decide) (by decide) ?_
          refine r_aload_n 3 dX0_contradict_155 rfl ?_
          refine r_getf (v := .ref (ad 9)) _ dX0_contradict_156 fl_X0_23 lX_4 rfl ?_
          refine r_iload_n 5 dX0_contradict_159 rfl ?_
          refine c_V (rest := [.int (rget 40 Cl_events p1)]) 0 0 _ dX0_contradict_160 kv_X0_48 (ct_Row_get lX_9 lX_10 (Nat.le_of_ble_eq_true rfl)) rfl rfl lX_9 rfl (Nat.le_of_ble_eq_true rfl) (by decide) (by decide) ?_
          refine r_icmp_ne (tgt := 189) dX0_contradict_163 (by decide) (fun hc660 => ?_) (fun hc660 => ?_)
          · have h := iq (fun z9 => z9) hc660 h
            refine r_iconst (v := (0 : Int32)) dX0_contradict_189 (by decide) ?_
            refine r_istore [(6, .int (0 : Int32)), (5, .int (0 : Int32)), (4, .int (rget 40 Cl_kinds p2)), (3, .int (rget 40 Cl_kinds p1)), (0, .ref (ad 4)), (1, .int p1), (2, .int p2)] dX0_contradict_190 (by decide) rfl ?_
            refine r_iload_n 3 dX0_contradict_192 rfl ?_
            refine r_iconst (v := (1 : Int32)) dX0_contradict_193 (by decide) ?_
            refine r_icmp_ne (tgt := 206) dX0_contradict_194 (by decide) (fun hc661 => ?_) (fun hc661 => ?_)
            · have h := iq (fun z9 => z9) hc661 h
              refine r_iload_n 3 dX0_contradict_206 rfl ?_
              refine r_iload 2 dX0_contradict_207 rfl ?_
              refine r_icmp_eq (tgt := 226) dX0_contradict_209 (by decide) (fun hc662 => ?_) (fun hc662 => ?_)
              · have h := ip (fun z9 => z9) hc662 h
                refine r_iconst (v := (0 : Int32)) dX0_contradict_226 (by decide) ?_
                refine r_zret dX0_contradict_227 rfl (by decide) ?_
                have h : _ = o := h
                subst h
                exact hq
              · have h := iq (fun z9 => z9) hc662 h
                refine r_iload 1 dX0_contradict_212 rfl ?_
                refine r_if_ne (tgt := 222) dX0_contradict_214 (by decide) (fun hc => absurd hc (by decide)) (fun _ => ?_)
                refine r_iload 0 dX0_contradict_217 rfl ?_
                refine r_if_eq (tgt := 226) dX0_contradict_219 (by decide) (fun _ => ?_) (fun hc => absurd hc (by decide))
                refine r_iconst (v := (0 : Int32)) dX0_contradict_226 (by decide) ?_
                refine r_zret dX0_contradict_227 rfl (by decide) ?_
                have h : _ = o := h
                subst h
                exact hq
            · have h := ip (fun z9 => z9) hc661 h
              refine r_iload 2 dX0_contradict_197 rfl ?_
              refine r_iconst (v := (1 : Int32)) dX0_contradict_199 (by decide) ?_
              refine r_icmp_ne (tgt := 206) dX0_contradict_200 (by decide) (fun hc663 => ?_) (fun hc663 => ?_)
              · have h := iq (fun z9 => z9) hc663 h
                refine r_iload_n 3 dX0_contradict_206 rfl ?_
                refine r_iload 2 dX0_contradict_207 rfl ?_
                refine r_icmp_eq (tgt := 226) dX0_contradict_209 (by decide) (fun hc664 => ?_) (fun hc664 => ?_)
                · have h := ip (fun z9 => z9) hc664 h
                  refine r_iconst (v := (0 : Int32)) dX0_contradict_226 (by decide) ?_
                  refine r_zret dX0_contradict_227 rfl (by decide) ?_
                  have h : _ = o := h
                  subst h
                  exact hq
                · have h := iq (fun z9 => z9) hc664 h
                  refine r_iload 1 dX0_contradict_212 rfl ?_
                  refine r_if_ne (tgt := 222) dX0_contradict_214 (by decide) (fun hc => absurd hc (by decide)) (fun _ => ?_)
                  refine r_iload 0 dX0_contradict_217 rfl ?_
                  refine r_if_eq (tgt := 226) dX0_contradict_219 (by decide) (fun _ => ?_) (fun hc => absurd hc (by decide))
                  refine r_iconst (v := (0 : Int32)) dX0_contradict_226 (by decide) ?_
                  refine r_zret dX0_contradict_227 rfl (by decide) ?_
                  have h : _ = o := h
                  subst h
                  exact hq
              · have h := ip (fun z9 => z9) hc663 h
                refine r_iload 1 dX0_contradict_203 rfl ?_
                refine r_zret dX0_contradict_205 rfl (by decide) ?_
                have h : _ = o := h
                subst h
                exact hq
          · have h := ip (fun z9 => z9) hc660 h
            refine r_aload_n 3 dX0_contradict_166 rfl ?_
            refine r_getf (v := .ref (ad 11)) _ dX0_contradict_167 fl_X0_26 lX_4 rfl ?_
            refine r_iload_n 4 dX0_contradict_170 rfl ?_
            refine c_V (rest := []) 0 0 _ dX0_contradict_171 kv_X0_48 (ct_Row_get lX_11 lX_12 (Nat.le_of_ble_eq_true rfl)) rfl rfl lX_11 rfl (Nat.le_of_ble_eq_true rfl) (by decide) (by decide) ?_
            refine r_aload_n 3 dX0_contradict_174 rfl ?_
            refine r_getf (v := .ref (ad 11)) _ dX0_contradict_175 fl_X0_26 lX_4 rfl ?_
            refine r_iload_n 5 dX0_contradict_178 rfl ?_
            refine c_V (rest := [.int (rget 40 Cl_firsts p1)]) 0 0 _ dX0_contradict_179 kv_X0_48 (ct_Row_get lX_11 lX_12 (Nat.le_of_ble_eq_true rfl)) rfl rfl lX_11 rfl (Nat.le_of_ble_eq_true rfl) (by decide) (by decide) ?_
            refine r_icmp_ne (tgt := 189) dX0_contradict_182 (by decide) (fun hc665 => ?_) (fun hc665 => ?_)
            · have h := iq (fun z9 => z9) hc665 h
              refine r_iconst (v := (0 : Int32)) dX0_contradict_189 (by decide) ?_
              refine r_istore [(6, .int (0 : Int32)), (5, .int (0 : Int32)), (4, .int (rget 40 Cl_kinds p2)), (3, .int (rget 40 Cl_kinds p1)), (0, .ref (ad 4)), (1, .int p1), (2, .int p2)] dX0_contradict_190 (by decide) rfl ?_
              refine r_iload_n 3 dX0_contradict_192 rfl ?_
              refine r_iconst (v := (1 : Int32)) dX0_contradict_193 (by decide) ?_
              refine r_icmp_ne (tgt := 206) dX0_contradict_194 (by decide) (fun hc666 => ?_) (fun hc666 => ?_)
              · have h := iq (fun z9 => z9) hc666 h
                refine r_iload_n 3 dX0_contradict_206 rfl ?_
                refine r_iload 2 dX0_contradict_207 rfl ?_
                refine r_icmp_eq (tgt := 226) dX0_contradict_209 (by decide) (fun hc667 => ?_) (fun hc667 => ?_)
                · have h := ip (fun z9 => z9) hc667 h
                  refine r_iconst (v := (0 : Int32)) dX0_contradict_226 (by decide) ?_
                  refine r_zret dX0_contradict_227 rfl (by decide) ?_
                  have h : _ = o := h
                  subst h
                  exact hq
                · have h := iq (fun z9 => z9) hc667 h
                  refine r_iload 1 dX0_contradict_212 rfl ?_
                  refine r_if_ne (tgt := 222) dX0_contradict_214 (by decide) (fun hc => absurd hc (by decide)) (fun _ => ?_)
                  refine r_iload 0 dX0_contradict_217 rfl ?_
                  refine r_if_eq (tgt := 226) dX0_contradict_219 (by decide) (fun _ => ?_) (fun hc => absurd hc (by decide))
                  refine r_iconst (v := (0 : Int32)) dX0_contradict_226 (by decide) ?_
                  refine r_zret dX0_contradict_227 rfl (by decide) ?_
                  have h : _ = o := h
                  subst h
                  exact hq
              · have h := ip (fun z9 => z9) hc666 h
                refine r_iload 2 dX0_contradict_197 rfl ?_
                refine r_iconst (v := (1 : Int32)) dX0_contradict_199 (by decide) ?_
                refine r_icmp_ne (tgt := 206) dX0_contradict_200 (by decide) (fun hc668 => ?_) (fun hc668 => ?_)
                · have h := iq (fun z9 => z9) hc668 h
                  refine r_iload_n 3 dX0_contradict_206 rfl ?_
                  refine r_iload 2 dX0_contradict_207 rfl ?_
                  refine r_icmp_eq (tgt := 226) dX0_contradict_209 (by decide) (fun hc669 => ?_) (fun hc669 => ?_)
                  · have h := ip (fun z9 => z9) hc669 h
                    refine r_iconst (v := (0 : Int32)) dX0_contradict_226 (by decide) ?_
                    refine r_zret dX0_contradict_227 rfl (by decide) ?_
                    have h : _ = o := h
                    subst h
                    exact hq
                  · have h := iq (fun z9 => z9) hc669 h
                    refine r_iload 1 dX0_contradict_212 rfl ?_
                    refine r_if_ne (tgt := 222) dX0_contradict_214 (by decide) (fun hc => absurd hc (by decide)) (fun _ => ?_)
                    refine r_iload 0 dX0_contradict_217 rfl ?_
                    refine r_if_eq (tgt := 226) dX0_contradict_219 (by decide) (fun _ => ?_) (fun hc => absurd hc (by decide))
                    refine r_iconst (v := (0 : Int32)) dX0_contradict_226 (by decide) ?_
                    refine r_zret dX0_contradict_227 rfl (by decide) ?_
                    have h : _ = o := h
                    subst h
                    exact hq
                · have h := ip (fun z9 => z9) hc668 h
                  refine r_iload 1 dX0_contradict_203 rfl ?_
                  refine r_zret dX0_contradict_205 rfl (by decide) ?_
                  have h : _ = o := h
                  subst h
                  exact hq
            · have h := ip (fun z9 => z9) hc665 h
              refine r_iconst (v := (1 : Int32)) dX0_contradict_185 (by decide) ?_
              refine r_goto (tgt := 190) dX0_contradict_186 (by decide) ?_
              refine r_istore [(6, .int (1 : Int32)), (5, .int (0 : Int32)), (4, .int (rget 40 Cl_kinds p2)), (3, .int (rget 40 Cl_kinds p1)), (0, .ref (ad 4)), (1, .int p1), (2, .int p2)] dX0_contradict_190 (by decide) rfl ?_
              refine r_iload_n 3 dX0_contradict_192 rfl ?_
              refine r_iconst (v := (1 : Int32)) dX0_contradict_193 (by decide) ?_
              refine r_icmp_ne (tgt := 206) dX0_contradict_194 (by decide) (fun hc670 => ?_) (fun hc670 => ?_)
              · have h := iq (fun z9 => z9) hc670 h
                refine r_iload_n 3 dX0_contradict_206 rfl ?_
                refine r_iload 2 dX0_contradict_207 rfl ?_
                refine r_icmp_eq (tgt := 226) dX0_contradict_209 (by decide) (fun hc671 => ?_) (fun hc671 => ?_)
                · have h := ip (fun z9 => z9) hc671 h
                  refine r_iconst (v := (0 : Int32)) dX0_contradict_226 (by decide) ?_
                  refine r_zret dX0_contradict_227 rfl (by decide) ?_
                  have h : _ = o := h
                  subst h
                  exact hq
                · have h := iq (fun z9 => z9) hc671 h
                  refine r_iload 1 dX0_contradict_212 rfl ?_
                  refine r_if_ne (tgt := 222) dX0_contradict_214 (by decide) (fun hc => absurd hc (by decide)) (fun _ => ?_)
                  refine r_iload 0 dX0_contradict_217 rfl ?_
                  refine r_if_eq (tgt := 226) dX0_contradict_219 (by decide) (fun hc => absurd hc (by decide)) (fun _ => ?_)
                  refine r_iconst (v := (1 : Int32)) dX0_contradict_222 (by decide) ?_
                  refine r_goto (tgt := 227) dX0_contradict_223 (by decide) ?_
                  refine r_zret dX0_contradict_227 rfl (by decide) ?_
                  have h : _ = o := h
                  subst h
                  exact hq
              · have h := ip (fun z9 => z9) hc670 h
                refine r_iload 2 dX0_contradict_197 rfl ?_
                refine r_iconst (v := (1 : Int32)) dX0_contradict_199 (by decide) ?_
                refine r_icmp_ne (tgt := 206) dX0_contradict_200 (by decide) (fun hc672 => ?_) (fun hc672 => ?_)
                · have h := iq (fun z9 => z9) hc672 h
                  refine r_iload_n 3 dX0_contradict_206 rfl ?_
                  refine r_iload 2 dX0_contradict_207 rfl ?_
                  refine r_icmp_eq (tgt := 226) dX0_contradict_209 (by decide) (fun hc673 => ?_) (fun hc673 => ?_)
                  · have h := ip (fun z9 => z9) hc673 h
                    refine r_iconst (v := (0 : Int32)) dX0_contradict_226 (by decide) ?_
                    refine r_zret dX0_contradict_227 rfl (by decide) ?_
                    have h : _ = o := h
                    subst h
                    exact hq
                  · have h := iq (fun z9 => z9) hc673 h
                    refine r_iload 1 dX0_contradict_212 rfl ?_
                    refine r_if_ne (tgt := 222) dX0_contradict_214 (by decide) (fun hc => absurd hc (by decide)) (fun _ => ?_)
                    refine r_iload 0 dX0_contradict_217 rfl ?_
                    refine r_if_eq (tgt := 226) dX0_contradict_219 (by decide) (fun hc => absurd hc (by decide)) (fun _ => ?_)
                    refine r_iconst (v := (1 : Int32)) dX0_contradict_222 (by decide) ?_
                    refine r_goto (tgt := 227) dX0_contradict_223 (by decide) ?_
                    refine r_zret dX0_contradict_227 rfl (by decide) ?_
                    have h : _ = o := h
                    subst h
                    exact hq
                · have h := ip (fun z9 => z9) hc672 h
                  refine r_iload 1 dX0_contradict_203 rfl ?_
                  refine r_zret dX0_contradict_205 rfl (by decide) ?_
                  have h : _ = o := h
                  subst h
                  exact hq
        · have h := ip (fun z9 => z9) hc659 h
          refine r_aload_n 2 dX0_contradict_121 rfl ?_
          refine r_getf (v := .ref (ad 11)) _ dX0_contradict_122 fl_X0_26 lX_4 rfl ?_
          refine r_iload_n 3 dX0_contradict_125 rfl ?_
          refine c_V (rest := []) 0 0 _ dX0_contradict_126 kv_X0_48 (ct_Row_get lX_11 lX_12 (Nat.le_of_ble_eq_true rfl)) rfl rfl lX_11 rfl (Nat.le_of_ble_eq_true rfl) (by decide) (by decide) ?_
          refine r_aload_n 2 dX0_contradict_129 rfl ?_
          refine r_getf (v := .ref (ad 9)) _ dX0_contradict_130 fl_X0_23 lX_4 rfl ?_
          refine r_iload_n 4 dX0_contradict_133 rfl ?_
          refine c_V (rest := [.int (rget 40 Cl_firsts p1)]) 0 0 _ dX0_contradict_134 kv_X0_48 (ct_Row_get lX_9 lX_10 (Nat.le_of_ble_eq_true rfl)) rfl rfl lX_9 rfl (Nat.le_of_ble_eq_true rfl) (by decide) (by decide) ?_
          refine r_icmp_ne (tgt := 144) dX0_contradict_137 (by decide) (fun hc674 => ?_) (fun hc674 => ?_)
          · have h := iq (fun z9 => z9) hc674 h
            refine r_iconst (v := (0 : Int32)) dX0_contradict_144 (by decide) ?_
            refine r_istore [(5, .int (0 : Int32)), (4, .int (rget 40 Cl_kinds p2)), (3, .int (rget 40 Cl_kinds p1)), (0, .ref (ad 4)), (1, .int p1), (2, .int p2)] dX0_contradict_145 (by decide) rfl ?_
            refine r_aload_n 3 dX0_contradict_147 rfl ?_
            refine r_getf (v := .ref (ad 9)) _ dX0_contradict_148 fl_X0_23 lX_4 rfl ?_
            refine r_iload_n 4 dX0_contradict_151 rfl ?_
            refine c_V (rest := []) 0 0 _ dX0_contradict_152 kv_X0_48 (ct_Row_get lX_9 lX_10 (Nat.le_of_ble_eq_true rfl)) rfl rfl lX_9 rfl (Nat.le_of_ble_eq_true rfl) (by decide) (by decide) ?_
            refine r_aload_n 3 dX0_contradict_155 rfl ?_
            refine r_getf (v := .ref (ad 9)) _ dX0_contradict_156 fl_X0_23 lX_4 rfl ?_
            refine r_iload_n 5 dX0_contradict_159 rfl ?_
            refine c_V (rest := [.int (rget 40 Cl_events p1)]) 0 0 _ dX0_contradict_160 kv_X0_48 (ct_Row_get lX_9 lX_10 (Nat.le_of_ble_eq_true rfl)) rfl rfl lX_9 rfl (Nat.le_of_ble_eq_true rfl) (by decide) (by decide) ?_
            refine r_icmp_ne (tgt := 189) dX0_contradict_163 (by decide) (fun hc675 => ?_) (fun hc675 => ?_)
            · have h := iq (fun z9 => z9) hc675 h
              refine r_iconst (v := (0 : Int32)) dX0_contradict_189 (by decide) ?_
              refine r_istore [(6, .int (0 : Int32)), (5, .int (0 : Int32)), (4, .int (rget 40 Cl_kinds p2)), (3, .int (rget 40 Cl_kinds p1)), (0, .ref (ad 4)), (1, .int p1), (2, .int p2)] dX0_contradict_190 (by decide) rfl ?_
              refine r_iload_n 3 dX0_contradict_192 rfl ?_
              refine r_iconst (v := (1 : Int32)) dX0_contradict_193 (by decide) ?_
              refine r_icmp_ne (tgt := 206) dX0_contradict_194 (by decide) (fun hc676 => ?_) (fun hc676 => ?_)
              · have h := iq (fun z9 => z9) hc676 h
                refine r_iload_n 3 dX0_contradict_206 rfl ?_
                refine r_iload 2 dX0_contradict_207 rfl ?_
                refine r_icmp_eq (tgt := 226) dX0_contradict_209 (by decide) (fun hc677 => ?_) (fun hc677 => ?_)
                · have h := ip (fun z9 => z9) hc677 h
                  refine r_iconst (v := (0 : Int32)) dX0_contradict_226 (by decide) ?_
                  refine r_zret dX0_contradict_227 rfl (by decide) ?_
                  have h : _ = o := h
                  subst h
                  exact hq
                · have h := iq (fun z9 => z9) hc677 h
                  refine r_iload 1 dX0_contradict_212 rfl ?_
                  refine r_if_ne (tgt := 222) dX0_contradict_214 (by decide) (fun hc => absurd hc (by decide)) (fun _ => ?_)
                  refine r_iload 0 dX0_contradict_217 rfl ?_
                  refine r_if_eq (tgt := 226) dX0_contradict_219 (by decide) (fun _ => ?_) (fun hc => absurd hc (by decide))
                  refine r_iconst (v := (0 : Int32)) dX0_contradict_226 (by decide) ?_
                  refine r_zret dX0_contradict_227 rfl (by decide) ?_
                  have h : _ = o := h
                  subst h
                  exact hq
              · have h := ip (fun z9 => z9) hc676 h
                refine r_iload 2 dX0_contradict_197 rfl ?_
                refine r_iconst (v := (1 : Int32)) dX0_contradict_199 (by decide) ?_
                refine r_icmp_ne (tgt := 206) dX0_contradict_200 (by decide) (fun hc678 => ?_) (fun hc678 => ?_)
                · have h := iq (fun z9 => z9) hc678 h
                  refine r_iload_n 3 dX0_contradict_206 rfl ?_
                  refine r_iload 2 dX0_contradict_207 rfl ?_
                  refine r_icmp_eq (tgt := 226) dX0_contradict_209 (by decide) (fun hc679 => ?_) (fun hc679 => ?_)
                  · have h := ip (fun z9 => z9) hc679 h
                    refine r_iconst (v := (0 : Int32)) dX0_contradict_226 (by decide) ?_
                    refine r_zret dX0_contradict_227 rfl (by decide) ?_
                    have h : _ = o := h
                    subst h
                    exact hq
                  · have h := iq (fun z9 => z9) hc679 h
                    refine r_iload 1 dX0_contradict_212 rfl ?_
                    refine r_if_ne (tgt := 222) dX0_contradict_214 (by decide) (fun hc => absurd hc (by decide)) (fun _ => ?_)
                    refine r_iload 0 dX0_contradict_217 rfl ?_
                    refine r_if_eq (tgt := 226) dX0_contradict_219 (by decide) (fun _ => ?_) (fun hc => absurd hc (by decide))
                    refine r_iconst (v := (0 : Int32)) dX0_contradict_226 (by decide) ?_
                    refine r_zret dX0_contradict_227 rfl (by decide) ?_
                    have h : _ = o := h
                    subst h
                    exact hq
                · have h := ip (fun z9 => z9) hc678 h
                  refine r_iload 1 dX0_contradict_203 rfl ?_
                  refine r_zret dX0_contradict_205 rfl (by decide) ?_
                  have h : _ = o := h
                  subst h
                  exact hq
            · have h := ip (fun z9 => z9) hc675 h
              refine r_aload_n 3 dX0_contradict_166 rfl ?_
              refine r_getf (v := .ref (ad 11)) _ dX0_contradict_167 fl_X0_26 lX_4 rfl ?_
              refine r_iload_n 4 dX0_contradict_170 rfl ?_
              refine c_V (rest := []) 0 0 _ dX0_contradict_171 kv_X0_48 (ct_Row_get lX_11 lX_12 (Nat.le_of_ble_eq_true rfl)) rfl rfl lX_11 rfl (Nat.le_of_ble_eq_true rfl) (by decide) (by decide) ?_
              refine r_aload_n 3 dX0_contradict_174 rfl ?_
              refine r_getf (v := .ref (ad 11)) _ dX0_contradict_175 fl_X0_26 lX_4 rfl ?_
              refine r_iload_n 5 dX0_contradict_178 rfl ?_
              refine c_V (rest := [.int (rget 40 Cl_firsts p1)]) 0 0 _ dX0_contradict_179 kv_X0_48 (ct_Row_get lX_11 lX_12 (Nat.le_of_ble_eq_true rfl)) rfl rfl lX_11 rfl (Nat.le_of_ble_eq_true rfl) (by decide) (by decide) ?_
              refine r_icmp_ne (tgt := 189) dX0_contradict_182 (by decide) (fun hc680 => ?_) (fun hc680 => ?_)
              · have h := iq (fun z9 => z9) hc680 h
                refine r_iconst (v := (0 : Int32)) dX0_contradict_189 (by decide) ?_
                refine r_istore [(6, .int (0 : Int32)), (5, .int (0 : Int32)), (4, .int (rget 40 Cl_kinds p2)), (3, .int (rget 40 Cl_kinds p1)), (0, .ref (ad 4)), (1, .int p1), (2, .int p2)] dX0_contradict_190 (by decide) rfl ?_
                refine r_iload_n 3 dX0_contradict_192 rfl ?_
                refine r_iconst (v := (1 : Int32)) dX0_contradict_193 (by decide) ?_
                refine r_icmp_ne (tgt := 206) dX0_contradict_194 (by decide) (fun hc681 => ?_) (fun hc681 => ?_)
                · have h := iq (fun z9 => z9) hc681 h
                  refine r_iload_n 3 dX0_contradict_206 rfl ?_
                  refine r_iload 2 dX0_contradict_207 rfl ?_
                  refine r_icmp_eq (tgt := 226) dX0_contradict_209 (by decide) (fun hc682 => ?_) (fun hc682 => ?_)
                  · have h := ip (fun z9 => z9) hc682 h
                    refine r_iconst (v := (0 : Int32)) dX0_contradict_226 (by decide) ?_
                    refine r_zret dX0_contradict_227 rfl (by decide) ?_
                    have h : _ = o := h
                    subst h
                    exact hq
                  · have h := iq (fun z9 => z9) hc682 h
                    refine r_iload 1 dX0_contradict_212 rfl ?_
                    refine r_if_ne (tgt := 222) dX0_contradict_214 (by decide) (fun hc => absurd hc (by decide)) (fun _ => ?_)
                    refine r_iload 0 dX0_contradict_217 rfl ?_
                    refine r_if_eq (tgt := 226) dX0_contradict_219 (by decide) (fun _ => ?_) (fun hc => absurd hc (by decide))
                    refine r_iconst (v := (0 : Int32)) dX0_contradict_226 (by decide) ?_
                    refine r_zret dX0_contradict_227 rfl (by decide) ?_
                    have h : _ = o := h
                    subst h
                    exact hq
                · have h := ip (fun z9 => z9) hc681 h
                  refine r_iload 2 dX0_contradict_197 rfl ?_
                  refine r_iconst (v := (1 : Int32)) dX0_contradict_199 (by decide) ?_
                  refine r_icmp_ne (tgt := 206) dX0_contradict_200 (by decide) (fun hc683 => ?_) (fun hc683 => ?_)
                  · have h := iq (fun z9 => z9) hc683 h
                    refine r_iload_n 3 dX0_contradict_206 rfl ?_
                    refine r_iload 2 dX0_contradict_207 rfl ?_
                    refine r_icmp_eq (tgt := 226) dX0_contradict_209 (by decide) (fun hc684 => ?_) (fun hc684 => ?_)
                    · have h := ip (fun z9 => z9) hc684 h
                      refine r_iconst (v := (0 : Int32)) dX0_contradict_226 (by decide) ?_
                      refine r_zret dX0_contradict_227 rfl (by decide) ?_
                      have h : _ = o := h
                      subst h
                      exact hq
                    · have h := iq (fun z9 => z9) hc684 h
                      refine r_iload 1 dX0_contradict_212 rfl ?_
                      refine r_if_ne (tgt := 222) dX0_contradict_214 (by decide) (fun hc => absurd hc (by decide)) (fun _ => ?_)
                      refine r_iload 0 dX0_contradict_217 rfl ?_
                      refine r_if_eq (tgt := 226) dX0_contradict_219 (by decide) (fun _ => ?_) (fun hc => absurd hc (by decide))
                      refine r_iconst (v := (0 : Int32)) dX0_contradict_226 (by decide) ?_
                      refine r_zret dX0_contradict_227 rfl (by decide) ?_
                      have h : _ = o := h
                      subst h
                      exact hq
                  · have h := ip (fun z9 => z9) hc683 h
                    refine r_iload 1 dX0_contradict_203 rfl ?_
                    refine r_zret dX0_contradict_205 rfl (by decide) ?_
                    have h : _ = o := h
                    subst h
                    exact hq
              · have h := ip (fun z9 => z9) hc680 h
                refine r_iconst (v := (1 : Int32)) dX0_contradict_185 (by decide) ?_
                refine r_goto (tgt := 190) dX0_contradict_186 (by decide) ?_
                refine r_istore [(6, .int (1 : Int32)), (5, .int (0 : Int32)), (4, .int (rget 40 Cl_kinds p2)), (3, .int (rget 40 Cl_kinds p1)), (0, .ref (ad 4)), (1, .int p1), (2, .int p2)] dX0_contradict_190 (by decide) rfl ?_
                refine r_iload_n 3 dX0_contradict_192 rfl ?_
                refine r_iconst (v := (1 : Int32)) dX0_contradict_193 (by decide) ?_
                refine r_icmp_ne (tgt := 206) dX0_contradict_194 (by decide) (fun hc685 => ?_) (fun hc685 => ?_)
                · have h := iq (fun z9 => z9) hc685 h
                  refine r_iload_n 3 dX0_contradict_206 rfl ?_
                  refine r_iload 2 dX0_contradict_207 rfl ?_
                  refine r_icmp_eq (tgt := 226) dX0_contradict_209 (by decide) (fun hc686 => ?_) (fun hc686 => ?_)
                  · have h := ip (fun z9 => z9) hc686 h
                    refine r_iconst (v := (0 : Int32)) dX0_contradict_226 (by decide) ?_
                    refine r_zret dX0_contradict_227 rfl (by decide) ?_
                    have h : _ = o := h
                    subst h
                    exact hq
                  · have h := iq (fun z9 => z9) hc686 h
                    refine r_iload 1 dX0_contradict_212 rfl ?_
                    refine r_if_ne (tgt := 222) dX0_contradict_214 (by decide) (fun hc => absurd hc (by decide)) (fun _ => ?_)
                    refine r_iload 0 dX0_contradict_217 rfl ?_
                    refine r_if_eq (tgt := 226) dX0_contradict_219 (by decide) (fun hc => absurd hc (by decide)) (fun _ => ?_)
                    refine r_iconst (v := (1 : Int32)) dX0_contradict_222 (by decide) ?_
                    refine r_goto (tgt := 227) dX0_contradict_223 (by decide) ?_
                    refine r_zret dX0_contradict_227 rfl (by decide) ?_
                    have h : _ = o := h
                    subst h
                    exact hq
                · have h := ip (fun z9 => z9) hc685 h
                  refine r_iload 2 dX0_contradict_197 rfl ?_
                  refine r_iconst (v := (1 : Int32)) dX0_contradict_199 (by decide) ?_
                  refine r_icmp_ne (tgt := 206) dX0_contradict_200 (by decide) (fun hc687 => ?_) (fun hc687 => ?_)
                  · have h := iq (fun z9 => z9) hc687 h
                    refine r_iload_n 3 dX0_contradict_206 rfl ?_
                    refine r_iload 2 dX0_contradict_207 rfl ?_
                    refine r_icmp_eq (tgt := 226) dX0_contradict_209 (by decide) (fun hc688 => ?_) (fun hc688 => ?_)
                    · have h := ip (fun z9 => z9) hc688 h
                      refine r_iconst (v := (0 : Int32)) dX0_contradict_226 (by decide) ?_
                      refine r_zret dX0_contradict_227 rfl (by decide) ?_
                      have h : _ = o := h
                      subst h
                      exact hq
                    · have h := iq (fun z9 => z9) hc688 h
                      refine r_iload 1 dX0_contradict_212 rfl ?_
                      refine r_if_ne (tgt := 222) dX0_contradict_214 (by decide) (fun hc => absurd hc (by decide)) (fun _ => ?_)
                      refine r_iload 0 dX0_contradict_217 rfl ?_
                      refine r_if_eq (tgt := 226) dX0_contradict_219 (by decide) (fun hc => absurd hc (by decide)) (fun _ => ?_)
                      refine r_iconst (v := (1 : Int32)) dX0_contradict_222 (by decide) ?_
                      refine r_goto (tgt := 227) dX0_contradict_223 (by decide) ?_
                      refine r_zret dX0_contradict_227 rfl (by decide) ?_
                      have h : _ = o := h
                      subst h
                      exact hq
                  · have h := ip (fun z9 => z9) hc687 h
                    refine r_iload 1 dX0_contradict_203 rfl ?_
                    refine r_zret dX0_contradict_205 rfl (by decide) ?_
                    have h : _ = o := h
                    subst h
                    exact hq
          · have h := ip (fun z9 => z9) hc674 h
            refine r_iconst (v := (1 : Int32)) dX0_contradict_140 (by decide) ?_
            refine r_goto (tgt := 145) dX0_contradict_141 (by decide) ?_
            refine r_istore [(5, .int (1 : Int32)), (4, .int (rget 40 Cl_kinds p2)), (3, .int (rget 40 Cl_kinds p1)), (0, .ref (ad 4)), (1, .int p1), (2, .int p2)] dX0_contradict_145 (by decide) rfl ?_
            refine r_aload_n 3 dX0_contradict_147 rfl ?_
            refine r_getf (v := .ref (ad 9)) _ dX0_contradict_148 fl_X0_23 lX_4 rfl ?_
            refine r_iload_n 4 dX0_contradict_151 rfl ?_
            refine c_V (rest := []) 0 0 _ dX0_contradict_152 kv_X0_48 (ct_Row_get lX_9 lX_10 (Nat.le_of_ble_eq_true rfl)) rfl rfl lX_9 rfl (Nat.le_of_ble_eq_true rfl) (by decide) (by decide) ?_
            refine r_aload_n 3 dX0_contradict_155 rfl ?_
            refine r_getf (v := .ref (ad 9)) _ dX0_contradict_156 fl_X0_23 lX_4 rfl ?_
            refine r_iload_n 5 dX0_contradict_159 rfl ?_
            refine c_V (rest := [.int (rget 40 Cl_events p1)]) 0 0 _ dX0_contradict_160 kv_X0_48 (ct_Row_get lX_9 lX_10 (Nat.le_of_ble_eq_true rfl)) rfl rfl lX_9 rfl (Nat.le_of_ble_eq_true rfl) (by decide) (by decide) ?_
            refine r_icmp_ne (tgt := 189) dX0_contradict_163 (by decide) (fun hc689 => ?_) (fun hc689 => ?_)
            · have h := iq (fun z9 => z9) hc689 h
              refine r_iconst (v := (0 : Int32)) dX0_contradict_189 (by decide) ?_
              refine r_istore [(6, .int (0 : Int32)), (5, .int (1 : Int32)), (4, .int (rget 40 Cl_kinds p2)), (3, .int (rget 40 Cl_kinds p1)), (0, .ref (ad 4)), (1, .int p1), (2, .int p2)] dX0_contradict_190 (by decide) rfl ?_
              refine r_iload_n 3 dX0_contradict_192 rfl ?_
              refine r_iconst (v := (1 : Int32)) dX0_contradict_193 (by decide) ?_
              refine r_icmp_ne (tgt := 206) dX0_contradict_194 (by decide) (fun hc690 => ?_) (fun hc690 => ?_)
              · have h := iq (fun z9 => z9) hc690 h
                refine r_iload_n 3 dX0_contradict_206 rfl ?_
                refine r_iload 2 dX0_contradict_207 rfl ?_
                refine r_icmp_eq (tgt := 226) dX0_contradict_209 (by decide) (fun hc691 => ?_) (fun hc691 => ?_)
                · have h := ip (fun z9 => z9) hc691 h
                  refine r_iconst (v := (0 : Int32)) dX0_contradict_226 (by decide) ?_
                  refine r_zret dX0_contradict_227 rfl (by decide) ?_
                  have h : _ = o := h
                  subst h
                  exact hq
                · have h := iq (fun z9 => z9) hc691 h
                  refine r_iload 1 dX0_contradict_212 rfl ?_
                  refine r_if_ne (tgt := 222) dX0_contradict_214 (by decide) (fun _ => ?_) (fun hc => absurd hc (by decide))
                  refine r_iconst (v := (1 : Int32)) dX0_contradict_222 (by decide) ?_
                  refine r_goto (tgt := 227) dX0_contradict_223 (by decide) ?_
                  refine r_zret dX0_contradict_227 rfl (by decide) ?_
                  have h : _ = o := h
                  subst h
                  exact hq
              · have h := ip (fun z9 => z9) hc690 h
                refine r_iload 2 dX0_contradict_197 rfl ?_
                refine r_iconst (v := (1 : Int32)) dX0_contradict_199 (by decide) ?_
                refine r_icmp_ne (tgt := 206) dX0_contradict_200 (by decide) (fun hc692 => ?_) (fun hc692 => ?_)
                · have h := iq (fun z9 => z9) hc692 h
                  refine r_iload_n 3 dX0_contradict_206 rfl ?_
                  refine r_iload 2 dX0_contradict_207 rfl ?_
                  refine r_icmp_eq (tgt := 226) dX0_contradict_209 (by decide) (fun hc693 => ?_) (fun hc693 => ?_)
                  · have h := ip (fun z9 => z9) hc693 h
                    refine r_iconst (v := (0 : Int32)) dX0_contradict_226 (by decide) ?_
                    refine r_zret dX0_contradict_227 rfl (by decide) ?_
                    have h : _ = o := h
                    subst h
                    exact hq
                  · have h := iq (fun z9 => z9) hc693 h
                    refine r_iload 1 dX0_contradict_212 rfl ?_
                    refine r_if_ne (tgt := 222) dX0_contradict_214 (by decide) (fun _ => ?_) (fun hc => absurd hc (by decide))
                    refine r_iconst (v := (1 : Int32)) dX0_contradict_222 (by decide) ?_
                    refine r_goto (tgt := 227) dX0_contradict_223 (by decide) ?_
                    refine r_zret dX0_contradict_227 rfl (by decide) ?_
                    have h : _ = o := h
                    subst h
                    exact hq
                · have h := ip (fun z9 => z9) hc692 h
                  refine r_iload 1 dX0_contradict_203 rfl ?_
                  refine r_zret dX0_contradict_205 rfl (by decide) ?_
                  have h : _ = o := h
                  subst h
                  exact hq
            · have h := ip (fun z9 => z9) hc689 h
              refine r_aload_n 3 dX0_contradict_166 rfl ?_
              refine r_getf (v := .ref (ad 11)) _ dX0_contradict_167 fl_X0_26 lX_4 rfl ?_
              refine r_iload_n 4 dX0_contradict_170 rfl ?_
              refine c_V (rest := []) 0 0 _ dX0_contradict_171 kv_X0_48 (ct_Row_get lX_11 lX_12 (Nat.le_of_ble_eq_true rfl)) rfl rfl lX_11 rfl (Nat.le_of_ble_eq_true rfl) (by decide) (by decide) ?_
              refine r_aload_n 3 dX0_contradict_174 rfl ?_
              refine r_getf (v := .ref (ad 11)) _ dX0_contradict_175 fl_X0_26 lX_4 rfl ?_
              refine r_iload_n 5 dX0_contradict_178 rfl ?_
              refine c_V (rest := [.int (rget 40 Cl_firsts p1)]) 0 0 _ dX0_contradict_179 kv_X0_48 (ct_Row_get lX_11 lX_12 (Nat.le_of_ble_eq_true rfl)) rfl rfl lX_11 rfl (Nat.le_of_ble_eq_true rfl) (by decide) (by decide) ?_
              refine r_icmp_ne (tgt := 189) dX0_contradict_182 (by decide) (fun hc694 => ?_) (fun hc694 => ?_)
              · have h := iq (fun z9 => z9) hc694 h
                refine r_iconst (v := (0 : Int32)) dX0_contradict_189 (by decide) ?_
                refine r_istore [(6, .int (0 : Int32)), (5, .int (1 : Int32)), (4, .int (rget 40 Cl_kinds p2)), (3, .int (rget 40 Cl_kinds p1)), (0, .ref (ad 4)), (1, .int p1), (2, .int p2)] dX0_contradict_190 (by decide) rfl ?_
                refine r_iload_n 3 dX0_contradict_192 rfl ?_
                refine r_iconst (v := (1 : Int32)) dX0_contradict_193 (by decide) ?_
                refine r_icmp_ne (tgt := 206) dX0_contradict_194 (by decide) (fun hc695 => ?_) (fun hc695 => ?_)
                · have h := iq (fun z9 => z9) hc695 h
                  refine r_iload_n 3 dX0_contradict_206 rfl ?_
                  refine r_iload 2 dX0_contradict_207 rfl ?_
                  refine r_icmp_eq (tgt := 226) dX0_contradict_209 (by decide) (fun hc696 => ?_) (fun hc696 => ?_)
                  · have h := ip (fun z9 => z9) hc696 h
                    refine r_iconst (v := (0 : Int32)) dX0_contradict_226 (by decide) ?_
                    refine r_zret dX0_contradict_227 rfl (by decide) ?_
                    have h : _ = o := h
                    subst h
                    exact hq
                  · have h := iq (fun z9 => z9) hc696 h
                    refine r_iload 1 dX0_contradict_212 rfl ?_
                    refine r_if_ne (tgt := 222) dX0_contradict_214 (by decide) (fun _ => ?_) (fun hc => absurd hc (by decide))
                    refine r_iconst (v := (1 : Int32)) dX0_contradict_222 (by decide) ?_
                    refine r_goto (tgt := 227) dX0_contradict_223 (by decide) ?_
                    refine r_zret dX0_contradict_227 rfl (by decide) ?_
                    have h : _ = o := h
                    subst h
                    exact hq
                · have h := ip (fun z9 => z9) hc695 h
                  refine r_iload 2 dX0_contradict_197 rfl ?_
                  refine r_iconst (v := (1 : Int32)) dX0_contradict_199 (by decide) ?_
                  refine r_icmp_ne (tgt := 206) dX0_contradict_200 (by decide) (fun hc697 => ?_) (fun hc697 => ?_)
                  · have h := iq (fun z9 => z9) hc697 h
                    refine r_iload_n 3 dX0_contradict_206 rfl ?_
                    refine r_iload 2 dX0_contradict_207 rfl ?_
                    refine r_icmp_eq (tgt := 226) dX0_contradict_209 (by decide) (fun hc698 => ?_) (fun hc698 => ?_)
                    · have h := ip (fun z9 => z9) hc698 h
                      refine r_iconst (v := (0 : Int32)) dX0_contradict_226 (by decide) ?_
                      refine r_zret dX0_contradict_227 rfl (by decide) ?_
                      have h : _ = o := h
                      subst h
                      exact hq
                    · have h := iq (fun z9 => z9) hc698 h
                      refine r_iload 1 dX0_contradict_212 rfl ?_
                      refine r_if_ne (tgt := 222) dX0_contradict_214 (by decide) (fun _ => ?_) (fun hc => absurd hc (by decide))
                      refine r_iconst (v := (1 : Int32)) dX0_contradict_222 (by decide) ?_
                      refine r_goto (tgt := 227) dX0_contradict_223 (by decide) ?_
                      refine r_zret dX0_contradict_227 rfl (by decide) ?_
                      have h : _ = o := h
                      subst h
                      exact hq
                  · have h := ip (fun z9 => z9) hc697 h
                    refine r_iload 1 dX0_contradict_203 rfl ?_
                    refine r_zret dX0_contradict_205 rfl (by decide) ?_
                    have h : _ = o := h
                    subst h
                    exact hq
              · have h := ip (fun z9 => z9) hc694 h
                refine r_iconst (v := (1 : Int32)) dX0_contradict_185 (by decide) ?_
                refine r_goto (tgt := 190) dX0_contradict_186 (by decide) ?_
                refine r_istore [(6, .int (1 : Int32)), (5, .int (1 : Int32)), (4, .int (rget 40 Cl_kinds p2)), (3, .int (rget 40 Cl_kinds p1)), (0, .ref (ad 4)), (1, .int p1), (2, .int p2)] dX0_contradict_190 (by decide) rfl ?_
                refine r_iload_n 3 dX0_contradict_192 rfl ?_
                refine r_iconst (v := (1 : Int32)) dX0_contradict_193 (by decide) ?_
                refine r_icmp_ne (tgt := 206) dX0_contradict_194 (by decide) (fun hc699 => ?_) (fun hc699 => ?_)
                · have h := iq (fun z9 => z9) hc699 h
                  refine r_iload_n 3 dX0_contradict_206 rfl ?_
                  refine r_iload 2 dX0_contradict_207 rfl ?_
                  refine r_icmp_eq (tgt := 226) dX0_contradict_209 (by decide) (fun hc700 => ?_) (fun hc700 => ?_)
                  · have h := ip (fun z9 => z9) hc700 h
                    refine r_iconst (v := (0 : Int32)) dX0_contradict_226 (by decide) ?_
                    refine r_zret dX0_contradict_227 rfl (by decide) ?_
                    have h : _ = o := h
                    subst h
                    exact hq
                  · have h := iq (fun z9 => z9) hc700 h
                    refine r_iload 1 dX0_contradict_212 rfl ?_
                    refine r_if_ne (tgt := 222) dX0_contradict_214 (by decide) (fun _ => ?_) (fun hc => absurd hc (by decide))
                    refine r_iconst (v := (1 : Int32)) dX0_contradict_222 (by decide) ?_
                    refine r_goto (tgt := 227) dX0_contradict_223 (by decide) ?_
                    refine r_zret dX0_contradict_227 rfl (by decide) ?_
                    have h : _ = o := h
                    subst h
                    exact hq
                · have h := ip (fun z9 => z9) hc699 h
                  refine r_iload 2 dX0_contradict_197 rfl ?_
                  refine r_iconst (v := (1 : Int32)) dX0_contradict_199 (by decide) ?_
                  refine r_icmp_ne (tgt := 206) dX0_contradict_200 (by decide) (fun hc701 => ?_) (fun hc701 => ?_)
                  · have h := iq (fun z9 => z9) hc701 h
                    refine r_iload_n 3 dX0_contradict_206 rfl ?_
                    refine r_iload 2 dX0_contradict_207 rfl ?_
                    refine r_icmp_eq (tgt := 226) dX0_contradict_209 (by decide) (fun hc702 => ?_) (fun hc702 => ?_)
                    · have h := ip (fun z9 => z9) hc702 h
                      refine r_iconst (v := (0 : Int32)) dX0_contradict_226 (by decide) ?_
                      refine r_zret dX0_contradict_227 rfl (by decide) ?_
                      have h : _ = o := h
                      subst h
                      exact hq
                    · have h := iq (fun z9 => z9) hc702 h
                      refine r_iload 1 dX0_contradict_212 rfl ?_
                      refine r_if_ne (tgt := 222) dX0_contradict_214 (by decide) (fun _ => ?_) (fun hc => absurd hc (by decide))
                      refine r_iconst (v := (1 : Int32)) dX0_contradict_222 (by decide) ?_
                      refine r_goto (tgt := 227) dX0_contradict_223 (by decide) ?_
                      refine r_zret dX0_contradict_227 rfl (by decide) ?_
                      have h : _ = o := h
                      subst h
                      exact hq
                  · have h := ip (fun z9 => z9) hc701 h
                    refine r_iload 1 dX0_contradict_203 rfl ?_
                    refine r_zret dX0_contradict_205 rfl (by decide) ?_
                    have h : _ = o := h
                    subst h
                    exact hq
      · have h := ip (fun z9 => z9) hc658 h
        refine r_iconst (v := (0 : Int32)) dX0_contradict_100 (by decide) ?_
        refine r_zret dX0_contradict_101 rfl (by decide) ?_
        have h : _ = o := h
        subst h
        exact hq
  · have h := ip (fun z9 => z9) hc656 h
    refine r_iload 0 dX0_contradict_23 rfl ?_
    refine r_if_ne (tgt := 91) dX0_contradict_25 (by decide) (fun hc703 => ?_) (fun hc703 => ?_)
    · have h := iq (fun z9 => z9) hc703 h
      refine r_iload_n 1 dX0_contradict_91 rfl ?_
      refine r_if_eq (tgt := 100) dX0_contradict_92 (by decide) (fun hc704 => ?_) (fun hc704 => ?_)
      · have h := ip (fun z9 => z9) hc704 h
        refine r_iconst (v := (0 : Int32)) dX0_contradict_100 (by decide) ?_
        refine r_zret dX0_contradict_101 rfl (by decide) ?_
        have h : _ = o := h
        subst h
        exact hq
      · have h := iq (fun z9 => z9) hc704 h
        refine r_iload 0 dX0_contradict_95 rfl ?_
        refine r_if_ne (tgt := 102) dX0_contradict_97 (by decide) (fun hc705 => ?_) (fun hc705 => ?_)
        · have h := iq (fun z9 => z9) hc705 h
          refine r_aload_n 2 dX0_contradict_102 rfl ?_
          refine r_getf (v := .ref (ad 9)) _ dX0_contradict_103 fl_X0_23 lX_4 rfl ?_
          refine r_iload_n 3 dX0_contradict_106 rfl ?_
          refine c_V (rest := []) 0 0 _ dX0_contradict_107 kv_X0_48 (ct_Row_get lX_9 lX_10 (Nat.le_of_ble_eq_true rfl)) rfl rfl lX_9 rfl (Nat.le_of_ble_eq_true rfl) (by decide) (by decide) ?_
          refine r_aload_n 2 dX0_contradict_110 rfl ?_
          refine r_getf (v := .ref (ad 11)) _ dX0_contradict_111 fl_X0_26 lX_4 rfl ?_
          refine r_iload_n 4 dX0_contradict_114 rfl ?_
          refine c_V (rest := [.int (rget 40 Cl_events p1)]) 0 0 _ dX0_contradict_115 kv_X0_48 (ct_Row_get lX_11 lX_12 (Nat.le_of_ble_eq_true rfl)) rfl rfl lX_11 rfl (Nat.le_of_ble_eq_true rfl) (by decide) (by decide) ?_
          refine r_icmp_ne (tgt := 144) dX0_contradict_118 (by decide) (fun hc706 => ?_) (fun hc706 => ?_)
          · have h := iq (fun z9 => z9) hc706 h
            refine r_iconst (v := (0 : Int32)) dX0_contradict_144 (by decide) ?_
            refine r_istore [(5, .int (0 : Int32)), (4, .int (rget 40 Cl_kinds p2)), (3, .int (rget 40 Cl_kinds p1)), (0, .ref (ad 4)), (1, .int p1), (2, .int p2)] dX0_contradict_145 (by decide) rfl ?_
            refine r_aload_n 3 dX0_contradict_147 rfl ?_
            refine r_getf (v := .ref (ad 9)) _ dX0_contradict_148 fl_X0_23 lX_4 rfl ?_
            refine r_iload_n 4 dX0_contradict_151 rfl ?_
            refine c_V (rest := []) 0 0 _ dX0_contradict_152 kv_X0_48 (ct_Row_get lX_9 lX_10 (Nat.le_of_ble_eq_true rfl)) rfl rfl lX_9 rfl (Nat.le_of_ble_eq_true rfl) (by decide) (by decide) ?_
            refine r_aload_n 3 dX0_contradict_155 rfl ?_
            refine r_getf (v := .ref (ad 9)) _ dX0_contradict_156 fl_X0_23 lX_4 rfl ?_
            refine r_iload_n 5 dX0_contradict_159 rfl ?_
            refine c_V (rest := [.int (rget 40 Cl_events p1)]) 0 0 _ dX0_contradict_160 kv_X0_48 (ct_Row_get lX_9 lX_10 (Nat.le_of_ble_eq_true rfl)) rfl rfl lX_9 rfl (Nat.le_of_ble_eq_true rfl) (by decide) (by decide) ?_
            refine r_icmp_ne (tgt := 189) dX0_contradict_163 (by decide) (fun hc707 => ?_) (fun hc707 => ?_)
            · have h := iq (fun z9 => z9) hc707 h
              refine r_iconst (v := (0 : Int32)) dX0_contradict_189 (by decide) ?_
              refine r_istore [(6, .int (0 : Int32)), (5, .int (0 : Int32)), (4, .int (rget 40 Cl_kinds p2)), (3, .int (rget 40 Cl_kinds p1)), (0, .ref (ad 4)), (1, .int p1), (2, .int p2)] dX0_contradict_190 (by decide) rfl ?_
              refine r_iload_n 3 dX0_contradict_192 rfl ?_
              refine r_iconst (v := (1 : Int32)) dX0_contradict_193 (by decide) ?_
              refine r_icmp_ne (tgt := 206) dX0_contradict_194 (by decide) (fun hc708 => ?_) (fun hc708 => ?_)
              · have h := iq (fun z9 => z9) hc708 h
                refine r_iload_n 3 dX0_contradict_206 rfl ?_
                refine r_iload 2 dX0_contradict_207 rfl ?_
                refine r_icmp_eq (tgt := 226) dX0_contradict_209 (by decide) (fun hc709 => ?_) (fun hc709 => ?_)
                · have h := ip (fun z9 => z9) hc709 h
                  refine r_iconst (v := (0 : Int32)) dX0_contradict_226 (by decide) ?_
                  refine r_zret dX0_contradict_227 rfl (by decide) ?_
                  have h : _ = o := h
                  subst h
                  exact hq
                · have h := iq (fun z9 => z9) hc709 h
                  refine r_iload 1 dX0_contradict_212 rfl ?_
                  refine r_if_ne (tgt := 222) dX0_contradict_214 (by decide) (fun hc => absurd hc (by decide)) (fun _ => ?_)
                  refine r_iload 0 dX0_contradict_217 rfl ?_
                  refine r_if_eq (tgt := 226) dX0_contradict_219 (by decide) (fun _ => ?_) (fun hc => absurd hc (by decide))
                  refine r_iconst (v := (0 : Int32)) dX0_contradict_226 (by decide) ?_
                  refine r_zret dX0_contradict_227 rfl (by decide) ?_
                  have h : _ = o := h
                  subst h
                  exact hq
              · have h := ip (fun z9 => z9) hc708 h
                refine r_iload 2 dX0_contradict_197 rfl ?_
                refine r_iconst (v := (1 : Int32)) dX0_contradict_199 (by decide) ?_
                refine r_icmp_ne (tgt := 206) dX0_contradict_200 (by decide) (fun hc710 => ?_) (fun hc710 => ?_)
                · have h := iq (fun z9 => z9) hc710 h
                  refine r_iload_n 3 dX0_contradict_206 rfl ?_
                  refine r_iload 2 dX0_contradict_207 rfl ?_
                  refine r_icmp_eq (tgt := 226) dX0_contradict_209 (by decide) (fun hc711 => ?_) (fun hc711 => ?_)
                  · have h := ip (fun z9 => z9) hc711 h
                    refine r_iconst (v := (0 : Int32)) dX0_contradict_226 (by decide) ?_
                    refine r_zret dX0_contradict_227 rfl (by decide) ?_
                    have h : _ = o := h
                    subst h
                    exact hq
                  · have h := iq (fun z9 => z9) hc711 h
                    refine r_iload 1 dX0_contradict_212 rfl ?_
                    refine r_if_ne (tgt := 222) dX0_contradict_214 (by decide) (fun hc => absurd hc (by decide)) (fun _ => ?_)
                    refine r_iload 0 dX0_contradict_217 rfl ?_
                    refine r_if_eq (tgt := 226) dX0_contradict_219 (by decide) (fun _ => ?_) (fun hc => absurd hc (by decide))
                    refine r_iconst (v := (0 : Int32)) dX0_contradict_226 (by decide) ?_
                    refine r_zret dX0_contradict_227 rfl (by decide) ?_
                    have h : _ = o := h
                    subst h
                    exact hq
                · have h := ip (fun z9 => z9) hc710 h
                  refine r_iload 1 dX0_contradict_203 rfl ?_
                  refine r_zret dX0_contradict_205 rfl (by decide) ?_
                  have h : _ = o := h
                  subst h
                  exact hq
            · have h := ip (fun z9 => z9) hc707 h
              refine r_aload_n 3 dX0_contradict_166 rfl ?_
              refine r_getf (v := .ref (ad 11)) _ dX0_contradict_167 fl_X0_26 lX_4 rfl ?_
              refine r_iload_n 4 dX0_contradict_170 rfl ?_
              refine c_V (rest := []) 0 0 _ dX0_contradict_171 kv_X0_48 (ct_Row_get lX_11 lX_12 (Nat.le_of_ble_eq_true rfl)) rfl rfl lX_11 rfl (Nat.le_of_ble_eq_true rfl) (by decide) (by decide) ?_
              refine r_aload_n 3 dX0_contradict_174 rfl ?_
              refine r_getf (v := .ref (ad 11)) _ dX0_contradict_175 fl_X0_26 lX_4 rfl ?_
              refine r_iload_n 5 dX0_contradict_178 rfl ?_
              refine c_V (rest := [.int (rget 40 Cl_firsts p1)]) 0 0 _ dX0_contradict_179 kv_X0_48 (ct_Row_get lX_11 lX_12 (Nat.le_of_ble_eq_true rfl)) rfl rfl lX_11 rfl (Nat.le_of_ble_eq_true rfl) (by decide) (by decide) ?_
              refine r_icmp_ne (tgt := 189) dX0_contradict_182 (by decide) (fun hc712 => ?_) (fun hc712 => ?_)
              · have h := iq (fun z9 => z9) hc712 h
                refine r_iconst (v := (0 : Int32)) dX0_contradict_189 (by decide) ?_
                refine r_istore [(6, .int (0 : Int32)), (5, .int (0 : Int32)), (4, .int (rget 40 Cl_kinds p2)), (3, .int (rget 40 Cl_kinds p1)), (0, .ref (ad 4)), (1, .int p1), (2, .int p2)] dX0_contradict_190 (by decide) rfl ?_
                refine r_iload_n 3 dX0_contradict_192 rfl ?_
                refine r_iconst (v := (1 : Int32)) dX0_contradict_193 (by decide) ?_
                refine r_icmp_ne (tgt := 206) dX0_contradict_194 (by decide) (fun hc713 => ?_) (fun hc713 => ?_)
                · have h := iq (fun z9 => z9) hc713 h
                  refine r_iload_n 3 dX0_contradict_206 rfl ?_
                  refine r_iload 2 dX0_contradict_207 rfl ?_
                  refine r_icmp_eq (tgt := 226) dX0_contradict_209 (by decide) (fun hc714 => ?_) (fun hc714 => ?_)
                  · have h := ip (fun z9 => z9) hc714 h
                    refine r_iconst (v := (0 : Int32)) dX0_contradict_226 (by decide) ?_
                    refine r_zret dX0_contradict_227 rfl (by decide) ?_
                    have h : _ = o := h
                    subst h
                    exact hq
                  · have h := iq (fun z9 => z9) hc714 h
                    refine r_iload 1 dX0_contradict_212 rfl ?_
                    refine r_if_ne (tgt := 222) dX0_contradict_214 (by decide) (fun hc => absurd hc (by decide)) (fun _ => ?_)
                    refine r_iload 0 dX0_contradict_217 rfl ?_
                    refine r_if_eq (tgt := 226) dX0_contradict_219 (by decide) (fun _ => ?_) (fun hc => absurd hc (by decide))
                    refine r_iconst (v := (0 : Int32)) dX0_contradict_226 (by decide) ?_
                    refine r_zret dX0_contradict_227 rfl (by decide) ?_
                    have h : _ = o := h
                    subst h
                    exact hq
                · have h := ip (fun z9 => z9) hc713 h
                  refine r_iload 2 dX0_contradict_197 rfl ?_
                  refine r_iconst (v := (1 : Int32)) dX0_contradict_199 (by decide) ?_
                  refine r_icmp_ne (tgt := 206) dX0_contradict_200 (by decide) (fun hc715 => ?_) (fun hc715 => ?_)
                  · have h := iq (fun z9 => z9) hc715 h
                    refine r_iload_n 3 dX0_contradict_206 rfl ?_
                    refine r_iload 2 dX0_contradict_207 rfl ?_
                    refine r_icmp_eq (tgt := 226) dX0_contradict_209 (by decide) (fun hc716 => ?_) (fun hc716 => ?_)
                    · have h := ip (fun z9 => z9) hc716 h
                      refine r_iconst (v := (0 : Int32)) dX0_contradict_226 (by decide) ?_
                      refine r_zret dX0_contradict_227 rfl (by decide) ?_
                      have h : _ = o := h
                      subst h
                      exact hq
                    · have h := iq (fun z9 => z9) hc716 h
                      refine r_iload 1 dX0_contradict_212 rfl ?_
                      refine r_if_ne (tgt := 222) dX0_contradict_214 (by decide) (fun hc => absurd hc (by decide)) (fun _ => ?_)
                      refine r_iload 0 dX0_contradict_217 rfl ?_
                      refine r_if_eq (tgt := 226) dX0_contradict_219 (by decide) (fun _ => ?_) (fun hc => absurd hc (by decide))
                      refine r_iconst (v := (0 : Int32)) dX0_contradict_226 (by decide) ?_
                      refine r_zret dX0_contradict_227 rfl (by decide) ?_
                      have h : _ = o := h
                      subst h
                      exact hq
                  · have h := ip (fun z9 => z9) hc715 h
                    refine r_iload 1 dX0_contradict_203 rfl ?_
                    refine r_zret dX0_contradict_205 rfl (by decide) ?_
                    have h : _ = o := h
                    subst h
                    exact hq
              · have h := ip (fun z9 => z9) hc712 h
                refine r_iconst (v := (1 : Int32)) dX0_contradict_185 (by decide) ?_
                refine r_goto (tgt := 190) dX0_contradict_186 (by decide) ?_
                refine r_istore [(6, .int (1 : Int32)), (5, .int (0 : Int32)), (4, .int (rget 40 Cl_kinds p2)), (3, .int (rget 40 Cl_kinds p1)), (0, .ref (ad 4)), (1, .int p1), (2, .int p2)] dX0_contradict_190 (by decide) rfl ?_
                refine r_iload_n 3 dX0_contradict_192 rfl ?_
                refine r_iconst (v := (1 : Int32)) dX0_contradict_193 (by decide) ?_
                refine r_icmp_ne (tgt := 206) dX0_contradict_194 (by decide) (fun hc717 => ?_) (fun hc717 => ?_)
                · have h := iq (fun z9 => z9) hc717 h
                  refine r_iload_n 3 dX0_contradict_206 rfl ?_
                  refine r_iload 2 dX0_contradict_207 rfl ?_
                  refine r_icmp_eq (tgt := 226) dX0_contradict_209 (by decide) (fun hc718 => ?_) (fun hc718 => ?_)
                  · have h := ip (fun z9 => z9) hc718 h
                    refine r_iconst (v := (0 : Int32)) dX0_contradict_226 (by decide) ?_
                    refine r_zret dX0_contradict_227 rfl (by decide) ?_
                    have h : _ = o := h
                    subst h
                    exact hq
                  · have h := iq (fun z9 => z9) hc718 h
                    refine r_iload 1 dX0_contradict_212 rfl ?_
                    refine r_if_ne (tgt := 222) dX0_contradict_214 (by decide) (fun hc => absurd hc (by decide)) (fun _ => ?_)
                    refine r_iload 0 dX0_contradict_217 rfl ?_
                    refine r_if_eq (tgt := 226) dX0_contradict_219 (by decide) (fun hc => absurd hc (by decide)) (fun _ => ?_)
                    refine r_iconst (v := (1 : Int32)) dX0_contradict_222 (by decide) ?_
                    refine r_goto (tgt := 227) dX0_contradict_223 (by decide) ?_
                    refine r_zret dX0_contradict_227 rfl (by decide) ?_
                    have h : _ = o := h
                    subst h
                    exact hq
                · have h := ip (fun z9 => z9) hc717 h
                  refine r_iload 2 dX0_contradict_197 rfl ?_
                  refine r_iconst (v := (1 : Int32)) dX0_contradict_199 (by decide) ?_
                  refine r_icmp_ne (tgt := 206) dX0_contradict_200 (by decide) (fun hc719 => ?_) (fun hc719 => ?_)
                  · have h := iq (fun z9 => z9) hc719 h
                    refine r_iload_n 3 dX0_contradict_206 rfl ?_
                    refine r_iload 2 dX0_contradict_207 rfl ?_
                    refine r_icmp_eq (tgt := 226) dX0_contradict_209 (by decide) (fun hc720 => ?_) (fun hc720 => ?_)
                    · have h := ip (fun z9 => z9) hc720 h
                      refine r_iconst (v := (0 : Int32)) dX0_contradict_226 (by decide) ?_
                      refine r_zret dX0_contradict_227 rfl (by decide) ?_
                      have h : _ = o := h
                      subst h
                      exact hq
                    · have h := iq (fun z9 => z9) hc720 h
                      refine r_iload 1 dX0_contradict_212 rfl ?_
                      refine r_if_ne (tgt := 222) dX0_contradict_214 (by decide) (fun hc => absurd hc (by decide)) (fun _ => ?_)
                      refine r_iload 0 dX0_contradict_217 rfl ?_
                      refine r_if_eq (tgt := 226) dX0_contradict_219 (by decide) (fun hc => absurd hc (by decide)) (fun _ => ?_)
                      refine r_iconst (v := (1 : Int32)) dX0_contradict_222 (by decide) ?_
                      refine r_goto (tgt := 227) dX0_contradict_223 (by decide) ?_
                      refine r_zret dX0_contradict_227 rfl (by decide) ?_
                      have h : _ = o := h
                      subst h
                      exact hq
                  · have h := ip (fun z9 => z9) hc719 h
                    refine r_iload 1 dX0_contradict_203 rfl ?_
                    refine r_zret dX0_contradict_205 rfl (by decide) ?_
                    have h : _ = o := h
                    subst h
                    exact hq
          · have h := ip (fun z9 => z9) hc706 h
            refine r_aload_n 2 dX0_contradict_121 rfl ?_
            refine r_getf (v := .ref (ad 11)) _ dX0_contradict_122 fl_X0_26 lX_4 rfl ?_
            refine r_iload_n 3 dX0_contradict_125 rfl ?_
            refine c_V (rest := []) 0 0 _ dX0_contradict_126 kv_X0_48 (ct_Row_get lX_11 lX_12 (Nat.le_of_ble_eq_true rfl)) rfl rfl lX_11 rfl (Nat.le_of_ble_eq_true rfl) (by decide) (by decide) ?_
            refine r_aload_n 2 dX0_contradict_129 rfl ?_
            refine r_getf (v := .ref (ad 9)) _ dX0_contradict_130 fl_X0_23 lX_4 rfl ?_
            refine r_iload_n 4 dX0_contradict_133 rfl ?_
            refine c_V (rest := [.int (rget 40 Cl_firsts p1)]) 0 0 _ dX0_contradict_134 kv_X0_48 (ct_Row_get lX_9 lX_10 (Nat.le_of_ble_eq_true rfl)) rfl rfl lX_9 rfl (Nat.le_of_ble_eq_true rfl) (by decide) (by decide) ?_
            refine r_icmp_ne (tgt := 144) dX0_contradict_137 (by decide) (fun hc721 => ?_) (fun hc721 => ?_)
            · have h := iq (fun z9 => z9) hc721 h
              refine r_iconst (v := (0 : Int32)) dX0_contradict_144 (by decide) ?_
              refine r_istore [(5, .int (0 : Int32)), (4, .int (rget 40 Cl_kinds p2)), (3, .int (rget 40 Cl_kinds p1)), (0, .ref (ad 4)), (1, .int p1), (2, .int p2)] dX0_contradict_145 (by decide) rfl ?_
              refine r_aload_n 3 dX0_contradict_147 rfl ?_
              refine r_getf (v := .ref (ad 9)) _ dX0_contradict_148 fl_X0_23 lX_4 rfl ?_
              refine r_iload_n 4 dX0_contradict_151 rfl ?_
              refine c_V (rest := []) 0 0 _ dX0_contradict_152 kv_X0_48 (ct_Row_get lX_9 lX_10 (Nat.le_of_ble_eq_true rfl)) rfl rfl lX_9 rfl (Nat.le_of_ble_eq_true rfl) (by decide) (by decide) ?_
              refine r_aload_n 3 dX0_contradict_155 rfl ?_
              refine r_getf (v := .ref (ad 9)) _ dX0_contradict_156 fl_X0_23 lX_4 rfl ?_
              refine r_iload_n 5 dX0_contradict_159 rfl ?_
              refine c_V (rest := [.int (rget 40 Cl_events p1)]) 0 0 _ dX0_contradict_160 kv_X0_48 (ct_Row_get lX_9 lX_10 (Nat.le_of_ble_eq_true rfl)) rfl rfl lX_9 rfl (Nat.le_of_ble_eq_true rfl) (by decide) (by decide) ?_
              refine r_icmp_ne (tgt := 189) dX0_contradict_163 (by decide) (fun hc722 => ?_) (fun hc722 => ?_)
              · have h := iq (fun z9 => z9) hc722 h
                refine r_iconst (v := (0 : Int32)) dX0_contradict_189 (by decide) ?_
                refine r_istore [(6, .int (0 : Int32)), (5, .int (0 : Int32)), (4, .int (rget 40 Cl_kinds p2)), (3, .int (rget 40 Cl_kinds p1)), (0, .ref (ad 4)), (1, .int p1), (2, .int p2)] dX0_contradict_190 (by decide) rfl ?_
                refine r_iload_n 3 dX0_contradict_192 rfl ?_
                refine r_iconst (v := (1 : Int32)) dX0_contradict_193 (by decide) ?_
                refine r_icmp_ne (tgt := 206) dX0_contradict_194 (by decide) (fun hc723 => ?_) (fun hc723 => ?_)
                · have h := iq (fun z9 => z9) hc723 h
                  refine r_iload_n 3 dX0_contradict_206 rfl ?_
                  refine r_iload 2 dX0_contradict_207 rfl ?_
                  refine r_icmp_eq (tgt := 226) dX0_contradict_209 (by decide) (fun hc724 => ?_) (fun hc724 => ?_)
                  · have h := ip (fun z9 => z9) hc724 h
                    refine r_iconst (v := (0 : Int32)) dX0_contradict_226 (by decide) ?_
                    refine r_zret dX0_contradict_227 rfl (by decide) ?_
                    have h : _ = o := h
                    subst h
                    exact hq
                  · have h := iq (fun z9 => z9) hc724 h
                    refine r_iload 1 dX0_contradict_212 rfl ?_
                    refine r_if_ne (tgt := 222) dX0_contradict_214 (by decide) (fun hc => absurd hc (by decide)) (fun _ => ?_)
                    refine r_iload 0 dX0_contradict_217 rfl ?_
                    refine r_if_eq (tgt := 226) dX0_contradict_219 (by decide) (fun _ => ?_) (fun hc => absurd hc (by decide))
                    refine r_iconst (v := (0 : Int32)) dX0_contradict_226 (by decide) ?_
                    refine r_zret dX0_contradict_227 rfl (by decide) ?_
                    have h : _ = o := h
                    subst h
                    exact hq
                · have h := ip (fun z9 => z9) hc723 h
                  refine r_iload 2 dX0_contradict_197 rfl ?_
                  refine r_iconst (v := (1 : Int32)) dX0_contradict_199 (by decide) ?_
                  refine r_icmp_ne (tgt := 206) dX0_contradict_200 (by decide) (fun hc725 => ?_) (fun hc725 => ?_)
                  · have h := iq (fun z9 => z9) hc725 h
                    refine r_iload_n 3 dX0_contradict_206 rfl ?_
                    refine r_iload 2 dX0_contradict_207 rfl ?_
                    refine r_icmp_eq (tgt := 226) dX0_contradict_209 (by decide) (fun hc726 => ?_) (fun hc726 => ?_)
                    · have h := ip (fun z9 => z9) hc726 h
                      refine r_iconst (v := (0 : Int32)) dX0_contradict_226 (by decide) ?_
                      refine r_zret dX0_contradict_227 rfl (by decide) ?_
                      have h : _ = o := h
                      subst h
                      exact hq
                    · have h := iq (fun z9 => z9) hc726 h
                      refine r_iload 1 dX0_contradict_212 rfl ?_
                      refine r_if_ne (tgt := 222) dX0_contradict_214 (by decide) (fun hc => absurd hc (by decide)) (fun _ => ?_)
                      refine r_iload 0 dX0_contradict_217 rfl ?_
                      refine r_if_eq (tgt := 226) dX0_contradict_219 (by decide) (fun _ => ?_) (fun hc => absurd hc (by decide))
                      refine r_iconst (v := (0 : Int32)) dX0_contradict_226 (by decide) ?_
                      refine r_zret dX0_contradict_227 rfl (by decide) ?_
                      have h : _ = o := h
                      subst h
                      exact hq
                  · have h := ip (fun z9 => z9) hc725 h
                    refine r_iload 1 dX0_contradict_203 rfl ?_
                    refine r_zret dX0_contradict_205 rfl (by decide) ?_
                    have h : _ = o := h
                    subst h
                    exact hq
              · have h := ip (fun z9 => z9) hc722 h
                refine r_aload_n 3 dX0_contradict_166 rfl ?_
                refine r_getf (v := .ref (ad 11)) _ dX0_contradict_167 fl_X0_26 lX_4 rfl ?_
                refine r_iload_n 4 dX0_contradict_170 rfl ?_
                refine c_V (rest := []) 0 0 _ dX0_contradict_171 kv_X0_48 (ct_Row_get lX_11 lX_12 (Nat.le_of_ble_eq_true rfl)) rfl rfl lX_11 rfl (Nat.le_of_ble_eq_true rfl) (by decide) (by decide) ?_
                refine r_aload_n 3 dX0_contradict_174 rfl ?_
                refine r_getf (v := .ref (ad 11)) _ dX0_contradict_175 fl_X0_26 lX_4 rfl ?_
                refine r_iload_n 5 dX0_contradict_178 rfl ?_
                refine c_V (rest := [.int (rget 40 Cl_firsts p1)]) 0 0 _ dX0_contradict_179 kv_X0_48 (ct_Row_get lX_11 lX_12 (Nat.le_of_ble_eq_true rfl)) rfl rfl lX_11 rfl (Nat.le_of_ble_eq_true rfl) (by decide) (by decide) ?_
                refine r_icmp_ne (tgt := 189) dX0_contradict_182 (by decide) (fun hc727 => ?_) (fun hc727 => ?_)
                · have h := iq (fun z9 => z9) hc727 h
                  refine r_iconst (v := (0 : Int32)) dX0_contradict_189 (by decide) ?_
                  refine r_istore [(6, .int (0 : Int32)), (5, .int (0 : Int32)), (4, .int (rget 40 Cl_kinds p2)), (3, .int (rget 40 Cl_kinds p1)), (0, .ref (ad 4)), (1, .int p1), (2, .int p2)] dX0_contradict_190 (by decide) rfl ?_
                  refine r_iload_n 3 dX0_contradict_192 rfl ?_
                  refine r_iconst (v := (1 : Int32)) dX0_contradict_193 (by decide) ?_
                  refine r_icmp_ne (tgt := 206) dX0_contradict_194 (by decide) (fun hc728 => ?_) (fun hc728 => ?_)
                  · have h := iq (fun z9 => z9) hc728 h
                    refine r_iload_n 3 dX0_contradict_206 rfl ?_
                    refine r_iload 2 dX0_contradict_207 rfl ?_
                    refine r_icmp_eq (tgt := 226) dX0_contradict_209 (by decide) (fun hc729 => ?_) (fun hc729 => ?_)
                    · have h := ip (fun z9 => z9) hc729 h
                      refine r_iconst (v := (0 : Int32)) dX0_contradict_226 (by decide) ?_
                      refine r_zret dX0_contradict_227 rfl (by decide) ?_
                      have h : _ = o := h
                      subst h
                      exact hq
                    · have h := iq (fun z9 => z9) hc729 h
                      refine r_iload 1 dX0_contradict_212 rfl ?_
                      refine r_if_ne (tgt := 222) dX0_contradict_214 (by decide) (fun hc => absurd hc (by decide)) (fun _ => ?_)
                      refine r_iload 0 dX0_contradict_217 rfl ?_
                      refine r_if_eq (tgt := 226) dX0_contradict_219 (by decide) (fun _ => ?_) (fun hc => absurd hc (by decide))
                      refine r_iconst (v := (0 : Int32)) dX0_contradict_226 (by decide) ?_
                      refine r_zret dX0_contradict_227 rfl (by decide) ?_
                      have h : _ = o := h
                      subst h
                      exact hq
                  · have h := ip (fun z9 => z9) hc728 h
                    refine r_iload 2 dX0_contradict_197 rfl ?_
                    refine r_iconst (v := (1 : Int32)) dX0_contradict_199 (by decide) ?_
                    refine r_icmp_ne (tgt := 206) dX0_contradict_200 (by decide) (fun hc730 => ?_) (fun hc730 => ?_)
                    · have h := iq (fun z9 => z9) hc730 h
                      refine r_iload_n 3 dX0_contradict_206 rfl ?_
                      refine r_iload 2 dX0_contradict_207 rfl ?_
                      refine r_icmp_eq (tgt := 226) dX0_contradict_209 (by decide) (fun hc731 => ?_) (fun hc731 => ?_)
                      · have h := ip (fun z9 => z9) hc731 h
                        refine r_iconst (v := (0 : Int32)) dX0_contradict_226 (by decide) ?_
                        refine r_zret dX0_contradict_227 rfl (by decide) ?_
                        have h : _ = o := h
                        subst h
                        exact hq
                      · have h := iq (fun z9 => z9) hc731 h
                        refine r_iload 1 dX0_contradict_212 rfl ?_
                        refine r_if_ne (tgt := 222) dX0_contradict_214 (by decide) (fun hc => absurd hc (by decide)) (fun _ => ?_)
                        refine r_iload 0 dX0_contradict_217 rfl ?_
                        refine r_if_eq (tgt := 226) dX0_contradict_219 (by decide) (fun _ => ?_) (fun hc => absurd hc (by decide))
                        refine r_iconst (v := (0 : Int32)) dX0_contradict_226 (by decide) ?_
                        refine r_zret dX0_contradict_227 rfl (by decide) ?_
                        have h : _ = o := h
                        subst h
                        exact hq
                    · have h := ip (fun z9 => z9) hc730 h
                      refine r_iload 1 dX0_contradict_203 rfl ?_
                      refine r_zret dX0_contradict_205 rfl (by decide) ?_
                      have h : _ = o := h
                      subst h
                      exact hq
                · have h := ip (fun z9 => z9) hc727 h
                  refine r_iconst (v := (1 : Int32)) dX0_contradict_185 (by decide) ?_
                  refine r_goto (tgt := 190) dX0_contradict_186 (by decide) ?_
                  refine r_istore [(6, .int (1 : Int32)), (5, .int (0 : Int32)), (4, .int (rget 40 Cl_kinds p2)), (3, .int (rget 40 Cl_kinds p1)), (0, .ref (ad 4)), (1, .int p1), (2, .int p2)] dX0_contradict_190 (by decide) rfl ?_
                  refine r_iload_n 3 dX0_contradict_192 rfl ?_
                  refine r_iconst (v := (1 : Int32)) dX0_contradict_193 (by decide) ?_
                  refine r_icmp_ne (tgt := 206) dX0_contradict_194 (by decide) (fun hc732 => ?_) (fun hc732 => ?_)
                  · have h := iq (fun z9 => z9) hc732 h
                    refine r_iload_n 3 dX0_contradict_206 rfl ?_
                    refine r_iload 2 dX0_contradict_207 rfl ?_
                    refine r_icmp_eq (tgt := 226) dX0_contradict_209 (by decide) (fun hc733 => ?_) (fun hc733 => ?_)
                    · have h := ip (fun z9 => z9) hc733 h
                      refine r_iconst (v := (0 : Int32)) dX0_contradict_226 (by decide) ?_
                      refine r_zret dX0_contradict_227 rfl (by decide) ?_
                      have h : _ = o := h
                      subst h
                      exact hq
                    · have h := iq (fun z9 => z9) hc733 h
                      refine r_iload 1 dX0_contradict_212 rfl ?_
                      refine r_if_ne (tgt := 222) dX0_contradict_214 (by decide) (fun hc => absurd hc (by decide)) (fun _ => ?_)
                      refine r_iload 0 dX0_contradict_217 rfl ?_
                      refine r_if_eq (tgt := 226) dX0_contradict_219 (by decide) (fun hc => absurd hc (by decide)) (fun _ => ?_)
                      refine r_iconst (v := (1 : Int32)) dX0_contradict_222 (by decide) ?_
                      refine r_goto (tgt := 227) dX0_contradict_223 (by decide) ?_
                      refine r_zret dX0_contradict_227 rfl (by decide) ?_
                      have h : _ = o := h
                      subst h
                      exact hq
                  · have h := ip (fun z9 => z9) hc732 h
                    refine r_iload 2 dX0_contradict_197 rfl ?_
                    refine r_iconst (v := (1 : Int32)) dX0_contradict_199 (by decide) ?_
                    refine r_icmp_ne (tgt := 206) dX0_contradict_200 (by decide) (fun hc734 => ?_) (fun hc734 => ?_)
                    · have h := iq (fun z9 => z9) hc734 h
                      refine r_iload_n 3 dX0_contradict_206 rfl ?_
                      refine r_iload 2 dX0_contradict_207 rfl ?_
                      refine r_icmp_eq (tgt := 226) dX0_contradict_209 (by decide) (fun hc735 => ?_) (fun hc735 => ?_)
                      · have h := ip (fun z9 => z9) hc735 h
                        refine r_iconst (v := (0 : Int32)) dX0_contradict_226 (by decide) ?_
                        refine r_zret dX0_contradict_227 rfl (by decide) ?_
                        have h : _ = o := h
                        subst h
                        exact hq
                      · have h := iq (fun z9 => z9) hc735 h
                        refine r_iload 1 dX0_contradict_212 rfl ?_
                        refine r_if_ne (tgt := 222) dX0_contradict_214 (by decide) (fun hc => absurd hc (by decide)) (fun _ => ?_)
                        refine r_iload 0 dX0_contradict_217 rfl ?_
                        refine r_if_eq (tgt := 226) dX0_contradict_219 (by decide) (fun hc => absurd hc (by decide)) (fun _ => ?_)
                        refine r_iconst (v := (1 : Int32)) dX0_contradict_222 (by decide) ?_
                        refine r_goto (tgt := 227) dX0_contradict_223 (by decide) ?_
                        refine r_zret dX0_contradict_227 rfl (by decide) ?_
                        have h : _ = o := h
                        subst h
                        exact hq
                    · have h := ip (fun z9 => z9) hc734 h
                      refine r_iload 1 dX0_contradict_203 rfl ?_
                      refine r_zret dX0_contradict_205 rfl (by decide) ?_
                      have h : _ = o := h
                      subst h
                      exact hq
            · have h := ip (fun z9 => z9) hc721 h
              refine r_iconst (v := (1 : Int32)) dX0_contradict_140 (by decide) ?_
              refine r_goto (tgt := 145) dX0_contradict_141 (by decide) ?_
              refine r_istore [(5, .int (1 : Int32)), (4, .int (rget 40 Cl_kinds p2)), (3, .int (rget 40 Cl_kinds p1)), (0, .ref (ad 4)), (1, .int p1), (2, .int p2)] dX0_contradict_145 (by decide) rfl ?_
              refine r_aload_n 3 dX0_contradict_147 rfl ?_
              refine r_getf (v := .ref (ad 9)) _ dX0_contradict_148 fl_X0_23 lX_4 rfl ?_
              refine r_iload_n 4 dX0_contradict_151 rfl ?_
              refine c_V (rest := []) 0 0 _ dX0_contradict_152 kv_X0_48 (ct_Row_get lX_9 lX_10 (Nat.le_of_ble_eq_true rfl)) rfl rfl lX_9 rfl (Nat.le_of_ble_eq_true rfl) (by decide) (by decide) ?_
              refine r_aload_n 3 dX0_contradict_155 rfl ?_
              refine r_getf (v := .ref (ad 9)) _ dX0_contradict_156 fl_X0_23 lX_4 rfl ?_
              refine r_iload_n 5 dX0_contradict_159 rfl ?_
              refine c_V (rest := [.int (rget 40 Cl_events p1)]) 0 0 _ dX0_contradict_160 kv_X0_48 (ct_Row_get lX_9 lX_10 (Nat.le_of_ble_eq_true rfl)) rfl rfl lX_9 rfl (Nat.le_of_ble_eq_true rfl) (by decide) (by decide) ?_
              refine r_icmp_ne (tgt := 189) dX0_contradict_163 (by decide) (fun hc736 => ?_) (fun hc736 => ?_)
              · have h := iq (fun z9 => z9) hc736 h
                refine r_iconst (v := (0 : Int32)) dX0_contradict_189 (by decide) ?_
                refine r_istore [(6, .int (0 : Int32)), (5, .int (1 : Int32)), (4, .int (rget 40 Cl_kinds p2)), (3, .int (rget 40 Cl_kinds p1)), (0, .ref (ad 4)), (1, .int p1), (2, .int p2)] dX0_contradict_190 (by decide) rfl ?_
                refine r_iload_n 3 dX0_contradict_192 rfl ?_
                refine r_iconst (v := (1 : Int32)) dX0_contradict_193 (by decide) ?_
                refine r_icmp_ne (tgt := 206) dX0_contradict_194 (by decide) (fun hc737 => ?_) (fun hc737 => ?_)
                · have h := iq (fun z9 => z9) hc737 h
                  refine r_iload_n 3 dX0_contradict_206 rfl ?_
                  refine r_iload 2 dX0_contradict_207 rfl ?_
                  refine r_icmp_eq (tgt := 226) dX0_contradict_209 (by decide) (fun hc738 => ?_) (fun hc738 => ?_)
                  · have h := ip (fun z9 => z9) hc738 h
                    refine r_iconst (v := (0 : Int32)) dX0_contradict_226 (by decide) ?_
                    refine r_zret dX0_contradict_227 rfl (by decide) ?_
                    have h : _ = o := h
                    subst h
                    exact hq
                  · have h := iq (fun z9 => z9) hc738 h
                    refine r_iload 1 dX0_contradict_212 rfl ?_
                    refine r_if_ne (tgt := 222) dX0_contradict_214 (by decide) (fun _ => ?_) (fun hc => absurd hc (by decide))
                    refine r_iconst (v := (1 : Int32)) dX0_contradict_222 (by decide) ?_
                    refine r_goto (tgt := 227) dX0_contradict_223 (by decide) ?_
                    refine r_zret dX0_contradict_227 rfl (by decide) ?_
                    have h : _ = o := h
                    subst h
                    exact hq
                · have h := ip (fun z9 => z9) hc737 h
                  refine r_iload 2 dX0_contradict_197 rfl ?_
                  refine r_iconst (v := (1 : Int32)) dX0_contradict_199 (by decide) ?_
                  refine r_icmp_ne (tgt := 206) dX0_contradict_200 (by decide) (fun hc739 => ?_) (fun hc739 => ?_)
                  · have h := iq (fun z9 => z9) hc739 h
                    refine r_iload_n 3 dX0_contradict_206 rfl ?_
                    refine r_iload 2 dX0_contradict_207 rfl ?_
                    refine r_icmp_eq (tgt := 226) dX0_contradict_209 (by decide) (fun hc740 => ?_) (fun hc740 => ?_)
                    · have h := ip (fun z9 => z9) hc740 h
                      refine r_iconst (v := (0 : Int32)) dX0_contradict_226 (by decide) ?_
                      refine r_zret dX0_contradict_227 rfl (by decide) ?_
                      have h : _ = o := h
                      subst h
                      exact hq
                    · have h := iq (fun z9 => z9) hc740 h
                      refine r_iload 1 dX0_contradict_212 rfl ?_
                      refine r_if_ne (tgt := 222) dX0_contradict_214 (by decide) (fun _ => ?_) (fun hc => absurd hc (by decide))
                      refine r_iconst (v := (1 : Int32)) dX0_contradict_222 (by decide) ?_
                      refine r_goto (tgt := 227) dX0_contradict_223 (by decide) ?_
                      refine r_zret dX0_contradict_227 rfl (by decide) ?_
                      have h : _ = o := h
                      subst h
                      exact hq
                  · have h := ip (fun z9 => z9) hc739 h
                    refine r_iload 1 dX0_contradict_203 rfl ?_
                    refine r_zret dX0_contradict_205 rfl (by decide) ?_
                    have h : _ = o := h
                    subst h
                    exact hq
              · have h := ip (fun z9 => z9) hc736 h
                refine r_aload_n 3 dX0_contradict_166 rfl ?_
                refine r_getf (v := .ref (ad 11)) _ dX0_contradict_167 fl_X0_26 lX_4 rfl ?_
                refine r_iload_n 4 dX0_contradict_170 rfl ?_
                refine c_V (rest := []) 0 0 _ dX0_contradict_171 kv_X0_48 (ct_Row_get lX_11 lX_12 (Nat.le_of_ble_eq_true rfl)) rfl rfl lX_11 rfl (Nat.le_of_ble_eq_true rfl) (by decide) (by decide) ?_
                refine r_aload_n 3 dX0_contradict_174 rfl ?_
                refine r_getf (v := .ref (ad 11)) _ dX0_contradict_175 fl_X0_26 lX_4 rfl ?_
                refine r_iload_n 5 dX0_contradict_178 rfl ?_
                refine c_V (rest := [.int (rget 40 Cl_firsts p1)]) 0 0 _ dX0_contradict_179 kv_X0_48 (ct_Row_get lX_11 lX_12 (Nat.le_of_ble_eq_true rfl)) rfl rfl lX_11 rfl (Nat.le_of_ble_eq_true rfl) (by decide) (by decide) ?_
                refine r_icmp_ne (tgt := 189) dX0_contradict_182 (by decide) (fun hc741 => ?_) (fun hc741 => ?_)
                · have h := iq (fun z9 => z9) hc741 h
                  refine r_iconst (v := (0 : Int32)) dX0_contradict_189 (by decide) ?_
                  refine r_istore [(6, .int (0 : Int32)), (5, .int (1 : Int32)), (4, .int (rget 40 Cl_kinds p2)), (3, .int (rget 40 Cl_kinds p1)), (0, .ref (ad 4)), (1, .int p1), (2, .int p2)] dX0_contradict_190 (by decide) rfl ?_
                  refine r_iload_n 3 dX0_contradict_192 rfl ?_
                  refine r_iconst (v := (1 : Int32)) dX0_contradict_193 (by decide) ?_
                  refine r_icmp_ne (tgt := 206) dX0_contradict_194 (by decide) (fun hc742 => ?_) (fun hc742 => ?_)
                  · have h := iq (fun z9 => z9) hc742 h
                    refine r_iload_n 3 dX0_contradict_206 rfl ?_
                    refine r_iload 2 dX0_contradict_207 rfl ?_
                    refine r_icmp_eq (tgt := 226) dX0_contradict_209 (by decide) (fun hc743 => ?_) (fun hc743 => ?_)
                    · have h := ip (fun z9 => z9) hc743 h
                      refine r_iconst (v := (0 : Int32)) dX0_contradict_226 (by decide) ?_
                      refine r_zret dX0_contradict_227 rfl (by decide) ?_
                      have h : _ = o := h
                      subst h
                      exact hq
                    · have h := iq (fun z9 => z9) hc743 h
                      refine r_iload 1 dX0_contradict_212 rfl ?_
                      refine r_if_ne (tgt := 222) dX0_contradict_214 (by decide) (fun _ => ?_) (fun hc => absurd hc (by decide))
                      refine r_iconst (v := (1 : Int32)) dX0_contradict_222 (by decide) ?_
                      refine r_goto (tgt := 227) dX0_contradict_223 (by decide) ?_
                      refine r_zret dX0_contradict_227 rfl (by decide) ?_
                      have h : _ = o := h
                      subst h
                      exact hq
                  · have h := ip (fun z9 => z9) hc742 h
                    refine r_iload 2 dX0_contradict_197 rfl ?_
                    refine r_iconst (v := (1 : Int32)) dX0_contradict_199 (by decide) ?_
                    refine r_icmp_ne (tgt := 206) dX0_contradict_200 (by decide) (fun hc744 => ?_) (fun hc744 => ?_)
                    · have h := iq (fun z9 => z9) hc744 h
                      refine r_iload_n 3 dX0_contradict_206 rfl ?_
                      refine r_iload 2 dX0_contradict_207 rfl ?_
                      refine r_icmp_eq (tgt := 226) dX0_contradict_209 (by decide) (fun hc745 => ?_) (fun hc745 => ?_)
                      · have h := ip (fun z9 => z9) hc745 h
                        refine r_iconst (v := (0 : Int32)) dX0_contradict_226 (by decide) ?_
                        refine r_zret dX0_contradict_227 rfl (by decide) ?_
                        have h : _ = o := h
                        subst h
                        exact hq
                      · have h := iq (fun z9 => z9) hc745 h
                        refine r_iload 1 dX0_contradict_212 rfl ?_
                        refine r_if_ne (tgt := 222) dX0_contradict_214 (by decide) (fun _ => ?_) (fun hc => absurd hc (by decide))
                        refine r_iconst (v := (1 : Int32)) dX0_contradict_222 (by decide) ?_
                        refine r_goto (tgt := 227) dX0_contradict_223 (by decide) ?_
                        refine r_zret dX0_contradict_227 rfl (by decide) ?_
                        have h : _ = o := h
                        subst h
                        exact hq
                    · have h := ip (fun z9 => z9) hc744 h
                      refine r_iload 1 dX0_contradict_203 rfl ?_
                      refine r_zret dX0_contradict_205 rfl (by decide) ?_
                      have h : _ = o := h
                      subst h
                      exact hq
                · have h := ip (fun z9 => z9) hc741 h
                  refine r_iconst (v := (1 : Int32)) dX0_contradict_185 (by decide) ?_
                  refine r_goto (tgt := 190) dX0_contradict_186 (by decide) ?_
                  refine r_istore [(6, .int (1 : Int32)), (5, .int (1 : Int32)), (4, .int (rget 40 Cl_kinds p2)), (3, .int (rget 40 Cl_kinds p1)), (0, .ref (ad 4)), (1, .int p1), (2, .int p2)] dX0_contradict_190 (by decide) rfl ?_
                  refine r_iload_n 3 dX0_contradict_192 rfl ?_
                  refine r_iconst (v := (1 : Int32)) dX0_contradict_193 (by decide) ?_
                  refine r_icmp_ne (tgt := 206) dX0_contradict_194 (by decide) (fun hc746 => ?_) (fun hc746 => ?_)
                  · have h := iq (fun z9 => z9) hc746 h
                    refine r_iload_n 3 dX0_contradict_206 rfl ?_
                    refine r_iload 2 dX0_contradict_207 rfl ?_
                    refine r_icmp_eq (tgt := 226) dX0_contradict_209 (by decide) (fun hc747 => ?_) (fun hc747 => ?_)
                    · have h := ip (fun z9 => z9) hc747 h
                      refine r_iconst (v := (0 : Int32)) dX0_contradict_226 (by decide) ?_
                      refine r_zret dX0_contradict_227 rfl (by decide) ?_
                      have h : _ = o := h
                      subst h
                      exact hq
                    · have h := iq (fun z9 => z9) hc747 h
                      refine r_iload 1 dX0_contradict_212 rfl ?_
                      refine r_if_ne (tgt := 222) dX0_contradict_214 (by decide) (fun _ => ?_) (fun hc => absurd hc (by decide))
                      refine r_iconst (v := (1 : Int32)) dX0_contradict_222 (by decide) ?_
                      refine r_goto (tgt := 227) dX0_contradict_223 (by decide) ?_
                      refine r_zret dX0_contradict_227 rfl (by decide) ?_
                      have h : _ = o := h
                      subst h
                      exact hq
                  · have h := ip (fun z9 => z9) hc746 h
                    refine r_iload 2 dX0_contradict_197 rfl ?_
                    refine r_iconst (v := (1 : Int32)) dX0_contradict_199 (by decide) ?_
                    refine r_icmp_ne (tgt := 206) dX0_contradict_200 (by decide) (fun hc748 => ?_) (fun hc748 => ?_)
                    · have h := iq (fun z9 => z9) hc748 h
                      refine r_iload_n 3 dX0_contradict_206 rfl ?_
                      refine r_iload 2 dX0_contradict_207 rfl ?_
                      refine r_icmp_eq (tgt := 226) dX0_contradict_209 (by decide) (fun hc749 => ?_) (fun hc749 => ?_)
                      · have h := ip (fun z9 => z9) hc749 h
                        refine r_iconst (v := (0 : Int32)) dX0_contradict_226 (by decide) ?_
                        refine r_zret dX0_contradict_227 rfl (by decide) ?_
                        have h : _ = o := h
                        subst h
                        exact hq
                      · have h := iq (fun z9 => z9) hc749 h
                        refine r_iload 1 dX0_contradict_212 rfl ?_
                        refine r_if_ne (tgt := 222) dX0_contradict_214 (by decide) (fun _ => ?_) (fun hc => absurd hc (by decide))
                        refine r_iconst (v := (1 : Int32)) dX0_contradict_222 (by decide) ?_
                        refine r_goto (tgt := 227) dX0_contradict_223 (by decide) ?_
                        refine r_zret dX0_contradict_227 rfl (by decide) ?_
                        have h : _ = o := h
                        subst h
                        exact hq
                    · have h := ip (fun z9 => z9) hc748 h
                      refine r_iload 1 dX0_contradict_203 rfl ?_
                      refine r_zret dX0_contradict_205 rfl (by decide) ?_
                      have h : _ = o := h
                      subst h
                      exact hq
        · have h := ip (fun z9 => z9) hc705 h
          refine r_iconst (v := (0 : Int32)) dX0_contradict_100 (by decide) ?_
          refine r_zret dX0_contradict_101 rfl (by decide) ?_
          have h : _ = o := h
          subst h
          exact hq
    · have h := ip (fun z9 => z9) hc703 h
      refine r_aload_n 2 dX0_contradict_28 rfl ?_
      refine r_getf (v := .ref (ad 9)) _ dX0_contradict_29 fl_X0_23 lX_4 rfl ?_
      refine r_iload_n 3 dX0_contradict_32 rfl ?_
      refine c_V (rest := []) 0 0 _ dX0_contradict_33 kv_X0_48 (ct_Row_get lX_9 lX_10 (Nat.le_of_ble_eq_true rfl)) rfl rfl lX_9 rfl (Nat.le_of_ble_eq_true rfl) (by decide) (by decide) ?_
      refine r_aload_n 2 dX0_contradict_36 rfl ?_
      refine r_getf (v := .ref (ad 9)) _ dX0_contradict_37 fl_X0_23 lX_4 rfl ?_
      refine r_iload_n 4 dX0_contradict_40 rfl ?_
      refine c_V (rest := [.int (rget 40 Cl_events p1)]) 0 0 _ dX0_contradict_41 kv_X0_48 (ct_Row_get lX_9 lX_10 (Nat.le_of_ble_eq_true rfl)) rfl rfl lX_9 rfl (Nat.le_of_ble_eq_true rfl) (by decide) (by decide) ?_
      refine r_icmp_ne (tgt := 89) dX0_contradict_44 (by decide) (fun hc750 => ?_) (fun hc750 => ?_)
      · have h := iq (fun z9 => z9) hc750 h
        refine r_iconst (v := (0 : Int32)) dX0_contradict_89 (by decide) ?_
        refine r_zret dX0_contradict_90 rfl (by decide) ?_
        have h : _ = o := h
        subst h
        exact hq
      · have h := ip (fun z9 => z9) hc750 h
        refine r_aload_n 2 dX0_contradict_47 rfl ?_
        refine r_getf (v := .ref (ad 13)) _ dX0_contradict_48 fl_X0_29 lX_4 rfl ?_
        refine r_iload_n 3 dX0_contradict_51 rfl ?_
        refine c_V (rest := []) 0 0 _ dX0_contradict_52 kv_X0_48 (ct_Row_get lX_13 lX_14 (Nat.le_of_ble_eq_true rfl)) rfl rfl lX_13 rfl (Nat.le_of_ble_eq_true rfl) (by decide) (by decide) ?_
        refine r_aload_n 2 dX0_contradict_55 rfl ?_
        refine r_getf (v := .ref (ad 11)) _ dX0_contradict_56 fl_X0_26 lX_4 rfl ?_
        refine r_iload_n 4 dX0_contradict_59 rfl ?_
        refine c_V (rest := [.int (rget 40 Cl_lasts p1)]) 0 0 _ dX0_contradict_60 kv_X0_48 (ct_Row_get lX_11 lX_12 (Nat.le_of_ble_eq_true rfl)) rfl rfl lX_11 rfl (Nat.le_of_ble_eq_true rfl) (by decide) (by decide) ?_
        refine r_icmp_lt (tgt := 85) dX0_contradict_63 (by decide) (fun hc751 => ?_) (fun hc751 => ?_)
        · have h := ip (fun z9 => z9) hc751 h
          refine r_iconst (v := (1 : Int32)) dX0_contradict_85 (by decide) ?_
          refine r_goto (tgt := 90) dX0_contradict_86 (by decide) ?_
          refine r_zret dX0_contradict_90 rfl (by decide) ?_
          have h : _ = o := h
          subst h
          exact hq
        · have h := iq (fun z9 => z9) hc751 h
          refine r_aload_n 2 dX0_contradict_66 rfl ?_
          refine r_getf (v := .ref (ad 13)) _ dX0_contradict_67 fl_X0_29 lX_4 rfl ?_
          refine r_iload_n 4 dX0_contradict_70 rfl ?_
          refine c_V (rest := []) 0 0 _ dX0_contradict_71 kv_X0_48 (ct_Row_get lX_13 lX_14 (Nat.le_of_ble_eq_true rfl)) rfl rfl lX_13 rfl (Nat.le_of_ble_eq_true rfl) (by decide) (by decide) ?_
          refine r_aload_n 2 dX0_contradict_74 rfl ?_
          refine r_getf (v := .ref (ad 11)) _ dX0_contradict_75 fl_X0_26 lX_4 rfl ?_
          refine r_iload_n 3 dX0_contradict_78 rfl ?_
          refine c_V (rest := [.int (rget 40 Cl_lasts p2)]) 0 0 _ dX0_contradict_79 kv_X0_48 (ct_Row_get lX_11 lX_12 (Nat.le_of_ble_eq_true rfl)) rfl rfl lX_11 rfl (Nat.le_of_ble_eq_true rfl) (by decide) (by decide) ?_
          refine r_icmp_ge (tgt := 89) dX0_contradict_82 (by decide) (fun hc752 => ?_) (fun hc752 => ?_)
          · have h := ip (fun z9 => z9) hc752 h
            refine r_iconst (v := (0 : Int32)) dX0_contradict_89 (by decide) ?_
            refine r_zret dX0_contradict_90 rfl (by decide) ?_
            have h : _ = o := h
            subst h
            exact hq
          · have h := iq (fun z9 => z9) hc752 h
            refine r_iconst (v := (1 : Int32)) dX0_contradict_85 (by decide) ?_
            refine r_goto (tgt := 90) dX0_contradict_86 (by decide) ?_
            refine r_zret dX0_contradict_90 rfl (by decide) ?_
            have h : _ = o := h
            subst h
            exact hq
theorem ct_Cl_contradict {g : GG} {ad : Nat → Nat} {t : va_W} {x0 x1 x3 x4 x5 x11 x12 x18 x19 x20 x24 x25 x26 x27 x28 x29 x30 x31 x37 x39 x40 x41 x47 x48 x54 x56 x58 x59 x60 x61 x63 x64 x65 x66 : Int32} {x2 x6 x13 x14 x15 x16 x17 x21 x22 x23 x33 x34 x35 x42 x43 x44 x45 x46 x49 x50 x51 x52 x53 x62 x67 : Nat → Int32} {x32 : Int64} {x36 x38 x55 x57 : Nat → Int64} {Cl_kinds : Nat → Int32} {Cl_events : Nat → Int32} {Cl_firsts : Nat → Int32} {Cl_lasts : Nat → Int32} {p1 : Int32} {p2 : Int32} {o : Int32} (h : f_Cl_contradict Cl_kinds Cl_events Cl_firsts Cl_lasts p1 p2 = o) : Ct g mX0_contradict 2 0 0 [.ref (ad 4), .int p1, .int p2] (wlX g ad x0 x1 x2 x3 x4 x5 x6 Cl_kinds Cl_events Cl_firsts Cl_lasts x11 x12 x13 x14 x15 x16 x17 x18 x19 x20 x21 x22 x23 x24 x25 x26 x27 x28 x29 x30 x31 x32 x33 x34 x35 x36 x37 x38 x39 x40 x41 x42 x43 x44 x45 x46 x47 x48 x49 x50 x51 x52 x53 x54 x55 x56 x57 x58 x59 x60 x61 x62 x63 x64 x65 x66 x67 ++ t) (Dv (some (.int o)) (wlX g ad x0 x1 x2 x3 x4 x5 x6 Cl_kinds Cl_events Cl_firsts Cl_lasts x11 x12 x13 x14 x15 x16 x17 x18 x19 x20 x21 x22 x23 x24 x25 x26 x27 x28 x29 x30 x31 x32 x33 x34 x35 x36 x37 x38 x39 x40 x41 x42 x43 x44 x45 x46 x47 x48 x49 x50 x51 x52 x53 x54 x55 x56 x57 x58 x59 x60 x61 x62 x63 x64 x65 x66 x67 ++ t)) := Ct.ofR (by decide +kernel) rfl (Nat.le_of_ble_eq_true rfl) (rt_Cl_contradict h ⟨rfl, rfl⟩)
