set_option maxRecDepth 20000 in
set_option maxHeartbeats 4000000 in
theorem rt_Main_contraryPairs {g : GG} {ad : Nat → Nat} {t : va_W} {x0 x1 x3 x11 x12 x18 x19 x20 x24 x25 x26 x27 x28 x29 x30 x31 x37 x39 x40 x41 x47 x48 x54 x56 x58 x59 x60 x61 x63 x64 x65 x66 : Int32} {x2 x13 x14 x15 x16 x17 x21 x22 x23 x33 x34 x35 x42 x43 x44 x45 x46 x49 x50 x51 x52 x53 x62 x67 : Nat → Int32} {x32 : Int64} {x36 x38 x55 x57 : Nat → Int64} {N : Nat} {Tap_tellerCount : Int32} {Cl_count : Int32} {Cl_tellers : Nat → Int32} {Cl_kinds : Nat → Int32} {Cl_events : Nat → Int32} {Cl_firsts : Nat → Int32} {Cl_lasts : Nat → Int32} {p1 : Int32} {p2 : Int32} {o : (Int32) ⊕ String} {Q : Rs → va_W → Prop} (h : f_Main_contraryPairs N Tap_tellerCount Cl_count Cl_tellers Cl_kinds Cl_events Cl_firsts Cl_lasts p1 p2 = some o) (hq1 : ∀ q, o = .inl q → Q (.inl (some (.int q))) (wlX g ad x0 x1 x2 x3 Tap_tellerCount Cl_count Cl_tellers Cl_kinds Cl_events Cl_firsts Cl_lasts x11 x12 x13 x14 x15 x16 x17 x18 x19 x20 x21 x22 x23 x24 x25 x26 x27 x28 x29 x30 x31 x32 x33 x34 x35 x36 x37 x38 x39 x40 x41 x42 x43 x44 x45 x46 x47 x48 x49 x50 x51 x52 x53 x54 x55 x56 x57 x58 x59 x60 x61 x62 x63 x64 x65 x66 x67 ++ t)) (hq2 : ∀ E, o = .inr E → Q (.inr E) (wlX g ad x0 x1 x2 x3 Tap_tellerCount Cl_count Cl_tellers Cl_kinds Cl_events Cl_firsts Cl_lasts x11 x12 x13 x14 x15 x16 x17 x18 x19 x20 x21 x22 x23 x24 x25 x26 x27 x28 x29 x30 x31 x32 x33 x34 x35 x36 x37 x38 x39 x40 x41 x42 x43 x44 x45 x46 x47 x48 x49 x50 x51 x52 x53 x54 x55 x56 x57 x58 x59 x60 x61 x62 x63 x64 x65 x66 x67 ++ t)) : R g mX9_contraryPairs 7 2 12 0 [(0, .ref (ad 0)), (1, .int p1), (2, .int p2)] [] (wlX g ad x0 x1 x2 x3 Tap_tellerCount Cl_count Cl_tellers Cl_kinds Cl_events Cl_firsts Cl_lasts x11 x12 x13 x14 x15 x16 x17 x18 x19 x20 x21 x22 x23 x24 x25 x26 x27 x28 x29 x30 x31 x32 x33 x34 x35 x36 x37 x38 x39 x40 x41 x42 x43 x44 x45 x46 x47 x48 x49 x50 x51 x52 x53 x54 x55 x56 x57 x58 x59 x60 x61 x62 x63 x64 x65 x66 x67 ++ t) Q := by
  unfold f_Main_contraryPairs at h
  refine r_aload_n 0 dX9_contraryPairs_0 rfl ?_
  refine r_iload_n 1 dX9_contraryPairs_1 rfl ?_
  obtain ⟨r848, hc849, h⟩ := ob (fun z9 => z9) rfl h
  rcases r848 with q850 | E857
  · refine c_Xv (rest := []) 1 6 _ dX9_contraryPairs_2 kv_X9_156 (ct_Main_needTeller hc849) rfl rfl lX_0 rfl (Nat.le_of_ble_eq_true rfl) (by decide) (by decide) ?_
    try dsimp only [Sum.elim_inl, Sum.elim_inr] at h
    refine r_aload_n 0 dX9_contraryPairs_5 rfl ?_
    refine r_iload_n 2 dX9_contraryPairs_6 rfl ?_
    obtain ⟨r851, hc852, h⟩ := ob (fun z9 => z9) rfl h
    rcases r851 with q853 | E856
    · refine c_Xv (rest := []) 0 0 _ dX9_contraryPairs_7 kv_X9_156 (ct_Main_needTeller hc852) rfl rfl lX_0 rfl (Nat.le_of_ble_eq_true rfl) (by decide) (by decide) ?_
      try dsimp only [Sum.elim_inl, Sum.elim_inr] at h
      refine r_aload_n 0 dX9_contraryPairs_10 rfl ?_
      refine r_getf (v := .ref (ad 3)) _ dX9_contraryPairs_11 fl_X9_35 lX_0 rfl ?_
      refine r_getf (v := .ref (ad 4)) _ dX9_contraryPairs_14 fl_X9_104 lX_3 rfl ?_
      refine r_iload_n 1 dX9_contraryPairs_17 rfl ?_
      refine r_iload_n 2 dX9_contraryPairs_18 rfl ?_
      obtain ⟨r854, hc855, h⟩ := ob (fun z9 => z9) rfl h
      refine c_V (rest := []) 0 0 _ dX9_contraryPairs_19 kv_X9_172 (ct_Cl_pairsOf hc855) rfl rfl lX_4 rfl (Nat.le_of_ble_eq_true rfl) (by decide) (by decide) ?_
      refine r_iret dX9_contraryPairs_22 rfl ?_
      have h := Option.some.inj (show some _ = some o from h)
      subst h
      exact hq1 _ rfl
    · refine c_Xt (rest := []) 0 0 _ dX9_contraryPairs_7 kv_X9_156 (ct_Main_needTeller hc852) rfl rfl lX_0 rfl (Nat.le_of_ble_eq_true rfl) (by decide) (by decide) ?_
      refine rx_out rfl ?_
      have h := Option.some.inj (show some _ = some o from h)
      subst h
      exact hq2 _ rfl
  · refine c_Xt (rest := []) 1 6 _ dX9_contraryPairs_2 kv_X9_156 (ct_Main_needTeller hc849) rfl rfl lX_0 rfl (Nat.le_of_ble_eq_true rfl) (by decide) (by decide) ?_
    refine rx_out rfl ?_
    have h := Option.some.inj (show some _ = some o from h)
    subst h
    exact hq2 _ rfl
theorem ct_Main_contraryPairs {g : GG} {ad : Nat → Nat} {t : va_W} {x0 x1 x3 x11 x12 x18 x19 x20 x24 x25 x26 x27 x28 x29 x30 x31 x37 x39 x40 x41 x47 x48 x54 x56 x58 x59 x60 x61 x63 x64 x65 x66 : Int32} {x2 x13 x14 x15 x16 x17 x21 x22 x23 x33 x34 x35 x42 x43 x44 x45 x46 x49 x50 x51 x52 x53 x62 x67 : Nat → Int32} {x32 : Int64} {x36 x38 x55 x57 : Nat → Int64} {N : Nat} {Tap_tellerCount : Int32} {Cl_count : Int32} {Cl_tellers : Nat → Int32} {Cl_kinds : Nat → Int32} {Cl_events : Nat → Int32} {Cl_firsts : Nat → Int32} {Cl_lasts : Nat → Int32} {p1 : Int32} {p2 : Int32} {o : (Int32) ⊕ String} (h : f_Main_contraryPairs N Tap_tellerCount Cl_count Cl_tellers Cl_kinds Cl_events Cl_firsts Cl_lasts p1 p2 = some o) : Ct g mX9_contraryPairs 7 2 12 [.ref (ad 0), .int p1, .int p2] (wlX g ad x0 x1 x2 x3 Tap_tellerCount Cl_count Cl_tellers Cl_kinds Cl_events Cl_firsts Cl_lasts x11 x12 x13 x14 x15 x16 x17 x18 x19 x20 x21 x22 x23 x24 x25 x26 x27 x28 x29 x30 x31 x32 x33 x34 x35 x36 x37 x38 x39 x40 x41 x42 x43 x44 x45 x46 x47 x48 x49 x50 x51 x52 x53 x54 x55 x56 x57 x58 x59 x60 x61 x62 x63 x64 x65 x66 x67 ++ t) (Dt o (fun q => some (.int q)) (fun q => (wlX g ad x0 x1 x2 x3 Tap_tellerCount Cl_count Cl_tellers Cl_kinds Cl_events Cl_firsts Cl_lasts x11 x12 x13 x14 x15 x16 x17 x18 x19 x20 x21 x22 x23 x24 x25 x26 x27 x28 x29 x30 x31 x32 x33 x34 x35 x36 x37 x38 x39 x40 x41 x42 x43 x44 x45 x46 x47 x48 x49 x50 x51 x52 x53 x54 x55 x56 x57 x58 x59 x60 x61 x62 x63 x64 x65 x66 x67 ++ t)) (wlX g ad x0 x1 x2 x3 Tap_tellerCount Cl_count Cl_tellers Cl_kinds Cl_events Cl_firsts Cl_lasts x11 x12 x13 x14 x15 x16 x17 x18 x19 x20 x21 x22 x23 x24 x25 x26 x27 x28 x29 x30 x31 x32 x33 x34 x35 x36 x37 x38 x39 x40 x41 x42 x43 x44 x45 x46 x47 x48 x49 x50 x51 x52 x53 x54 x55 x56 x57 x58 x59 x60 x61 x62 x63 x64 x65 x66 x67 ++ t)) := Ct.ofR (by decide +kernel) rfl (Nat.le_of_ble_eq_true rfl) (rt_Main_contraryPairs h (fun q e => by subst e; exact ⟨rfl, rfl⟩) (fun E e => by subst e; exact ⟨rfl, rfl⟩))
set_option maxRecDepth 20000 in
set_option maxHeartbeats 4000000 in
theorem rt_Ve_believedSet {g : GG} {ad : Nat → Nat} {t : va_W} {x0 x1 x3 x5 x11 x12 x18 x19 x20 x24 x25 x26 x27 x28 x29 x30 x31 x37 x39 x40 x41 x47 x48 x54 x56 x58 x59 x60 x61 x63 x64 x65 x66 : Int32} {x2 x6 x7 x8 x9 x10 x13 x14 x15 x16 x17 x21 x22 x23 x33 x34 x35 x42 x43 x44 x45 x46 x49 x50 x51 x52 x53 x62 x67 : Nat → Int32} {x32 : Int64} {x36 x38 x55 x57 : Nat → Int64} {Tap_tellerCount : Int32} {p1 : Int32} {o : Int32} {Q : Rs → va_W → Prop} (h : f_Ve_believedSet Tap_tellerCount p1 = o) (hq : Q (.inl (some (.int o))) (wlX g ad x0 x1 x2 x3 Tap_tellerCount x5 x6 x7 x8 x9 x10 x11 x12 x13 x14 x15 x16 x17 x18 x19 x20 x21 x22 x23 x24 x25 x26 x27 x28 x29 x30 x31 x32 x33 x34 x35 x36 x37 x38 x39 x40 x41 x42 x43 x44 x45 x46 x47 x48 x49 x50 x51 x52 x53 x54 x55 x56 x57 x58 x59 x60 x61 x62 x63 x64 x65 x66 x67 ++ t)) : R g mX8_believedSet 1 0 0 0 [(0, .ref (ad 26)), (1, .int p1)] [] (wlX g ad x0 x1 x2 x3 Tap_tellerCount x5 x6 x7 x8 x9 x10 x11 x12 x13 x14 x15 x16 x17 x18 x19 x20 x21 x22 x23 x24 x25 x26 x27 x28 x29 x30 x31 x32 x33 x34 x35 x36 x37 x38 x39 x40 x41 x42 x43 x44 x45 x46 x47 x48 x49 x50 x51 x52 x53 x54 x55 x56 x57 x58 x59 x60 x61 x62 x63 x64 x65 x66 x67 ++ t) Q := by
  unfold f_Ve_believedSet at h
  refine r_iconst (v := (1 : Int32)) dX8_believedSet_0 (by decide) ?_
  refine r_aload_n 0 dX8_believedSet_1 rfl ?_
  refine r_getf (v := .ref (ad 3)) _ dX8_believedSet_2 fl_X8_9 lX_26 rfl ?_
  refine r_getf (v := .int Tap_tellerCount) _ dX8_believedSet_5 fl_X8_63 lX_3 rfl ?_
  refine r_ishl dX8_believedSet_8 ?_
  refine r_iconst (v := (1 : Int32)) dX8_believedSet_9 (by decide) ?_
  refine r_isub dX8_believedSet_10 ?_
  refine r_iload_n 1 dX8_believedSet_11 rfl ?_
  refine r_iconst (v := (-1 : Int32)) dX8_believedSet_12 (by decide) ?_
  refine r_ixor dX8_believedSet_13 ?_
  refine r_iand dX8_believedSet_14 ?_
  refine r_iret dX8_believedSet_15 rfl ?_
  have h : _ = o := h
  subst h
  exact hq
theorem ct_Ve_believedSet {g : GG} {ad : Nat → Nat} {t : va_W} {x0 x1 x3 x5 x11 x12 x18 x19 x20 x24 x25 x26 x27 x28 x29 x30 x31 x37 x39 x40 x41 x47 x48 x54 x56 x58 x59 x60 x61 x63 x64 x65 x66 : Int32} {x2 x6 x7 x8 x9 x10 x13 x14 x15 x16 x17 x21 x22 x23 x33 x34 x35 x42 x43 x44 x45 x46 x49 x50 x51 x52 x53 x62 x67 : Nat → Int32} {x32 : Int64} {x36 x38 x55 x57 : Nat → Int64} {Tap_tellerCount : Int32} {p1 : Int32} {o : Int32} (h : f_Ve_believedSet Tap_tellerCount p1 = o) : Ct g mX8_believedSet 1 0 0 [.ref (ad 26), .int p1] (wlX g ad x0 x1 x2 x3 Tap_tellerCount x5 x6 x7 x8 x9 x10 x11 x12 x13 x14 x15 x16 x17 x18 x19 x20 x21 x22 x23 x24 x25 x26 x27 x28 x29 x30 x31 x32 x33 x34 x35 x36 x37 x38 x39 x40 x41 x42 x43 x44 x45 x46 x47 x48 x49 x50 x51 x52 x53 x54 x55 x56 x57 x58 x59 x60 x61 x62 x63 x64 x65 x66 x67 ++ t) (Dv (some (.int o)) (wlX g ad x0 x1 x2 x3 Tap_tellerCount x5 x6 x7 x8 x9 x10 x11 x12 x13 x14 x15 x16 x17 x18 x19 x20 x21 x22 x23 x24 x25 x26 x27 x28 x29 x30 x31 x32 x33 x34 x35 x36 x37 x38 x39 x40 x41 x42 x43 x44 x45 x46 x47 x48 x49 x50 x51 x52 x53 x54 x55 x56 x57 x58 x59 x60 x61 x62 x63 x64 x65 x66 x67 ++ t)) := Ct.ofR (by decide +kernel) rfl (Nat.le_of_ble_eq_true rfl) (rt_Ve_believedSet h ⟨rfl, rfl⟩)
set_option maxRecDepth 20000 in
set_option maxHeartbeats 4000000 in
theorem rt_J6_bitCount_0f7a4 {g : GG}  {t : va_W}  {p0 : Int32} {o : Int32} {Q : Rs → va_W → Prop} (h : f_J6_bitCount_0f7a4 p0 = o) (hq : Q (.inl (some (.int o))) t) : R g mJ6_bitCount_0f7a4 1 0 0 0 [(0, .int p0)] [] t Q := by
  unfold f_J6_bitCount_0f7a4 at h
  refine r_iload_n 0 dJ6_bitCount_0f7a4_0 rfl ?_
  refine r_iload_n 0 dJ6_bitCount_0f7a4_1 rfl ?_
  refine r_iconst (v := (1 : Int32)) dJ6_bitCount_0f7a4_2 (by decide) ?_
  refine r_iushr dJ6_bitCount_0f7a4_3 ?_
  refine r_ldcw dJ6_bitCount_0f7a4_4 kk_659 ?_
  refine r_iand dJ6_bitCount_0f7a4_7 ?_
  refine r_isub dJ6_bitCount_0f7a4_8 ?_
  refine r_istore_n [(0, .int (p0 - ((p0.toUInt32 >>> ((1 : Int32).toUInt32 &&& Int32.toUInt32 31)).toInt32 &&& (1431655765 : Int32))))] dJ6_bitCount_0f7a4_9 (by decide) rfl ?_
  refine r_iload_n 0 dJ6_bitCount_0f7a4_10 rfl ?_
  refine r_ldcw dJ6_bitCount_0f7a4_11 kk_660 ?_
  refine r_iand dJ6_bitCount_0f7a4_14 ?_
  refine r_iload_n 0 dJ6_bitCount_0f7a4_15 rfl ?_
  refine r_iconst (v := (2 : Int32)) dJ6_bitCount_0f7a4_16 (by decide) ?_
  refine r_iushr dJ6_bitCount_0f7a4_17 ?_
  refine r_ldcw dJ6_bitCount_0f7a4_18 kk_660 ?_
  refine r_iand dJ6_bitCount_0f7a4_21 ?_
  refine r_iadd dJ6_bitCount_0f7a4_22 ?_
  refine r_istore_n [(0, .int (((p0 - ((p0.toUInt32 >>> ((1 : Int32).toUInt32 &&& Int32.toUInt32 31)).toInt32 &&& (1431655765 : Int32))) &&& (858993459 : Int32)) + (((p0 - ((p0.toUInt32 >>> ((1 : Int32).toUInt32 &&& Int32.toUInt32 31)).toInt32 &&& (1431655765 : Int32))).toUInt32 >>> ((2 : Int32).toUInt32 &&& Int32.toUInt32 31)).toInt32 &&& (858993459 : Int32))))] dJ6_bitCount_0f7a4_23 (by decide) rfl ?_
  refine r_iload_n 0 dJ6_bitCount_0f7a4_24 rfl ?_
  refine r_iload_n 0 dJ6_bitCount_0f7a4_25 rfl ?_
  refine r_iconst (v := (4 : Int32)) dJ6_bitCount_0f7a4_26 (by decide) ?_
  refine r_iushr dJ6_bitCount_0f7a4_27 ?_
  refine r_iadd dJ6_bitCount_0f7a4_28 ?_
  refine r_ldcw dJ6_bitCount_0f7a4_29 kk_661 ?_
  refine r_iand dJ6_bitCount_0f7a4_32 ?_
  refine r_istore_n [(0, .int (((((p0 - ((p0.toUInt32 >>> ((1 : Int32).toUInt32 &&& Int32.toUInt32 31)).toInt32 &&& (1431655765 : Int32))) &&& (858993459 : Int32)) + (((p0 - ((p0.toUInt32 >>> ((1 : Int32).toUInt32 &&& Int32.toUInt32 31)).toInt32 &&& (1431655765 : Int32))).toUInt32 >>> ((2 : Int32).toUInt32 &&& Int32.toUInt32 31)).toInt32 &&& (858993459 : Int32))) + ((((p0 - ((p0.toUInt32 >>> ((1 : Int32).toUInt32 &&& Int32.toUInt32 31)).toInt32 &&& (1431655765 : Int32))) &&& (858993459 : Int32)) + (((p0 - ((p0.toUInt32 >>> ((1 : Int32).toUInt32 &&& Int32.toUInt32 31)).toInt32 &&& (1431655765 : Int32))).toUInt32 >>> ((2 : Int32).toUInt32 &&& Int32.toUInt32 31)).toInt32 &&& (858993459 : Int32))).toUInt32 >>> ((4 : Int32).toUInt32 &&& Int32.toUInt32 31)).toInt32) &&& (252645135 : Int32)))] dJ6_bitCount_0f7a4_33 (by decide) rfl ?_
  refine r_iload_n 0 dJ6_bitCount_0f7a4_34 rfl ?_
  refine r_iload_n 0 dJ6_bitCount_0f7a4_35 rfl ?_
  refine r_bipush (v := (8 : Int32)) dJ6_bitCount_0f7a4_36 (by decide) ?_
  refine r_iushr dJ6_bitCount_0f7a4_38 ?_
  refine r_iadd dJ6_bitCount_0f7a4_39 ?_
  refine r_istore_n [(0, .int ((((((p0 - ((p0.toUInt32 >>> ((1 : Int32).toUInt32 &&& Int32.toUInt32 31)).toInt32 &&& (1431655765 : Int32))) &&& (858993459 : Int32)) + (((p0 - ((p0.toUInt32 >>> ((1 : Int32).toUInt32 &&& Int32.toUInt32 31)).toInt32 &&& (1431655765 : Int32))).toUInt32 >>> ((2 : Int32).toUInt32 &&& Int32.toUInt32 31)).toInt32 &&& (858993459 : Int32))) + ((((p0 - ((p0.toUInt32 >>> ((1 : Int32).toUInt32 &&& Int32.toUInt32 31)).toInt32 &&& (1431655765 : Int32))) &&& (858993459 : Int32)) + (((p0 - ((p0.toUInt32 >>> ((1 : Int32).toUInt32 &&& Int32.toUInt32 31)).toInt32 &&& (1431655765 : Int32))).toUInt32 >>> ((2 : Int32).toUInt32 &&& Int32.toUInt32 31)).toInt32 &&& (858993459 : Int32))).toUInt32 >>> ((4 : Int32).toUInt32 &&& Int32.toUInt32 31)).toInt32) &&& (252645135 : Int32)) + ((((((p0 - ((p0.toUInt32 >>> ((1 : Int32).toUInt32 &&& Int32.toUInt32 31)).toInt32 &&& (1431655765 : Int32))) &&& (858993459 : Int32)) + (((p0 - ((p0.toUInt32 >>> ((1 : Int32).toUInt32 &&& Int32.toUInt32 31)).toInt32 &&& (1431655765 : Int32))).toUInt32 >>> ((2 : Int32).toUInt32 &&& Int32.toUInt32 31)).toInt32 &&& (858993459 : Int32))) + ((((p0 - ((p0.toUInt32 >>> ((1 : Int32).toUInt32 &&& Int32.toUInt32 31)).toInt32 &&& (1431655765 : Int32))) &&& (858993459 : Int32)) + (((p0 - ((p0.toUInt32 >>> ((1 : Int32).toUInt32 &&& Int32.toUInt32 31)).toInt32 &&& (1431655765 : Int32))).toUInt32 >>> ((2 : Int32).toUInt32 &&& Int32.toUInt32 31)).toInt32 &&& (858993459 : Int32))).toUInt32 >>> ((4 : Int32).toUInt32 &&& Int32.toUInt32 31)).toInt32) &&& (252645135 : Int32)).toUInt32 >>> ((8 : Int32).toUInt32 &&& Int32.toUInt32 31)).toInt32))] dJ6_bitCount_0f7a4_40 (by decide) rfl ?_
  refine r_iload_n 0 dJ6_bitCount_0f7a4_41 rfl ?_
  refine r_iload_n 0 dJ6_bitCount_0f7a4_42 rfl ?_
  refine r_bipush (v := (16 : Int32)) dJ6_bitCount_0f7a4_43 (by decide) ?_
  refine r_iushr dJ6_bitCount_0f7a4_45 ?_
  refine r_iadd dJ6_bitCount_0f7a4_46 ?_
  refine r_istore_n [(0, .int (((((((p0 - ((p0.toUInt32 >>> ((1 : Int32).toUInt32 &&& Int32.toUInt32 31)).toInt32 &&& (1431655765 : Int32))) &&& (858993459 : Int32)) + (((p0 - ((p0.toUInt32 >>> ((1 : Int32).toUInt32 &&& Int32.toUInt32 31)).toInt32 &&& (1431655765 : Int32))).toUInt32 >>> ((2 : Int32).toUInt32 &&& Int32.toUInt32 31)).toInt32 &&& (858993459 : Int32))) + ((((p0 - ((p0.toUInt32 >>> ((1 : Int32).toUInt32 &&& Int32.toUInt32 31)).toInt32 &&& (1431655765 : Int32))) &&& (858993459 : Int32)) + (((p0 - ((p0.toUInt32 >>> ((1 : Int32).toUInt32 &&& Int32.toUInt32 31)).toInt32 &&& (1431655765 : Int32))).toUInt32 >>> ((2 : Int32).toUInt32 &&& Int32.toUInt32 31)).toInt32 &&& (858993459 : Int32))).toUInt32 >>> ((4 : Int32).toUInt32 &&& Int32.toUInt32 31)).toInt32) &&& (252645135 : Int32)) + ((((((p0 - ((p0.toUInt32 >>> ((1 : Int32).toUInt32 &&& Int32.toUInt32 31)).toInt32 &&& (1431655765 : Int32))) &&& (858993459 : Int32)) + (((p0 - ((p0.toUInt32 >>> ((1 : Int32).toUInt32 &&& Int32.toUInt32 31)).toInt32 &&& (1431655765 : Int32))).toUInt32 >>> ((2 : Int32).toUInt32 &&& Int32.toUInt32 31)).toInt32 &&& (858993459 : Int32))) + ((((p0 - ((p0.toUInt32 >>> ((1 : Int32).toUInt32 &&& Int32.toUInt32 31)).toInt32 &&& (1431655765 : Int32))) &&& (858993459 : Int32)) + (((p0 - ((p0.toUInt32 >>> ((1 : Int32).toUInt32 &&& Int32.toUInt32 31)).toInt32 &&& (1431655765 : Int32))).toUInt32 >>> ((2 : Int32).toUInt32 &&& Int32.toUInt32 31)).toInt32 &&& (858993459 : Int32))).toUInt32 >>> ((4 : Int32).toUInt32 &&& Int32.toUInt32 31)).toInt32) &&& (252645135 : Int32)).toUInt32 >>> ((8 : Int32).toUInt32 &&& Int32.toUInt32 31)).toInt32) + (((((((p0 - ((p0.toUInt32 >>> ((1 : Int32).toUInt32 &&& Int32.toUInt32 31)).toInt32 &&& (1431655765 : Int32))) &&& (858993459 : Int32)) + (((p0 - ((p0.toUInt32 >>> ((1 : Int32).toUInt32 &&& Int32.toUInt32 31)).toInt32 &&& (1431655765 : Int32))).toUInt32 >>> ((2 : Int32).toUInt32 &&& Int32.toUInt32 31)).toInt32 &&& (858993459 : Int32))) + ((((p0 - ((p0.toUInt32 >>> ((1 : Int32).toUInt32 &&& Int32.toUInt32 31)).toInt32 &&& (1431655765 : Int32))) &&& (858993459 : Int32)) + (((p0 - ((p0.toUInt32 >>> ((1 : Int32).toUInt32 &&& Int32.toUInt32 31)).toInt32 &&& (1431655765 : Int32))).toUInt32 >>> ((2 : Int32).toUInt32 &&& Int32.toUInt32 31)).toInt32 &&& (858993459 : Int32))).toUInt32 >>> ((4 : Int32).toUInt32 &&& Int32.toUInt32 31)).toInt32) &&& (252645135 : Int32)) + ((((((p0 - ((p0.toUInt32 >>> ((1 : Int32).toUInt32 &&& Int32.toUInt32 31)).toInt32 &&& (1431655765 : Int32))) &&& (858993459 : Int32)) + (((p0 - ((p0.toUInt32 >>> ((1 : Int32).toUInt32 &&& Int32.toUInt32 31)).toInt32 &&& (1431655765 : Int32))).toUInt32 >>> ((2 : Int32).toUInt32 &&& Int32.toUInt32 31)).toInt32 &&& (858993459 : Int32))) + ((((p0 - ((p0.toUInt32 >>> ((1 : Int32).toUInt32 &&& Int32.toUInt32 31)).toInt32 &&& (1431655765 : Int32))) &&& (858993459 : Int32)) + (((p0 - ((p0.toUInt32 >>> ((1 : Int32).toUInt32 &&& Int32.toUInt32 31)).toInt32 &&& (1431655765 : Int32))).toUInt32 >>> ((2 : Int32).toUInt32 &&& Int32.toUInt32 31)).toInt32 &&& (858993459 : Int32))).toUInt32 >>> ((4 : Int32).toUInt32 &&& Int32.toUInt32 31)).toInt32) &&& (252645135 : Int32)).toUInt32 >>> ((8 : Int32).toUInt32 &&& Int32.toUInt32 31)).toInt32).toUInt32 >>> ((16 : Int32).toUInt32 &&& Int32.toUInt32 31)).toInt32))] dJ6_bitCount_0f7a4_47 (by decide) rfl ?_
  refine r_iload_n 0 dJ6_bitCount_0f7a4_48 rfl ?_
  refine r_bipush (v := (63 : Int32)) dJ6_bitCount_0f7a4_49 (by decide) ?_
  refine r_iand dJ6_bitCount_0f7a4_51 ?_
  refine r_iret dJ6_bitCount_0f7a4_52 rfl ?_
  have h : _ = o := h
  subst h
  exact hq
theorem ct_J6_bitCount_0f7a4 {g : GG}  {t : va_W}  {p0 : Int32} {o : Int32} (h : f_J6_bitCount_0f7a4 p0 = o) : Ct g mJ6_bitCount_0f7a4 1 0 0 [.int p0] t (Dv (some (.int o)) t) := Ct.ofR (by decide +kernel) rfl (Nat.le_of_ble_eq_true rfl) (rt_J6_bitCount_0f7a4 h ⟨rfl, rfl⟩)
set_option maxRecDepth 20000 in
set_option maxHeartbeats 4000000 in
theorem rt_Ve_pairCount {g : GG} {ad : Nat → Nat} {t : va_W} {x0 x1 x3 x5 x11 x12 x18 x19 x20 x24 x25 x26 x27 x28 x29 x30 x31 x37 x39 x40 x41 x47 x48 x54 x56 x58 x59 x60 x61 x63 x64 x65 x66 : Int32} {x2 x6 x7 x8 x9 x10 x13 x14 x15 x16 x17 x22 x23 x33 x34 x35 x42 x43 x44 x45 x46 x49 x50 x51 x52 x53 x62 x67 : Nat → Int32} {x32 : Int64} {x36 x38 x55 x57 : Nat → Int64} {N : Nat} {Tap_tellerCount : Int32} {Ve_against : Nat → Int32} {p1 : Int32} {o : Int32} {Q : Rs → va_W → Prop} (h : f_Ve_pairCount N Tap_tellerCount Ve_against p1 = some o) (hq : Q (.inl (some (.int o))) (wlX g ad x0 x1 x2 x3 Tap_tellerCount x5 x6 x7 x8 x9 x10 x11 x12 x13 x14 x15 x16 x17 x18 x19 x20 Ve_against x22 x23 x24 x25 x26 x27 x28 x29 x30 x31 x32 x33 x34 x35 x36 x37 x38 x39 x40 x41 x42 x43 x44 x45 x46 x47 x48 x49 x50 x51 x52 x53 x54 x55 x56 x57 x58 x59 x60 x61 x62 x63 x64 x65 x66 x67 ++ t)) : R g mX8_pairCount 2 0 0 0 [(0, .ref (ad 26)), (1, .int p1)] [] (wlX g ad x0 x1 x2 x3 Tap_tellerCount x5 x6 x7 x8 x9 x10 x11 x12 x13 x14 x15 x16 x17 x18 x19 x20 Ve_against x22 x23 x24 x25 x26 x27 x28 x29 x30 x31 x32 x33 x34 x35 x36 x37 x38 x39 x40 x41 x42 x43 x44 x45 x46 x47 x48 x49 x50 x51 x52 x53 x54 x55 x56 x57 x58 x59 x60 x61 x62 x63 x64 x65 x66 x67 ++ t) Q := by
  unfold f_Ve_pairCount at h
  refine r_iconst (v := (0 : Int32)) dX8_pairCount_0 (by decide) ?_
  refine r_istore_n [(2, .int (0 : Int32)), (0, .ref (ad 26)), (1, .int p1)] dX8_pairCount_1 (by decide) rfl ?_
  refine r_aload_n 1 dX8_pairCount_2 rfl ?_
  refine r_iload_n 2 dX8_pairCount_3 rfl ?_
  refine c_V (rest := []) 0 0 _ dX8_pairCount_4 kv_X8_69 (ct_Ve_believedSet rfl) rfl rfl lX_26 rfl (Nat.le_of_ble_eq_true rfl) (by decide) (by decide) ?_
  refine r_istore_n [(3, .int (f_Ve_believedSet Tap_tellerCount p1)), (2, .int (0 : Int32)), (0, .ref (ad 26)), (1, .int p1)] dX8_pairCount_7 (by decide) rfl ?_
  refine r_iconst (v := (0 : Int32)) dX8_pairCount_8 (by decide) ?_
  refine r_istore [(4, .int (0 : Int32)), (3, .int (f_Ve_believedSet Tap_tellerCount p1)), (2, .int (0 : Int32)), (0, .ref (ad 26)), (1, .int p1)] dX8_pairCount_9 (by decide) rfl ?_
  refine r_ls [3, 2, 1, 0] (ls2 := [(0, .ref (ad 26)), (2, .int (0 : Int32)), (3, .int (f_Ve_believedSet Tap_tellerCount p1)), (4, .int (0 : Int32))]) rfl ?_
  have L1 : ∀ (n1 : Nat) (l2_1 : Int32) (l3_1 : Int32) (l4_1 : Int32), (fun z9 => z9) (lpS (f_Ve_pairCount_L11 Tap_tellerCount Ve_against) none n1 (l2_1, l3_1, l4_1)) = some o → R g mX8_pairCount 2 0 0 11 [(0, .ref (ad 26)), (2, .int l2_1), (3, .int l3_1), (4, .int l4_1)] [] (wlX g ad x0 x1 x2 x3 Tap_tellerCount x5 x6 x7 x8 x9 x10 x11 x12 x13 x14 x15 x16 x17 x18 x19 x20 Ve_against x22 x23 x24 x25 x26 x27 x28 x29 x30 x31 x32 x33 x34 x35 x36 x37 x38 x39 x40 x41 x42 x43 x44 x45 x46 x47 x48 x49 x50 x51 x52 x53 x54 x55 x56 x57 x58 x59 x60 x61 x62 x63 x64 x65 x66 x67 ++ t) Q := by
    intro n1
    induction n1 with
    | zero => intro l2_1 l3_1 l4_1 h; exact nomatch (show (none : Option _) = some _ from h)
    | succ n1 ih1 =>
      intro l2_1 l3_1 l4_1 h
      have h : (fun z9 => (lC (f_Ve_pairCount_L11 Tap_tellerCount Ve_against) none n1 z9)) (f_Ve_pairCount_L11 Tap_tellerCount Ve_against (l2_1, l3_1, l4_1)) = some o := h
      unfold f_Ve_pairCount_L11 at h
      try dsimp only at h
      refine r_iload 3 dX8_pairCount_11 rfl ?_
      refine r_aload_n 0 dX8_pairCount_13 rfl ?_
      refine r_getf (v := .ref (ad 3)) _ dX8_pairCount_14 fl_X8_9 lX_26 rfl ?_
      refine r_getf (v := .int Tap_tellerCount) _ dX8_pairCount_17 fl_X8_63 lX_3 rfl ?_
      refine r_icmp_ge (tgt := 64) dX8_pairCount_20 (by decide) (fun hc858 => ?_) (fun hc858 => ?_)
      · have h := ip (fun z9 => (lC (f_Ve_pairCount_L11 Tap_tellerCount Ve_against) none n1 z9)) hc858 h
        refine r_iload_n 1 dX8_pairCount_64 rfl ?_
        refine r_iret dX8_pairCount_65 rfl ?_
        have h := Option.some.inj (show some _ = some o from h)
        subst h
        exact hq
      · have h := iq (fun z9 => (lC (f_Ve_pairCount_L11 Tap_tellerCount Ve_against) none n1 z9)) hc858 h
        refine r_iload_n 2 dX8_pairCount_23 rfl ?_
        refine r_iload 3 dX8_pairCount_24 rfl ?_
        refine c_SN (rest := []) 0 0 dX8_pairCount_26 kq_X8_66 (ct_Main_has rfl) rfl rfl (Nat.le_of_ble_eq_true rfl) (by decide) (by decide) ?_
        refine r_if_eq (tgt := 58) dX8_pairCount_29 (by decide) (fun hc859 => ?_) (fun hc859 => ?_)
        · have h := ip (fun z9 => (lC (f_Ve_pairCount_L11 Tap_tellerCount Ve_against) none n1 z9)) hc859 h
          refine r_iinc (v2 := (l4_1 + (1 : Int32))) 3 [(4, .int (l4_1 + (1 : Int32))), (0, .ref (ad 26)), (2, .int l2_1), (3, .int l3_1)] dX8_pairCount_58 rfl rfl (by decide) rfl ?_
          refine r_goto (tgt := 11) dX8_pairCount_61 (by decide) ?_
          refine r_ls [1, 2, 3, 0] (ls2 := [(0, .ref (ad 26)), (2, .int l2_1), (3, .int l3_1), (4, .int (l4_1 + (1 : Int32)))]) rfl ?_
          exact ih1 l2_1 l3_1 (l4_1 + (1 : Int32)) h
        · have h := iq (fun z9 => (lC (f_Ve_pairCount_L11 Tap_tellerCount Ve_against) none n1 z9)) hc859 h
          refine r_iload_n 2 dX8_pairCount_32 rfl ?_
          refine r_iconst (v := (1 : Int32)) dX8_pairCount_33 (by decide) ?_
          refine r_iload 3 dX8_pairCount_34 rfl ?_
          refine r_ishl dX8_pairCount_36 ?_
          refine r_iconst (v := (-1 : Int32)) dX8_pairCount_37 (by decide) ?_
          refine r_ixor dX8_pairCount_38 ?_
          refine r_iand dX8_pairCount_39 ?_
          refine r_istore_n [(3, .int (l3_1 &&& (((1 : Int32) <<< (l4_1 &&& 31)) ^^^ (-1 : Int32)))), (0, .ref (ad 26)), (2, .int l2_1), (4, .int l4_1)] dX8_pairCount_40 (by decide) rfl ?_
          refine r_iload_n 2 dX8_pairCount_41 rfl ?_
          refine r_aload_n 1 dX8_pairCount_42 rfl ?_
          refine r_getf (v := .ref (ad 27)) _ dX8_pairCount_43 fl_X8_20 lX_26 rfl ?_
          refine r_iload 3 dX8_pairCount_46 rfl ?_
          refine c_V (rest := [.int l2_1]) 0 0 _ dX8_pairCount_48 kv_X8_56 (ct_Row_get lX_27 lX_28 (Nat.le_of_ble_eq_true rfl)) rfl rfl lX_27 rfl (Nat.le_of_ble_eq_true rfl) (by decide) (by decide) ?_
          refine r_iload_n 0 dX8_pairCount_51 rfl ?_
          refine r_iand dX8_pairCount_52 ?_
          refine c_S (rest := [.int l2_1]) 0 0 dX8_pairCount_53 ks_X8_72 (ct_J6_bitCount_0f7a4 rfl) rfl rfl (Nat.le_of_ble_eq_true rfl) (by decide) (by decide) ?_
          refine r_iadd dX8_pairCount_56 ?_
          refine r_istore_n [(2, .int (l2_1 + (f_J6_bitCount_0f7a4 ((rget 10 Ve_against l4_1) &&& (l3_1 &&& (((1 : Int32) <<< (l4_1 &&& 31)) ^^^ (-1 : Int32))))))), (3, .int (l3_1 &&& (((1 : Int32) <<< (l4_1 &&& 31)) ^^^ (-1 : Int32)))), (0, .ref (ad 26)), (4, .int l4_1)] dX8_pairCount_57 (by decide) rfl ?_
          refine r_iinc (v2 := (l4_1 + (1 : Int32))) 3 [(4, .int (l4_1 + (1 : Int32))), (2, .int (l2_1 + (f_J6_bitCount_0f7a4 ((rget 10 Ve_against l4_1) &&& (l3_1 &&& (((1 : Int32) <<< (l4_1 &&& 31)) ^^^ (-1 : Int32))))))), (3, .int (l3_1 &&& (((1 : Int32) <<< (l4_1 &&& 31)) ^^^ (-1 : Int32)))), (0, .ref (ad 26))] dX8_pairCount_58 rfl rfl (by decide) rfl ?_
          refine r_goto (tgt := 11) dX8_pairCount_61 (by decide) ?_
          refine r_ls [3, 1, 2, 0] (ls2 := [(0, .ref (ad 26)), (2, .int (l2_1 + (f_J6_bitCount_0f7a4 ((rget 10 Ve_against l4_1) &&& (l3_1 &&& (((1 : Int32) <<< (l4_1 &&& 31)) ^^^ (-1 : Int32))))))), (3, .int (l3_1 &&& (((1 : Int32) <<< (l4_1 &&& 31)) ^^^ (-1 : Int32)))), (4, .int (l4_1 + (1 : Int32)))]) rfl ?_
          exact ih1 (l2_1 + (f_J6_bitCount_0f7a4 ((rget 10 Ve_against l4_1) &&& (l3_1 &&& (((1 : Int32) <<< (l4_1 &&& 31)) ^^^ (-1 : Int32)))))) (l3_1 &&& (((1 : Int32) <<< (l4_1 &&& 31)) ^^^ (-1 : Int32))) (l4_1 + (1 : Int32)) h
  exact L1 _ (0 : Int32) (f_Ve_believedSet Tap_tellerCount p1) (0 : Int32) h
theorem ct_Ve_pairCount {g : GG} {ad : Nat → Nat} {t : va_W} {x0 x1 x3 x5 x11 x12 x18 x19 x20 x24 x25 x26 x27 x28 x29 x30 x31 x37 x39 x40 x41 x47 x48 x54 x56 x58 x59 x60 x61 x63 x64 x65 x66 : Int32} {x2 x6 x7 x8 x9 x10 x13 x14 x15 x16 x17 x22 x23 x33 x34 x35 x42 x43 x44 x45 x46 x49 x50 x51 x52 x53 x62 x67 : Nat → Int32} {x32 : Int64} {x36 x38 x55 x57 : Nat → Int64} {N : Nat} {Tap_tellerCount : Int32} {Ve_against : Nat → Int32} {p1 : Int32} {o : Int32} (h : f_Ve_pairCount N Tap_tellerCount Ve_against p1 = some o) : Ct g mX8_pairCount 2 0 0 [.ref (ad 26), .int p1] (wlX g ad x0 x1 x2 x3 Tap_tellerCount x5 x6 x7 x8 x9 x10 x11 x12 x13 x14 x15 x16 x17 x18 x19 x20 Ve_against x22 x23 x24 x25 x26 x27 x28 x29 x30 x31 x32 x33 x34 x35 x36 x37 x38 x39 x40 x41 x42 x43 x44 x45 x46 x47 x48 x49 x50 x51 x52 x53 x54 x55 x56 x57 x58 x59 x60 x61 x62 x63 x64 x65 x66 x67 ++ t) (Dv (some (.int o)) (wlX g ad x0 x1 x2 x3 Tap_tellerCount x5 x6 x7 x8 x9 x10 x11 x12 x13 x14 x15 x16 x17 x18 x19 x20 Ve_against x22 x23 x24 x25 x26 x27 x28 x29 x30 x31 x32 x33 x34 x35 x36 x37 x38 x39 x40 x41 x42 x43 x44 x45 x46 x47 x48 x49 x50 x51 x52 x53 x54 x55 x56 x57 x58 x59 x60 x61 x62 x63 x64 x65 x66 x67 ++ t)) := Ct.ofR (by decide +kernel) rfl (Nat.le_of_ble_eq_true rfl) (rt_Ve_pairCount h ⟨rfl, rfl⟩)
set_option maxRecDepth 20000 in
set_option maxHeartbeats 4000000 in
theorem rt_Main_contradictions {g : GG} {ad : Nat → Nat} {t : va_W} {x0 x1 x3 x5 x11 x12 x18 x19 x20 x24 x25 x26 x27 x28 x29 x30 x31 x37 x39 x40 x41 x47 x48 x54 x56 x58 x60 x61 x63 x64 x65 x66 : Int32} {x2 x6 x7 x8 x9 x10 x13 x14 x15 x16 x17 x22 x23 x33 x34 x35 x42 x43 x44 x45 x46 x49 x50 x51 x52 x53 x62 x67 : Nat → Int32} {x32 : Int64} {x36 x38 x55 x57 : Nat → Int64} {N : Nat} {Tap_tellerCount : Int32} {Ve_against : Nat → Int32} {Co_doubted : Int32} {o : Int32} {Q : Rs → va_W → Prop} (h : f_Main_contradictions N Tap_tellerCount Ve_against Co_doubted = some o) (hq : Q (.inl (some (.int o))) (wlX g ad x0 x1 x2 x3 Tap_tellerCount x5 x6 x7 x8 x9 x10 x11 x12 x13 x14 x15 x16 x17 x18 x19 x20 Ve_against x22 x23 x24 x25 x26 x27 x28 x29 x30 x31 x32 x33 x34 x35 x36 x37 x38 x39 x40 x41 x42 x43 x44 x45 x46 x47 x48 x49 x50 x51 x52 x53 x54 x55 x56 x57 x58 Co_doubted x60 x61 x62 x63 x64 x65 x66 x67 ++ t)) : R g mX9_contradictions 3 0 0 0 [(0, .ref (ad 0))] [] (wlX g ad x0 x1 x2 x3 Tap_tellerCount x5 x6 x7 x8 x9 x10 x11 x12 x13 x14 x15 x16 x17 x18 x19 x20 Ve_against x22 x23 x24 x25 x26 x27 x28 x29 x30 x31 x32 x33 x34 x35 x36 x37 x38 x39 x40 x41 x42 x43 x44 x45 x46 x47 x48 x49 x50 x51 x52 x53 x54 x55 x56 x57 x58 Co_doubted x60 x61 x62 x63 x64 x65 x66 x67 ++ t) Q := by
  unfold f_Main_contradictions at h
  refine r_aload_n 0 dX9_contradictions_0 rfl ?_
  refine r_getf (v := .ref (ad 26)) _ dX9_contradictions_1 fl_X9_39 lX_0 rfl ?_
  refine r_aload_n 0 dX9_contradictions_4 rfl ?_
  refine r_getf (v := .ref (ad 71)) _ dX9_contradictions_5 fl_X9_48 lX_0 rfl ?_
  refine r_getf (v := .int Co_doubted) _ dX9_contradictions_8 fl_X9_162 lX_71 rfl ?_
  obtain ⟨r860, hc861, h⟩ := ob (fun z9 => z9) rfl h
  refine c_V (rest := []) 0 0 _ dX9_contradictions_11 kv_X9_176 (ct_Ve_pairCount hc861) rfl rfl lX_26 rfl (Nat.le_of_ble_eq_true rfl) (by decide) (by decide) ?_
  refine r_iret dX9_contradictions_14 rfl ?_
  have h := Option.some.inj (show some _ = some o from h)
  subst h
  exact hq
theorem ct_Main_contradictions {g : GG} {ad : Nat → Nat} {t : va_W} {x0 x1 x3 x5 x11 x12 x18 x19 x20 x24 x25 x26 x27 x28 x29 x30 x31 x37 x39 x40 x41 x47 x48 x54 x56 x58 x60 x61 x63 x64 x65 x66 : Int32} {x2 x6 x7 x8 x9 x10 x13 x14 x15 x16 x17 x22 x23 x33 x34 x35 x42 x43 x44 x45 x46 x49 x50 x51 x52 x53 x62 x67 : Nat → Int32} {x32 : Int64} {x36 x38 x55 x57 : Nat → Int64} {N : Nat} {Tap_tellerCount : Int32} {Ve_against : Nat → Int32} {Co_doubted : Int32} {o : Int32} (h : f_Main_contradictions N Tap_tellerCount Ve_against Co_doubted = some o) : Ct g mX9_contradictions 3 0 0 [.ref (ad 0)] (wlX g ad x0 x1 x2 x3 Tap_tellerCount x5 x6 x7 x8 x9 x10 x11 x12 x13 x14 x15 x16 x17 x18 x19 x20 Ve_against x22 x23 x24 x25 x26 x27 x28 x29 x30 x31 x32 x33 x34 x35 x36 x37 x38 x39 x40 x41 x42 x43 x44 x45 x46 x47 x48 x49 x50 x51 x52 x53 x54 x55 x56 x57 x58 Co_doubted x60 x61 x62 x63 x64 x65 x66 x67 ++ t) (Dv (some (.int o)) (wlX g ad x0 x1 x2 x3 Tap_tellerCount x5 x6 x7 x8 x9 x10 x11 x12 x13 x14 x15 x16 x17 x18 x19 x20 Ve_against x22 x23 x24 x25 x26 x27 x28 x29 x30 x31 x32 x33 x34 x35 x36 x37 x38 x39 x40 x41 x42 x43 x44 x45 x46 x47 x48 x49 x50 x51 x52 x53 x54 x55 x56 x57 x58 Co_doubted x60 x61 x62 x63 x64 x65 x66 x67 ++ t)) := Ct.ofR (by decide +kernel) rfl (Nat.le_of_ble_eq_true rfl) (rt_Main_contradictions h ⟨rfl, rfl⟩)
set_option maxRecDepth 20000 in
set_option maxHeartbeats 4000000 in
theorem rt_Ve_involvedIn {g : GG} {ad : Nat → Nat} {t : va_W} {x0 x1 x3 x5 x11 x12 x18 x19 x20 x24 x25 x26 x27 x28 x29 x30 x31 x37 x39 x40 x41 x47 x48 x54 x56 x58 x59 x60 x61 x63 x64 x65 x66 : Int32} {x2 x6 x7 x8 x9 x10 x13 x14 x15 x16 x17 x22 x23 x33 x34 x35 x42 x43 x44 x45 x46 x49 x50 x51 x52 x53 x62 x67 : Nat → Int32} {x32 : Int64} {x36 x38 x55 x57 : Nat → Int64} {N : Nat} {Tap_tellerCount : Int32} {Ve_against : Nat → Int32} {p1 : Int32} {o : Int32} {Q : Rs → va_W → Prop} (h : f_Ve_involvedIn N Tap_tellerCount Ve_against p1 = some o) (hq : Q (.inl (some (.int o))) (wlX g ad x0 x1 x2 x3 Tap_tellerCount x5 x6 x7 x8 x9 x10 x11 x12 x13 x14 x15 x16 x17 x18 x19 x20 Ve_against x22 x23 x24 x25 x26 x27 x28 x29 x30 x31 x32 x33 x34 x35 x36 x37 x38 x39 x40 x41 x42 x43 x44 x45 x46 x47 x48 x49 x50 x51 x52 x53 x54 x55 x56 x57 x58 x59 x60 x61 x62 x63 x64 x65 x66 x67 ++ t)) : R g mX8_involvedIn 2 0 0 0 [(0, .ref (ad 26)), (1, .int p1)] [] (wlX g ad x0 x1 x2 x3 Tap_tellerCount x5 x6 x7 x8 x9 x10 x11 x12 x13 x14 x15 x16 x17 x18 x19 x20 Ve_against x22 x23 x24 x25 x26 x27 x28 x29 x30 x31 x32 x33 x34 x35 x36 x37 x38 x39 x40 x41 x42 x43 x44 x45 x46 x47 x48 x49 x50 x51 x52 x53 x54 x55 x56 x57 x58 x59 x60 x61 x62 x63 x64 x65 x66 x67 ++ t) Q := by
  unfold f_Ve_involvedIn at h
  refine r_iconst (v := (0 : Int32)) dX8_involvedIn_0 (by decide) ?_
  refine r_istore_n [(2, .int (0 : Int32)), (0, .ref (ad 26)), (1, .int p1)] dX8_involvedIn_1 (by decide) rfl ?_
  refine r_iconst (v := (0 : Int32)) dX8_involvedIn_2 (by decide) ?_
  refine r_istore_n [(3, .int (0 : Int32)), (2, .int (0 : Int32)), (0, .ref (ad 26)), (1, .int p1)] dX8_involvedIn_3 (by decide) rfl ?_
  refine r_ls [2, 3, 1, 0] (ls2 := [(0, .ref (ad 26)), (1, .int p1), (2, .int (0 : Int32)), (3, .int (0 : Int32))]) rfl ?_
  have L1 : ∀ (n1 : Nat) (l2_1 : Int32) (l3_1 : Int32), (fun z9 => z9) (lpS (f_Ve_involvedIn_L4 Tap_tellerCount Ve_against p1) none n1 (l2_1, l3_1)) = some o → R g mX8_involvedIn 2 0 0 4 [(0, .ref (ad 26)), (1, .int p1), (2, .int l2_1), (3, .int l3_1)] [] (wlX g ad x0 x1 x2 x3 Tap_tellerCount x5 x6 x7 x8 x9 x10 x11 x12 x13 x14 x15 x16 x17 x18 x19 x20 Ve_against x22 x23 x24 x25 x26 x27 x28 x29 x30 x31 x32 x33 x34 x35 x36 x37 x38 x39 x40 x41 x42 x43 x44 x45 x46 x47 x48 x49 x50 x51 x52 x53 x54 x55 x56 x57 x58 x59 x60 x61 x62 x63 x64 x65 x66 x67 ++ t) Q := by
    intro n1
    induction n1 with
    | zero => intro l2_1 l3_1 h; exact nomatch (show (none : Option _) = some _ from h)
    | succ n1 ih1 =>
      intro l2_1 l3_1 h
      have h : (fun z9 => (lC (f_Ve_involvedIn_L4 Tap_tellerCount Ve_against p1) none n1 z9)) (f_Ve_involvedIn_L4 Tap_tellerCount Ve_against p1 (l2_1, l3_1)) = some o := h
      unfold f_Ve_involvedIn_L4 at h
      try dsimp only at h
      refine r_iload_n 3 dX8_involvedIn_4 rfl ?_
      refine r_aload_n 0 dX8_involvedIn_5 rfl ?_
      refine r_getf (v := .ref (ad 3)) _ dX8_involvedIn_6 fl_X8_9 lX_26 rfl ?_
      refine r_getf (v := .int Tap_tellerCount) _ dX8_involvedIn_9 fl_X8_63 lX_3 rfl ?_
      refine r_icmp_ge (tgt := 42) dX8_involvedIn_12 (by decide) (fun hc862 => ?_) (fun hc862 => ?_)
      · have h := ip (fun z9 => (lC (f_Ve_involvedIn_L4 Tap_tellerCount Ve_against p1) none n1 z9)) hc862 h
        refine r_iload_n 2 dX8_involvedIn_42 rfl ?_
        refine r_iret dX8_involvedIn_43 rfl ?_
        have h := Option.some.inj (show some _ = some o from h)
        subst h
        exact hq
      · have h := iq (fun z9 => (lC (f_Ve_involvedIn_L4 Tap_tellerCount Ve_against p1) none n1 z9)) hc862 h
        refine r_iload_n 1 dX8_involvedIn_15 rfl ?_
        refine r_iload_n 3 dX8_involvedIn_16 rfl ?_
        refine c_SN (rest := []) 0 0 dX8_involvedIn_17 kq_X8_66 (ct_Main_has rfl) rfl rfl (Nat.le_of_ble_eq_true rfl) (by decide) (by decide) ?_
        refine r_if_eq (tgt := 36) dX8_involvedIn_20 (by decide) (fun hc863 => ?_) (fun hc863 => ?_)
        · have h := ip (fun z9 => (lC (f_Ve_involvedIn_L4 Tap_tellerCount Ve_against p1) none n1 z9)) hc863 h
          refine r_iinc (v2 := (l3_1 + (1 : Int32))) 3 [(3, .int (l3_1 + (1 : Int32))), (0, .ref (ad 26)), (1, .int p1), (2, .int l2_1)] dX8_involvedIn_36 rfl rfl (by decide) rfl ?_
          refine r_goto (tgt := 4) dX8_involvedIn_39 (by decide) ?_
          refine r_ls [1, 2, 3, 0] (ls2 := [(0, .ref (ad 26)), (1, .int p1), (2, .int l2_1), (3, .int (l3_1 + (1 : Int32)))]) rfl ?_
          exact ih1 l2_1 (l3_1 + (1 : Int32)) h
        · have h := iq (fun z9 => (lC (f_Ve_involvedIn_L4 Tap_tellerCount Ve_against p1) none n1 z9)) hc863 h
          refine r_iload_n 2 dX8_involvedIn_23 rfl ?_
          refine r_aload_n 0 dX8_involvedIn_24 rfl ?_
          refine r_getf (v := .ref (ad 27)) _ dX8_involvedIn_25 fl_X8_20 lX_26 rfl ?_
          refine r_iload_n 3 dX8_involvedIn_28 rfl ?_
          refine c_V (rest := [.int l2_1]) 0 0 _ dX8_involvedIn_29 kv_X8_56 (ct_Row_get lX_27 lX_28 (Nat.le_of_ble_eq_true rfl)) rfl rfl lX_27 rfl (Nat.le_of_ble_eq_true rfl) (by decide) (by decide) ?_
          refine r_iload_n 1 dX8_involvedIn_32 rfl ?_
          refine r_iand dX8_involvedIn_33 ?_
          refine r_ior dX8_involvedIn_34 ?_
          refine r_istore_n [(2, .int (l2_1 ||| ((rget 10 Ve_against l3_1) &&& p1))), (0, .ref (ad 26)), (1, .int p1), (3, .int l3_1)] dX8_involvedIn_35 (by decide) rfl ?_
          refine r_iinc (v2 := (l3_1 + (1 : Int32))) 3 [(3, .int (l3_1 + (1 : Int32))), (2, .int (l2_1 ||| ((rget 10 Ve_against l3_1) &&& p1))), (0, .ref (ad 26)), (1, .int p1)] dX8_involvedIn_36 rfl rfl (by decide) rfl ?_
          refine r_goto (tgt := 4) dX8_involvedIn_39 (by decide) ?_
          refine r_ls [2, 3, 1, 0] (ls2 := [(0, .ref (ad 26)), (1, .int p1), (2, .int (l2_1 ||| ((rget 10 Ve_against l3_1) &&& p1))), (3, .int (l3_1 + (1 : Int32)))]) rfl ?_
          exact ih1 (l2_1 ||| ((rget 10 Ve_against l3_1) &&& p1)) (l3_1 + (1 : Int32)) h
  exact L1 _ (0 : Int32) (0 : Int32) h
theorem ct_Ve_involvedIn {g : GG} {ad : Nat → Nat} {t : va_W} {x0 x1 x3 x5 x11 x12 x18 x19 x20 x24 x25 x26 x27 x28 x29 x30 x31 x37 x39 x40 x41 x47 x48 x54 x56 x58 x59 x60 x61 x63 x64 x65 x66 : Int32} {x2 x6 x7 x8 x9 x10 x13 x14 x15 x16 x17 x22 x23 x33 x34 x35 x42 x43 x44 x45 x46 x49 x50 x51 x52 x53 x62 x67 : Nat → Int32} {x32 : Int64} {x36 x38 x55 x57 : Nat → Int64} {N : Nat} {Tap_tellerCount : Int32} {Ve_against : Nat → Int32} {p1 : Int32} {o : Int32} (h : f_Ve_involvedIn N Tap_tellerCount Ve_against p1 = some o) : Ct g mX8_involvedIn 2 0 0 [.ref (ad 26), .int p1] (wlX g ad x0 x1 x2 x3 Tap_tellerCount x5 x6 x7 x8 x9 x10 x11 x12 x13 x14 x15 x16 x17 x18 x19 x20 Ve_against x22 x23 x24 x25 x26 x27 x28 x29 x30 x31 x32 x33 x34 x35 x36 x37 x38 x39 x40 x41 x42 x43 x44 x45 x46 x47 x48 x49 x50 x51 x52 x53 x54 x55 x56 x57 x58 x59 x60 x61 x62 x63 x64 x65 x66 x67 ++ t) (Dv (some (.int o)) (wlX g ad x0 x1 x2 x3 Tap_tellerCount x5 x6 x7 x8 x9 x10 x11 x12 x13 x14 x15 x16 x17 x18 x19 x20 Ve_against x22 x23 x24 x25 x26 x27 x28 x29 x30 x31 x32 x33 x34 x35 x36 x37 x38 x39 x40 x41 x42 x43 x44 x45 x46 x47 x48 x49 x50 x51 x52 x53 x54 x55 x56 x57 x58 x59 x60 x61 x62 x63 x64 x65 x66 x67 ++ t)) := Ct.ofR (by decide +kernel) rfl (Nat.le_of_ble_eq_true rfl) (rt_Ve_involvedIn h ⟨rfl, rfl⟩)
set_option maxRecDepth 20000 in
set_option maxHeartbeats 4000000 in
theorem rt_Ve_isEnough {g : GG} {ad : Nat → Nat} {t : va_W} {x0 x1 x3 x5 x11 x12 x18 x19 x20 x24 x25 x26 x27 x28 x29 x30 x31 x37 x39 x40 x41 x47 x48 x54 x56 x58 x59 x60 x61 x63 x64 x65 x66 : Int32} {x2 x6 x7 x8 x9 x10 x13 x14 x15 x16 x17 x22 x23 x33 x34 x35 x42 x43 x44 x45 x46 x49 x50 x51 x52 x53 x62 x67 : Nat → Int32} {x32 : Int64} {x36 x38 x55 x57 : Nat → Int64} {N : Nat} {Tap_tellerCount : Int32} {Ve_against : Nat → Int32} {p1 : Int32} {p2 : Int32} {o : Int32} {Q : Rs → va_W → Prop} (h : f_Ve_isEnough N Tap_tellerCount Ve_against p1 p2 = some o) (hq : Q (.inl (some (.int o))) (wlX g ad x0 x1 x2 x3 Tap_tellerCount x5 x6 x7 x8 x9 x10 x11 x12 x13 x14 x15 x16 x17 x18 x19 x20 Ve_against x22 x23 x24 x25 x26 x27 x28 x29 x30 x31 x32 x33 x34 x35 x36 x37 x38 x39 x40 x41 x42 x43 x44 x45 x46 x47 x48 x49 x50 x51 x52 x53 x54 x55 x56 x57 x58 x59 x60 x61 x62 x63 x64 x65 x66 x67 ++ t)) : R g mX8_isEnough 2 0 0 0 [(0, .ref (ad 26)), (1, .int p1), (2, .int p2)] [] (wlX g ad x0 x1 x2 x3 Tap_tellerCount x5 x6 x7 x8 x9 x10 x11 x12 x13 x14 x15 x16 x17 x18 x19 x20 Ve_against x22 x23 x24 x25 x26 x27 x28 x29 x30 x31 x32 x33 x34 x35 x36 x37 x38 x39 x40 x41 x42 x43 x44 x45 x46 x47 x48 x49 x50 x51 x52 x53 x54 x55 x56 x57 x58 x59 x60 x61 x62 x63 x64 x65 x66 x67 ++ t) Q := by
  unfold f_Ve_isEnough at h
  refine r_iload_n 2 dX8_isEnough_0 rfl ?_
  refine r_iload_n 1 dX8_isEnough_1 rfl ?_
  refine r_iconst (v := (-1 : Int32)) dX8_isEnough_2 (by decide) ?_
  refine r_ixor dX8_isEnough_3 ?_
  refine r_iand dX8_isEnough_4 ?_
  refine r_istore_n [(3, .int (p2 &&& (p1 ^^^ (-1 : Int32)))), (0, .ref (ad 26)), (1, .int p1), (2, .int p2)] dX8_isEnough_5 (by decide) rfl ?_
  refine r_iconst (v := (0 : Int32)) dX8_isEnough_6 (by decide) ?_
  refine r_istore [(4, .int (0 : Int32)), (3, .int (p2 &&& (p1 ^^^ (-1 : Int32)))), (0, .ref (ad 26)), (1, .int p1), (2, .int p2)] dX8_isEnough_7 (by decide) rfl ?_
  refine r_ls [2, 1, 0] (ls2 := [(0, .ref (ad 26)), (3, .int (p2 &&& (p1 ^^^ (-1 : Int32)))), (4, .int (0 : Int32))]) rfl ?_
  have L1 : ∀ (n1 : Nat) (c3_1 : Int32) (l4_1 : Int32), (fun z9 => z9) (lpS (f_Ve_isEnough_L9 Tap_tellerCount Ve_against c3_1) none n1 l4_1) = some o → R g mX8_isEnough 2 0 0 9 [(0, .ref (ad 26)), (3, .int c3_1), (4, .int l4_1)] [] (wlX g ad x0 x1 x2 x3 Tap_tellerCount x5 x6 x7 x8 x9 x10 x11 x12 x13 x14 x15 x16 x17 x18 x19 x20 Ve_against x22 x23 x24 x25 x26 x27 x28 x29 x30 x31 x32 x33 x34 x35 x36 x37 x38 x39 x40 x41 x42 x43 x44 x45 x46 x47 x48 x49 x50 x51 x52 x53 x54 x55 x56 x57 x58 x59 x60 x61 x62 x63 x64 x65 x66 x67 ++ t) Q := by
    intro n1
    induction n1 with
    | zero => intro c3_1 l4_1 h; exact nomatch (show (none : Option _) = some _ from h)
    | succ n1 ih1 =>
      intro c3_1 l4_1 h
      have h : (fun z9 => (lC (f_Ve_isEnough_L9 Tap_tellerCount Ve_against c3_1) none n1 z9)) (f_Ve_isEnough_L9 Tap_tellerCount Ve_against c3_1 l4_1) = some o := h
      unfold f_Ve_isEnough_L9 at h
      try dsimp only at h
      refine r_iload 2 dX8_isEnough_9 rfl ?_
      refine r_aload_n 0 dX8_isEnough_11 rfl ?_
      refine r_getf (v := .ref (ad 3)) _ dX8_isEnough_12 fl_X8_9 lX_26 rfl ?_
      refine r_getf (v := .int Tap_tellerCount) _ dX8_isEnough_15 fl_X8_63 lX_3 rfl ?_
      refine r_icmp_ge (tgt := 52) dX8_isEnough_18 (by decide) (fun hc864 => ?_) (fun hc864 => ?_)
      · have h := ip (fun z9 => (lC (f_Ve_isEnough_L9 Tap_tellerCount Ve_against c3_1) none n1 z9)) hc864 h
        refine r_iconst (v := (1 : Int32)) dX8_isEnough_52 (by decide) ?_
        refine r_zret dX8_isEnough_53 rfl (by decide) ?_
        have h := Option.some.inj (show some _ = some o from h)
        subst h
        exact hq
      · have h := iq (fun z9 => (lC (f_Ve_isEnough_L9 Tap_tellerCount Ve_against c3_1) none n1 z9)) hc864 h
        refine r_iload_n 1 dX8_isEnough_21 rfl ?_
        refine r_iload 2 dX8_isEnough_22 rfl ?_
        refine c_SN (rest := []) 0 0 dX8_isEnough_24 kq_X8_66 (ct_Main_has rfl) rfl rfl (Nat.le_of_ble_eq_true rfl) (by decide) (by decide) ?_
        refine r_if_eq (tgt := 46) dX8_isEnough_27 (by decide) (fun hc865 => ?_) (fun hc865 => ?_)
        · have h := ip (fun z9 => (lC (f_Ve_isEnough_L9 Tap_tellerCount Ve_against c3_1) none n1 z9)) hc865 h
          refine r_iinc (v2 := (l4_1 + (1 : Int32))) 2 [(4, .int (l4_1 + (1 : Int32))), (0, .ref (ad 26)), (3, .int c3_1)] dX8_isEnough_46 rfl rfl (by decide) rfl ?_
          refine r_goto (tgt := 9) dX8_isEnough_49 (by decide) ?_
          refine r_ls [1, 2, 0] (ls2 := [(0, .ref (ad 26)), (3, .int c3_1), (4, .int (l4_1 + (1 : Int32)))]) rfl ?_
          exact ih1 c3_1 (l4_1 + (1 : Int32)) h
        · have h := iq (fun z9 => (lC (f_Ve_isEnough_L9 Tap_tellerCount Ve_against c3_1) none n1 z9)) hc865 h
          refine r_aload_n 0 dX8_isEnough_30 rfl ?_
          refine r_getf (v := .ref (ad 27)) _ dX8_isEnough_31 fl_X8_20 lX_26 rfl ?_
          refine r_iload 2 dX8_isEnough_34 rfl ?_
          refine c_V (rest := []) 0 0 _ dX8_isEnough_36 kv_X8_56 (ct_Row_get lX_27 lX_28 (Nat.le_of_ble_eq_true rfl)) rfl rfl lX_27 rfl (Nat.le_of_ble_eq_true rfl) (by decide) (by decide) ?_
          refine r_iload_n 1 dX8_isEnough_39 rfl ?_
          refine r_iand dX8_isEnough_40 ?_
          refine r_if_eq (tgt := 46) dX8_isEnough_41 (by decide) (fun hc866 => ?_) (fun hc866 => ?_)
          · have h := ip (fun z9 => (lC (f_Ve_isEnough_L9 Tap_tellerCount Ve_against c3_1) none n1 z9)) hc866 h
            refine r_iinc (v2 := (l4_1 + (1 : Int32))) 2 [(4, .int (l4_1 + (1 : Int32))), (0, .ref (ad 26)), (3, .int c3_1)] dX8_isEnough_46 rfl rfl (by decide) rfl ?_
            refine r_goto (tgt := 9) dX8_isEnough_49 (by decide) ?_
            refine r_ls [1, 2, 0] (ls2 := [(0, .ref (ad 26)), (3, .int c3_1), (4, .int (l4_1 + (1 : Int32)))]) rfl ?_
            exact ih1 c3_1 (l4_1 + (1 : Int32)) h
          · have h := iq (fun z9 => (lC (f_Ve_isEnough_L9 Tap_tellerCount Ve_against c3_1) none n1 z9)) hc866 h
            refine r_iconst (v := (0 : Int32)) dX8_isEnough_44 (by decide) ?_
            refine r_zret dX8_isEnough_45 rfl (by decide) ?_
            have h := Option.some.inj (show some _ = some o from h)
            subst h
            exact hq
  exact L1 _ (p2 &&& (p1 ^^^ (-1 : Int32))) (0 : Int32) h
theorem ct_Ve_isEnough {g : GG} {ad : Nat → Nat} {t : va_W} {x0 x1 x3 x5 x11 x12 x18 x19 x20 x24 x25 x26 x27 x28 x29 x30 x31 x37 x39 x40 x41 x47 x48 x54 x56 x58 x59 x60 x61 x63 x64 x65 x66 : Int32} {x2 x6 x7 x8 x9 x10 x13 x14 x15 x16 x17 x22 x23 x33 x34 x35 x42 x43 x44 x45 x46 x49 x50 x51 x52 x53 x62 x67 : Nat → Int32} {x32 : Int64} {x36 x38 x55 x57 : Nat → Int64} {N : Nat} {Tap_tellerCount : Int32} {Ve_against : Nat → Int32} {p1 : Int32} {p2 : Int32} {o : Int32} (h : f_Ve_isEnough N Tap_tellerCount Ve_against p1 p2 = some o) : Ct g mX8_isEnough 2 0 0 [.ref (ad 26), .int p1, .int p2] (wlX g ad x0 x1 x2 x3 Tap_tellerCount x5 x6 x7 x8 x9 x10 x11 x12 x13 x14 x15 x16 x17 x18 x19 x20 Ve_against x22 x23 x24 x25 x26 x27 x28 x29 x30 x31 x32 x33 x34 x35 x36 x37 x38 x39 x40 x41 x42 x43 x44 x45 x46 x47 x48 x49 x50 x51 x52 x53 x54 x55 x56 x57 x58 x59 x60 x61 x62 x63 x64 x65 x66 x67 ++ t) (Dv (some (.int o)) (wlX g ad x0 x1 x2 x3 Tap_tellerCount x5 x6 x7 x8 x9 x10 x11 x12 x13 x14 x15 x16 x17 x18 x19 x20 Ve_against x22 x23 x24 x25 x26 x27 x28 x29 x30 x31 x32 x33 x34 x35 x36 x37 x38 x39 x40 x41 x42 x43 x44 x45 x46 x47 x48 x49 x50 x51 x52 x53 x54 x55 x56 x57 x58 x59 x60 x61 x62 x63 x64 x65 x66 x67 ++ t)) := Ct.ofR (by decide +kernel) rfl (Nat.le_of_ble_eq_true rfl) (rt_Ve_isEnough h ⟨rfl, rfl⟩)
set_option maxRecDepth 20000 in
set_option maxHeartbeats 4000000 in
theorem rt_Ve_isPreferred {g : GG}  {t : va_W}  {p0 : Int32} {p1 : Int32} {o : Int32} {Q : Rs → va_W → Prop} (h : f_Ve_isPreferred p0 p1 = o) (hq : Q (.inl (some (.int o))) t) : R g mX8_isPreferred 1 0 0 0 [(0, .int p0), (1, .int p1)] [] t Q := by
  unfold f_Ve_isPreferred at h
  refine r_iload_n 0 dX8_isPreferred_0 rfl ?_
  refine r_iload_n 1 dX8_isPreferred_1 rfl ?_
  refine r_ixor dX8_isPreferred_2 ?_
  refine r_istore_n [(2, .int (p0 ^^^ p1)), (0, .int p0), (1, .int p1)] dX8_isPreferred_3 (by decide) rfl ?_
  refine r_iload_n 1 dX8_isPreferred_4 rfl ?_
  refine r_iload_n 0 dX8_isPreferred_5 rfl ?_
  refine r_iand dX8_isPreferred_6 ?_
  refine r_iload_n 0 dX8_isPreferred_7 rfl ?_
  refine r_ineg dX8_isPreferred_8 ?_
  refine r_iand dX8_isPreferred_9 ?_
  refine r_if_ne (tgt := 17) dX8_isPreferred_10 (by decide) (fun hc867 => ?_) (fun hc867 => ?_)
  · have h := iq (fun z9 => z9) hc867 h
    refine r_iconst (v := (0 : Int32)) dX8_isPreferred_17 (by decide) ?_
    refine r_zret dX8_isPreferred_18 rfl (by decide) ?_
    have h : _ = o := h
    subst h
    exact hq
  · have h := ip (fun z9 => z9) hc867 h
    refine r_iconst (v := (1 : Int32)) dX8_isPreferred_13 (by decide) ?_
    refine r_goto (tgt := 18) dX8_isPreferred_14 (by decide) ?_
    refine r_zret dX8_isPreferred_18 rfl (by decide) ?_
    have h : _ = o := h
    subst h
    exact hq
theorem ct_Ve_isPreferred {g : GG}  {t : va_W}  {p0 : Int32} {p1 : Int32} {o : Int32} (h : f_Ve_isPreferred p0 p1 = o) : Ct g mX8_isPreferred 1 0 0 [.int p0, .int p1] t (Dv (some (.int o)) t) := Ct.ofR (by decide +kernel) rfl (Nat.le_of_ble_eq_true rfl) (rt_Ve_isPreferred h ⟨rfl, rfl⟩)
set_option maxRecDepth 20000 in
set_option maxHeartbeats 4000000 in
theorem rt_Ve_judge {g : GG} {ad : Nat → Nat} {t : va_W} {x0 x1 x3 x5 x11 x12 x24 x25 x26 x27 x28 x29 x30 x31 x37 x39 x40 x41 x47 x48 x54 x56 x58 x59 x60 x61 x63 x64 x65 x66 : Int32} {x2 x6 x7 x8 x9 x10 x13 x14 x15 x16 x17 x22 x23 x33 x34 x35 x42 x43 x44 x45 x46 x49 x50 x51 x52 x53 x62 x67 : Nat → Int32} {x32 : Int64} {x36 x38 x55 x57 : Nat → Int64} {N : Nat} {Tap_tellerCount : Int32} {Ve_judged : Int32} {Ve_liarSet : Int32} {Ve_setCount : Int32} {Ve_against : Nat → Int32} {p1 : Int32} {o : Int32 × Int32 × Int32} {Q : Rs → va_W → Prop} (h : f_Ve_judge N Tap_tellerCount Ve_judged Ve_liarSet Ve_setCount Ve_against p1 = some o) (hq : Q (.inl (none)) (wlX g ad x0 x1 x2 x3 Tap_tellerCount x5 x6 x7 x8 x9 x10 x11 x12 x13 x14 x15 x16 x17 o.1 o.2.1 o.2.2 Ve_against x22 x23 x24 x25 x26 x27 x28 x29 x30 x31 x32 x33 x34 x35 x36 x37 x38 x39 x40 x41 x42 x43 x44 x45 x46 x47 x48 x49 x50 x51 x52 x53 x54 x55 x56 x57 x58 x59 x60 x61 x62 x63 x64 x65 x66 x67 ++ t)) : R g mX8_judge 3 0 0 0 [(0, .ref (ad 26)), (1, .int p1)] [] (wlX g ad x0 x1 x2 x3 Tap_tellerCount x5 x6 x7 x8 x9 x10 x11 x12 x13 x14 x15 x16 x17 Ve_judged Ve_liarSet Ve_setCount Ve_against x22 x23 x24 x25 x26 x27 x28 x29 x30 x31 x32 x33 x34 x35 x36 x37 x38 x39 x40 x41 x42 x43 x44 x45 x46 x47 x48 x49 x50 x51 x52 x53 x54 x55 x56 x57 x58 x59 x60 x61 x62 x63 x64 x65 x66 x67 ++ t) Q := by
  unfold f_Ve_judge at h
  refine r_iload_n 1 dX8_judge_0 rfl ?_
  refine r_aload_n 0 dX8_judge_1 rfl ?_
  refine r_getf (v := .int Ve_judged) _ dX8_judge_2 fl_X8_30 lX_26 rfl ?_
  refine r_icmp_ne (tgt := 9) dX8_judge_5 (by decide) (fun hc868 => ?_) (fun hc868 => ?_)
  · have h := iq (fun z9 => z9) hc868 h
    refine r_aload_n 0 dX8_judge_9 rfl ?_
    refine r_iload_n 1 dX8_judge_10 rfl ?_
    refine c_V (rest := []) 0 0 _ dX8_judge_11 kv_X8_69 (ct_Ve_believedSet rfl) rfl rfl lX_26 rfl (Nat.le_of_ble_eq_true rfl) (by decide) (by decide) ?_
    refine r_istore_n [(2, .int (f_Ve_believedSet Tap_tellerCount p1)), (0, .ref (ad 26)), (1, .int p1)] dX8_judge_14 (by decide) rfl ?_
    refine r_aload_n 1 dX8_judge_15 rfl ?_
    refine r_iload_n 0 dX8_judge_16 rfl ?_
    obtain ⟨r869, hc870, h⟩ := ob (fun z9 => z9) rfl h
    refine c_V (rest := []) 0 0 _ dX8_judge_17 kv_X8_86 (ct_Ve_involvedIn hc870) rfl rfl lX_26 rfl (Nat.le_of_ble_eq_true rfl) (by decide) (by decide) ?_
    refine r_istore_n [(3, .int r869), (2, .int (f_Ve_believedSet Tap_tellerCount p1)), (0, .ref (ad 26)), (1, .int p1)] dX8_judge_20 (by decide) rfl ?_
    refine r_bipush (v := (11 : Int32)) dX8_judge_21 (by decide) ?_
    refine r_istore [(4, .int (11 : Int32)), (3, .int r869), (2, .int (f_Ve_believedSet Tap_tellerCount p1)), (0, .ref (ad 26)), (1, .int p1)] dX8_judge_23 (by decide) rfl ?_
    refine r_iconst (v := (1 : Int32)) dX8_judge_25 (by decide) ?_
    refine r_iload_n 1 dX8_judge_26 rfl ?_
    refine c_S (rest := [.int (1 : Int32)]) 0 0 dX8_judge_27 ks_X8_72 (ct_J6_bitCount_0f7a4 rfl) rfl rfl (Nat.le_of_ble_eq_true rfl) (by decide) (by decide) ?_
    refine r_ishl dX8_judge_30 ?_
    refine r_istore [(5, .int ((1 : Int32) <<< ((f_J6_bitCount_0f7a4 r869) &&& 31))), (4, .int (11 : Int32)), (3, .int r869), (2, .int (f_Ve_believedSet Tap_tellerCount p1)), (0, .ref (ad 26)), (1, .int p1)] dX8_judge_31 (by decide) rfl ?_
    refine r_iconst (v := (0 : Int32)) dX8_judge_33 (by decide) ?_
    refine r_istore [(6, .int (0 : Int32)), (5, .int ((1 : Int32) <<< ((f_J6_bitCount_0f7a4 r869) &&& 31))), (4, .int (11 : Int32)), (3, .int r869), (2, .int (f_Ve_believedSet Tap_tellerCount p1)), (0, .ref (ad 26)), (1, .int p1)] dX8_judge_34 (by decide) rfl ?_
    refine r_iconst (v := (0 : Int32)) dX8_judge_36 (by decide) ?_
    refine r_istore [(7, .int (0 : Int32)), (6, .int (0 : Int32)), (5, .int ((1 : Int32) <<< ((f_J6_bitCount_0f7a4 r869) &&& 31))), (4, .int (11 : Int32)), (3, .int r869), (2, .int (f_Ve_believedSet Tap_tellerCount p1)), (0, .ref (ad 26)), (1, .int p1)] dX8_judge_37 (by decide) rfl ?_
    refine r_ls [6, 7, 5, 4, 3, 2, 1, 0] (ls2 := [(0, .ref (ad 26)), (1, .int p1), (2, .int (f_Ve_believedSet Tap_tellerCount p1)), (3, .int r869), (4, .int (11 : Int32)), (5, .int ((1 : Int32) <<< ((f_J6_bitCount_0f7a4 r869) &&& 31))), (6, .int (0 : Int32)), (7, .int (0 : Int32))]) rfl ?_
    have L1 : ∀ (n1 : Nat) (c2_1 : Int32) (c5_1 : Int32) (l4_1 : Int32) (l6_1 : Int32) (l7_1 : Int32) (Ve_liarSet_1 : Int32) (Ve_setCount_1 : Int32), (fun z9 => z9) (lpS (f_Ve_judge_L39 N Tap_tellerCount Ve_against p1 r869 c2_1 c5_1) none n1 (l4_1, l6_1, l7_1, Ve_liarSet_1, Ve_setCount_1)) = some o → R g mX8_judge 3 0 0 39 [(0, .ref (ad 26)), (1, .int p1), (2, .int c2_1), (3, .int r869), (4, .int l4_1), (5, .int c5_1), (6, .int l6_1), (7, .int l7_1)] [] (wlX g ad x0 x1 x2 x3 Tap_tellerCount x5 x6 x7 x8 x9 x10 x11 x12 x13 x14 x15 x16 x17 Ve_judged Ve_liarSet_1 Ve_setCount_1 Ve_against x22 x23 x24 x25 x26 x27 x28 x29 x30 x31 x32 x33 x34 x35 x36 x37 x38 x39 x40 x41 x42 x43 x44 x45 x46 x47 x48 x49 x50 x51 x52 x53 x54 x55 x56 x57 x58 x59 x60 x61 x62 x63 x64 x65 x66 x67 ++ t) Q := by
      intro n1
      induction n1 with
      | zero => intro c2_1 c5_1 l4_1 l6_1 l7_1 Ve_liarSet_1 Ve_setCount_1 h; exact nomatch (show (none : Option _) = some _ from h)
      | succ n1 ih1 =>
        intro c2_1 c5_1 l4_1 l6_1 l7_1 Ve_liarSet_1 Ve_setCount_1 h
        have h : (fun z9 => (lC (f_Ve_judge_L39 N Tap_tellerCount Ve_against p1 r869 c2_1 c5_1) none n1 z9)) (f_Ve_judge_L39 N Tap_tellerCount Ve_against p1 r869 c2_1 c5_1 (l4_1, l6_1, l7_1, Ve_liarSet_1, Ve_setCount_1)) = some o := h
        unfold f_Ve_judge_L39 at h
        try dsimp only at h
        refine r_iload 7 dX8_judge_39 rfl ?_
        refine r_iload 5 dX8_judge_41 rfl ?_
        refine r_icmp_ge (tgt := 141) dX8_judge_43 (by decide) (fun hc871 => ?_) (fun hc871 => ?_)
        · have h := ip (fun z9 => (lC (f_Ve_judge_L39 N Tap_tellerCount Ve_against p1 r869 c2_1 c5_1) none n1 z9)) hc871 h
          refine r_aload_n 0 dX8_judge_141 rfl ?_
          refine r_iload_n 1 dX8_judge_142 rfl ?_
          refine r_putf _ dX8_judge_143 fl_X8_30 lX_26 (Nat.le_of_ble_eq_true rfl) rfl rfl (sX_18 _) ?_
          refine r_vret dX8_judge_146 rfl ?_
          have h := Option.some.inj (show some _ = some o from h)
          subst h
          exact hq
        · have h := iq (fun z9 => (lC (f_Ve_judge_L39 N Tap_tellerCount Ve_against p1 r869 c2_1 c5_1) none n1 z9)) hc871 h
          refine r_iload 6 dX8_judge_46 rfl ?_
          refine c_S (rest := []) 0 0 dX8_judge_48 ks_X8_72 (ct_J6_bitCount_0f7a4 rfl) rfl rfl (Nat.le_of_ble_eq_true rfl) (by decide) (by decide) ?_
          refine r_istore [(8, .int (f_J6_bitCount_0f7a4 l6_1)), (0, .ref (ad 26)), (1, .int p1), (2, .int c2_1), (3, .int r869), (4, .int l4_1), (5, .int c5_1), (6, .int l6_1), (7, .int l7_1)] dX8_judge_51 (by decide) rfl ?_
          refine r_iload 0 dX8_judge_53 rfl ?_
          refine r_iload 5 dX8_judge_55 rfl ?_
          refine r_icmp_gt (tgt := 127) dX8_judge_57 (by decide) (fun hc872 => ?_) (fun hc872 => ?_)
          · have h := ip (fun z9 => (lC (f_Ve_judge_L39 N Tap_tellerCount Ve_against p1 r869 c2_1 c5_1) none n1 z9)) hc872 h
            refine r_iload 7 dX8_judge_127 rfl ?_
            refine r_iload_n 4 dX8_judge_129 rfl ?_
            refine r_isub dX8_judge_130 ?_
            refine r_iload_n 4 dX8_judge_131 rfl ?_
            refine r_iand dX8_judge_132 ?_
            refine r_istore [(6, .int ((l6_1 - r869) &&& r869)), (8, .int (f_J6_bitCount_0f7a4 l6_1)), (0, .ref (ad 26)), (1, .int p1), (2, .int c2_1), (3, .int r869), (4, .int l4_1), (5, .int c5_1), (7, .int l7_1)] dX8_judge_133 (by decide) rfl ?_
            refine r_iinc (v2 := (l7_1 + (1 : Int32))) 8 [(7, .int (l7_1 + (1 : Int32))), (6, .int ((l6_1 - r869) &&& r869)), (8, .int (f_J6_bitCount_0f7a4 l6_1)), (0, .ref (ad 26)), (1, .int p1), (2, .int c2_1), (3, .int r869), (4, .int l4_1), (5, .int c5_1)] dX8_judge_135 rfl rfl (by decide) rfl ?_
            refine r_goto (tgt := 39) dX8_judge_138 (by decide) ?_
            refine r_ls [3, 4, 5, 6, 7, 8, 1, 0] (ls2 := [(0, .ref (ad 26)), (1, .int p1), (2, .int c2_1), (3, .int r869), (4, .int l4_1), (5, .int c5_1), (6, .int ((l6_1 - r869) &&& r869)), (7, .int (l7_1 + (1 : Int32)))]) rfl ?_
            exact ih1 c2_1 c5_1 l4_1 ((l6_1 - r869) &&& r869) (l7_1 + (1 : Int32)) Ve_liarSet_1 Ve_setCount_1 h
          · have h := iq (fun z9 => (lC (f_Ve_judge_L39 N Tap_tellerCount Ve_against p1 r869 c2_1 c5_1) none n1 z9)) hc872 h
            refine r_aload_n 1 dX8_judge_60 rfl ?_
            refine r_iload 7 dX8_judge_61 rfl ?_
            refine r_iload_n 3 dX8_judge_63 rfl ?_
            obtain ⟨r873, hc874, h⟩ := ob (fun z9 => (lC (f_Ve_judge_L39 N Tap_tellerCount Ve_against p1 r869 c2_1 c5_1) none n1 z9)) rfl h
            refine c_V (rest := []) 0 0 _ dX8_judge_64 kv_X8_89 (ct_Ve_isEnough hc874) rfl rfl lX_26 rfl (Nat.le_of_ble_eq_true rfl) (by decide) (by decide) ?_
            refine r_if_eq (tgt := 127) dX8_judge_67 (by decide) (fun hc875 => ?_) (fun hc875 => ?_)
            · have h := ip (fun z9 => (lC (f_Ve_judge_L39 N Tap_tellerCount Ve_against p1 r869 c2_1 c5_1) none n1 z9)) hc875 h
              refine r_iload 7 dX8_judge_127 rfl ?_
              refine r_iload_n 4 dX8_judge_129 rfl ?_
              refine r_isub dX8_judge_130 ?_
              refine r_iload_n 4 dX8_judge_131 rfl ?_
              refine r_iand dX8_judge_132 ?_
              refine r_istore [(6, .int ((l6_1 - r869) &&& r869)), (8, .int (f_J6_bitCount_0f7a4 l6_1)), (0, .ref (ad 26)), (1, .int p1), (2, .int c2_1), (3, .int r869), (4, .int l4_1), (5, .int c5_1), (7, .int l7_1)] dX8_judge_133 (by decide) rfl ?_
              refine r_iinc (v2 := (l7_1 + (1 : Int32))) 8 [(7, .int (l7_1 + (1 : Int32))), (6, .int ((l6_1 - r869) &&& r869)), (8, .int (f_J6_bitCount_0f7a4 l6_1)), (0, .ref (ad 26)), (1, .int p1), (2, .int c2_1), (3, .int r869), (4, .int l4_1), (5, .int c5_1)] dX8_judge_135 rfl rfl (by decide) rfl ?_
              refine r_goto (tgt := 39) dX8_judge_138 (by decide) ?_
              refine r_ls [3, 4, 5, 6, 7, 8, 1, 0] (ls2 := [(0, .ref (ad 26)), (1, .int p1), (2, .int c2_1), (3, .int r869), (4, .int l4_1), (5, .int c5_1), (6, .int ((l6_1 - r869) &&& r869)), (7, .int (l7_1 + (1 : Int32)))]) rfl ?_
              exact ih1 c2_1 c5_1 l4_1 ((l6_1 - r869) &&& r869) (l7_1 + (1 : Int32)) Ve_liarSet_1 Ve_setCount_1 h
            · have h := iq (fun z9 => (lC (f_Ve_judge_L39 N Tap_tellerCount Ve_against p1 r869 c2_1 c5_1) none n1 z9)) hc875 h
              refine r_aload_n 1 dX8_judge_70 rfl ?_
              refine r_iload 0 dX8_judge_71 rfl ?_
              refine r_iload 5 dX8_judge_73 rfl ?_
              refine r_icmp_ge (tgt := 82) dX8_judge_75 (by decide) (fun hc876 => ?_) (fun hc876 => ?_)
              · have h := ip (fun z9 => (lC (f_Ve_judge_L39 N Tap_tellerCount Ve_against p1 r869 c2_1 c5_1) none n1 z9)) hc876 h
                refine r_aload_n 1 dX8_judge_82 rfl ?_
                refine r_getf (v := .int Ve_setCount_1) _ dX8_judge_83 fl_X8_83 lX_26 rfl ?_
                refine r_iconst (v := (1 : Int32)) dX8_judge_86 (by decide) ?_
                refine r_iadd dX8_judge_87 ?_
                refine r_putf _ dX8_judge_88 fl_X8_83 lX_26 (Nat.le_of_ble_eq_true rfl) rfl rfl (sX_20 _) ?_
                refine r_aload_n 1 dX8_judge_91 rfl ?_
                refine r_iload 0 dX8_judge_92 rfl ?_
                refine r_iload 5 dX8_judge_94 rfl ?_
                refine r_icmp_lt (tgt := 111) dX8_judge_96 (by decide) (fun hc877 => ?_) (fun hc877 => ?_)
                · have h := ip (fun z9 => (lC (f_Ve_judge_L39 N Tap_tellerCount Ve_against p1 r869 c2_1 c5_1) none n1 z9)) hc877 h
                  refine r_iload 7 dX8_judge_111 rfl ?_
                  refine r_goto (tgt := 120) dX8_judge_113 (by decide) ?_
                  refine r_putf _ dX8_judge_120 fl_X8_80 lX_26 (Nat.le_of_ble_eq_true rfl) rfl rfl (sX_19 _) ?_
                  refine r_iload 0 dX8_judge_123 rfl ?_
                  refine r_istore [(4, .int (f_J6_bitCount_0f7a4 l6_1)), (8, .int (f_J6_bitCount_0f7a4 l6_1)), (0, .ref (ad 26)), (1, .int p1), (2, .int c2_1), (3, .int r869), (5, .int c5_1), (6, .int l6_1), (7, .int l7_1)] dX8_judge_125 (by decide) rfl ?_
                  refine r_iload 7 dX8_judge_127 rfl ?_
                  refine r_iload_n 5 dX8_judge_129 rfl ?_
                  refine r_isub dX8_judge_130 ?_
                  refine r_iload_n 5 dX8_judge_131 rfl ?_
                  refine r_iand dX8_judge_132 ?_
                  refine r_istore [(6, .int ((l6_1 - r869) &&& r869)), (4, .int (f_J6_bitCount_0f7a4 l6_1)), (8, .int (f_J6_bitCount_0f7a4 l6_1)), (0, .ref (ad 26)), (1, .int p1), (2, .int c2_1), (3, .int r869), (5, .int c5_1), (7, .int l7_1)] dX8_judge_133 (by decide) rfl ?_
                  refine r_iinc (v2 := (l7_1 + (1 : Int32))) 8 [(7, .int (l7_1 + (1 : Int32))), (6, .int ((l6_1 - r869) &&& r869)), (4, .int (f_J6_bitCount_0f7a4 l6_1)), (8, .int (f_J6_bitCount_0f7a4 l6_1)), (0, .ref (ad 26)), (1, .int p1), (2, .int c2_1), (3, .int r869), (5, .int c5_1)] dX8_judge_135 rfl rfl (by decide) rfl ?_
                  refine r_goto (tgt := 39) dX8_judge_138 (by decide) ?_
                  refine r_ls [4, 5, 6, 7, 2, 8, 1, 0] (ls2 := [(0, .ref (ad 26)), (1, .int p1), (2, .int c2_1), (3, .int r869), (4, .int (f_J6_bitCount_0f7a4 l6_1)), (5, .int c5_1), (6, .int ((l6_1 - r869) &&& r869)), (7, .int (l7_1 + (1 : Int32)))]) rfl ?_
                  exact ih1 c2_1 c5_1 (f_J6_bitCount_0f7a4 l6_1) ((l6_1 - r869) &&& r869) (l7_1 + (1 : Int32)) l6_1 (Ve_setCount_1 + (1 : Int32)) h
                · have h := iq (fun z9 => (lC (f_Ve_judge_L39 N Tap_tellerCount Ve_against p1 r869 c2_1 c5_1) none n1 z9)) hc877 h
                  refine r_iload 7 dX8_judge_99 rfl ?_
                  refine r_aload_n 1 dX8_judge_101 rfl ?_
                  refine r_getf (v := .int Ve_liarSet_1) _ dX8_judge_102 fl_X8_80 lX_26 rfl ?_
                  refine c_S (rest := [.ref (ad 26)]) 0 0 dX8_judge_105 ks_X8_92 (ct_Ve_isPreferred rfl) rfl rfl (Nat.le_of_ble_eq_true rfl) (by decide) (by decide) ?_
                  refine r_if_eq (tgt := 116) dX8_judge_108 (by decide) (fun hc878 => ?_) (fun hc878 => ?_)
                  · have h := ip (fun z9 => (lC (f_Ve_judge_L39 N Tap_tellerCount Ve_against p1 r869 c2_1 c5_1) none n1 z9)) hc878 h
                    refine r_aload_n 1 dX8_judge_116 rfl ?_
                    refine r_getf (v := .int Ve_liarSet_1) _ dX8_judge_117 fl_X8_80 lX_26 rfl ?_
                    refine r_putf _ dX8_judge_120 fl_X8_80 lX_26 (Nat.le_of_ble_eq_true rfl) rfl rfl (sX_19 _) ?_
                    refine r_iload 0 dX8_judge_123 rfl ?_
                    refine r_istore [(4, .int (f_J6_bitCount_0f7a4 l6_1)), (8, .int (f_J6_bitCount_0f7a4 l6_1)), (0, .ref (ad 26)), (1, .int p1), (2, .int c2_1), (3, .int r869), (5, .int c5_1), (6, .int l6_1), (7, .int l7_1)] dX8_judge_125 (by decide) rfl ?_
                    refine r_iload 7 dX8_judge_127 rfl ?_
                    refine r_iload_n 5 dX8_judge_129 rfl ?_
                    refine r_isub dX8_judge_130 ?_
                    refine r_iload_n 5 dX8_judge_131 rfl ?_
                    refine r_iand dX8_judge_132 ?_
                    refine r_istore [(6, .int ((l6_1 - r869) &&& r869)), (4, .int (f_J6_bitCount_0f7a4 l6_1)), (8, .int (f_J6_bitCount_0f7a4 l6_1)), (0, .ref (ad 26)), (1, .int p1), (2, .int c2_1), (3, .int r869), (5, .int c5_1), (7, .int l7_1)] dX8_judge_133 (by decide) rfl ?_
                    refine r_iinc (v2 := (l7_1 + (1 : Int32))) 8 [(7, .int (l7_1 + (1 : Int32))), (6, .int ((l6_1 - r869) &&& r869)), (4, .int (f_J6_bitCount_0f7a4 l6_1)), (8, .int (f_J6_bitCount_0f7a4 l6_1)), (0, .ref (ad 26)), (1, .int p1), (2, .int c2_1), (3, .int r869), (5, .int c5_1)] dX8_judge_135 rfl rfl (by decide) rfl ?_
                    refine r_goto (tgt := 39) dX8_judge_138 (by decide) ?_
                    refine r_ls [4, 5, 6, 7, 2, 8, 1, 0] (ls2 := [(0, .ref (ad 26)), (1, .int p1), (2, .int c2_1), (3, .int r869), (4, .int (f_J6_bitCount_0f7a4 l6_1)), (5, .int c5_1), (6, .int ((l6_1 - r869) &&& r869)), (7, .int (l7_1 + (1 : Int32)))]) rfl ?_
                    exact ih1 c2_1 c5_1 (f_J6_bitCount_0f7a4 l6_1) ((l6_1 - r869) &&& r869) (l7_1 + (1 : Int32)) Ve_liarSet_1 (Ve_setCount_1 + (1 : Int32)) h
                  · have h := iq (fun z9 => (lC (f_Ve_judge_L39 N Tap_tellerCount Ve_against p1 r869 c2_1 c5_1) none n1 z9)) hc878 h
                    refine r_iload 7 dX8_judge_111 rfl ?_
                    refine r_goto (tgt := 120) dX8_judge_113 (by decide) ?_
                    refine r_putf _ dX8_judge_120 fl_X8_80 lX_26 (Nat.le_of_ble_eq_true rfl) rfl rfl (sX_19 _) ?_
                    refine r_iload 0 dX8_judge_123 rfl ?_
                    refine r_istore [(4, .int (f_J6_bitCount_0f7a4 l6_1)), (8, .int (f_J6_bitCount_0f7a4 l6_1)), (0, .ref (ad 26)), (1, .int p1), (2, .int c2_1), (3, .int r869), (5, .int c5_1), (6, .int l6_1), (7, .int l7_1)] dX8_judge_125 (by decide) rfl ?_
                    refine r_iload 7 dX8_judge_127 rfl ?_
                    refine r_iload_n 5 dX8_judge_129 rfl ?_
                    refine r_isub dX8_judge_130 ?_
                    refine r_iload_n 5 dX8_judge_131 rfl ?_
                    refine r_iand dX8_judge_132 ?_
                    refine r_istore [(6, .int ((l6_1 - r869) &&& r869)), (4, .int (f_J6_bitCount_0f7a4 l6_1)), (8, .int (f_J6_bitCount_0f7a4 l6_1)), (0, .ref (ad 26)), (1, .int p1), (2, .int c2_1), (3, .int r869), (5, .int c5_1), (7, .int l7_1)] dX8_judge_133 (by decide) rfl ?_
                    refine r_iinc (v2 := (l7_1 + (1 : Int32))) 8 [(7, .int (l7_1 + (1 : Int32))), (6, .int ((l6_1 - r869) &&& r869)), (4, .int (f_J6_bitCount_0f7a4 l6_1)), (8, .int (f_J6_bitCount_0f7a4 l6_1)), (0, .ref (ad 26)), (1, .int p1), (2, .int c2_1), (3, .int r869), (5, .int c5_1)] dX8_judge_135 rfl rfl (by decide) rfl ?_
                    refine r_goto (tgt := 39) dX8_judge_138 (by decide) ?_
                    refine r_ls [4, 5, 6, 7, 2, 8, 1, 0] (ls2 := [(0, .ref (ad 26)), (1, .int p1), (2, .int c2_1), (3, .int r869), (4, .int (f_J6_bitCount_0f7a4 l6_1)), (5, .int c5_1), (6, .int ((l6_1 - r869) &&& r869)), (7, .int (l7_1 + (1 : Int32)))]) rfl ?_
                    exact ih1 c2_1 c5_1 (f_J6_bitCount_0f7a4 l6_1) ((l6_1 - r869) &&& r869) (l7_1 + (1 : Int32)) l6_1 (Ve_setCount_1 + (1 : Int32)) h
              · have h := iq (fun z9 => (lC (f_Ve_judge_L39 N Tap_tellerCount Ve_against p1 r869 c2_1 c5_1) none n1 z9)) hc876 h
                refine r_iconst (v := (1 : Int32)) dX8_judge_78 (by decide) ?_
                refine r_goto (tgt := 88) dX8_judge_79 (by decide) ?_
                refine r_putf _ dX8_judge_88 fl_X8_83 lX_26 (Nat.le_of_ble_eq_true rfl) rfl rfl (sX_20 _) ?_
                refine r_aload_n 1 dX8_judge_91 rfl ?_
                refine r_iload 0 dX8_judge_92 rfl ?_
                refine r_iload 5 dX8_judge_94 rfl ?_
                refine r_icmp_lt (tgt := 111) dX8_judge_96 (by decide) (fun hc879 => ?_) (fun hc879 => ?_)
                · have h := ip (fun z9 => (lC (f_Ve_judge_L39 N Tap_tellerCount Ve_against p1 r869 c2_1 c5_1) none n1 z9)) hc879 h
                  refine r_iload 7 dX8_judge_111 rfl ?_
                  refine r_goto (tgt := 120) dX8_judge_113 (by decide) ?_
                  refine r_putf _ dX8_judge_120 fl_X8_80 lX_26 (Nat.le_of_ble_eq_true rfl) rfl rfl (sX_19 _) ?_
                  refine r_iload 0 dX8_judge_123 rfl ?_
                  refine r_istore [(4, .int (f_J6_bitCount_0f7a4 l6_1)), (8, .int (f_J6_bitCount_0f7a4 l6_1)), (0, .ref (ad 26)), (1, .int p1), (2, .int c2_1), (3, .int r869), (5, .int c5_1), (6, .int l6_1), (7, .int l7_1)] dX8_judge_125 (by decide) rfl ?_
                  refine r_iload 7 dX8_judge_127 rfl ?_
                  refine r_iload_n 5 dX8_judge_129 rfl ?_
                  refine r_isub dX8_judge_130 ?_
                  refine r_iload_n 5 dX8_judge_131 rfl ?_
                  refine r_iand dX8_judge_132 ?_
                  refine r_istore [(6, .int ((l6_1 - r869) &&& r869)), (4, .int (f_J6_bitCount_0f7a4 l6_1)), (8, .int (f_J6_bitCount_0f7a4 l6_1)), (0, .ref (ad 26)), (1, .int p1), (2, .int c2_1), (3, .int r869), (5, .int c5_1), (7, .int l7_1)] dX8_judge_133 (by decide) rfl ?_
                  refine r_iinc (v2 := (l7_1 + (1 : Int32))) 8 [(7, .int (l7_1 + (1 : Int32))), (6, .int ((l6_1 - r869) &&& r869)), (4, .int (f_J6_bitCount_0f7a4 l6_1)), (8, .int (f_J6_bitCount_0f7a4 l6_1)), (0, .ref (ad 26)), (1, .int p1), (2, .int c2_1), (3, .int r869), (5, .int c5_1)] dX8_judge_135 rfl rfl (by decide) rfl ?_
                  refine r_goto (tgt := 39) dX8_judge_138 (by decide) ?_
                  refine r_ls [4, 5, 6, 7, 2, 8, 1, 0] (ls2 := [(0, .ref (ad 26)), (1, .int p1), (2, .int c2_1), (3, .int r869), (4, .int (f_J6_bitCount_0f7a4 l6_1)), (5, .int c5_1), (6, .int ((l6_1 - r869) &&& r869)), (7, .int (l7_1 + (1 : Int32)))]) rfl ?_
                  exact ih1 c2_1 c5_1 (f_J6_bitCount_0f7a4 l6_1) ((l6_1 - r869) &&& r869) (l7_1 + (1 : Int32)) l6_1 (1 : Int32) h
                · have h := iq (fun z9 => (lC (f_Ve_judge_L39 N Tap_tellerCount Ve_against p1 r869 c2_1 c5_1) none n1 z9)) hc879 h
                  refine r_iload 7 dX8_judge_99 rfl ?_
                  refine r_aload_n 1 dX8_judge_101 rfl ?_
                  refine r_getf (v := .int Ve_liarSet_1) _ dX8_judge_102 fl_X8_80 lX_26 rfl ?_
                  refine c_S (rest := [.ref (ad 26)]) 0 0 dX8_judge_105 ks_X8_92 (ct_Ve_isPreferred rfl) rfl rfl (Nat.le_of_ble_eq_true rfl) (by decide) (by decide) ?_
                  refine r_if_eq (tgt := 116) dX8_judge_108 (by decide) (fun hc880 => ?_) (fun hc880 => ?_)
                  · have h := ip (fun z9 => (lC (f_Ve_judge_L39 N Tap_tellerCount Ve_against p1 r869 c2_1 c5_1) none n1 z9)) hc880 h
                    refine r_aload_n 1 dX8_judge_116 rfl ?_
                    refine r_getf (v := .int Ve_liarSet_1) _ dX8_judge_117 fl_X8_80 lX_26 rfl ?_
                    refine r_putf _ dX8_judge_120 fl_X8_80 lX_26 (Nat.le_of_ble_eq_true rfl) rfl rfl (sX_19 _) ?_
                    refine r_iload 0 dX8_judge_123 rfl ?_
                    refine r_istore [(4, .int (f_J6_bitCount_0f7a4 l6_1)), (8, .int (f_J6_bitCount_0f7a4 l6_1)), (0, .ref (ad 26)), (1, .int p1), (2, .int c2_1), (3, .int r869), (5, .int c5_1), (6, .int l6_1), (7, .int l7_1)] dX8_judge_125 (by decide) rfl ?_
                    refine r_iload 7 dX8_judge_127 rfl ?_
                    refine r_iload_n 5 dX8_judge_129 rfl ?_
                    refine r_isub dX8_judge_130 ?_
                    refine r_iload_n 5 dX8_judge_131 rfl ?_
                    refine r_iand dX8_judge_132 ?_
                    refine r_istore [(6, .int ((l6_1 - r869) &&& r869)), (4, .int (f_J6_bitCount_0f7a4 l6_1)), (8, .int (f_J6_bitCount_0f7a4 l6_1)), (0, .ref (ad 26)), (1, .int p1), (2, .int c2_1), (3, .int r869), (5, .int c5_1), (7, .int l7_1)] dX8_judge_133 (by decide) rfl ?_
                    refine r_iinc (v2 := (l7_1 + (1 : Int32))) 8 [(7, .int (l7_1 + (1 : Int32))), (6, .int ((l6_1 - r869) &&& r869)), (4, .int (f_J6_bitCount_0f7a4 l6_1)), (8, .int (f_J6_bitCount_0f7a4 l6_1)), (0, .ref (ad 26)), (1, .int p1), (2, .int c2_1), (3, .int r869), (5, .int c5_1)] dX8_judge_135 rfl rfl (by decide) rfl ?_
                    refine r_goto (tgt := 39) dX8_judge_138 (by decide) ?_
                    refine r_ls [4, 5, 6, 7, 2, 8, 1, 0] (ls2 := [(0, .ref (ad 26)), (1, .int p1), (2, .int c2_1), (3, .int r869), (4, .int (f_J6_bitCount_0f7a4 l6_1)), (5, .int c5_1), (6, .int ((l6_1 - r869) &&& r869)), (7, .int (l7_1 + (1 : Int32)))]) rfl ?_
                    exact ih1 c2_1 c5_1 (f_J6_bitCount_0f7a4 l6_1) ((l6_1 - r869) &&& r869) (l7_1 + (1 : Int32)) Ve_liarSet_1 (1 : Int32) h
                  · have h := iq (fun z9 => (lC (f_Ve_judge_L39 N Tap_tellerCount Ve_against p1 r869 c2_1 c5_1) none n1 z9)) hc880 h
                    refine r_iload 7 dX8_judge_111 rfl ?_
                    refine r_goto (tgt := 120) dX8_judge_113 (by decide) ?_
                    refine r_putf _ dX8_judge_120 fl_X8_80 lX_26 (Nat.le_of_ble_eq_true rfl) rfl rfl (sX_19 _) ?_
                    refine r_iload 0 dX8_judge_123 rfl ?_
                    refine r_istore [(4, .int (f_J6_bitCount_0f7a4 l6_1)), (8, .int (f_J6_bitCount_0f7a4 l6_1)), (0, .ref (ad 26)), (1, .int p1), (2, .int c2_1), (3, .int r869), (5, .int c5_1), (6, .int l6_1), (7, .int l7_1)] dX8_judge_125 (by decide) rfl ?_
                    refine r_iload 7 dX8_judge_127 rfl ?_
                    refine r_iload_n 5 dX8_judge_129 rfl ?_
                    refine r_isub dX8_judge_130 ?_
                    refine r_iload_n 5 dX8_judge_131 rfl ?_
                    refine r_iand dX8_judge_132 ?_
                    refine r_istore [(6, .int ((l6_1 - r869) &&& r869)), (4, .int (f_J6_bitCount_0f7a4 l6_1)), (8, .int (f_J6_bitCount_0f7a4 l6_1)), (0, .ref (ad 26)), (1, .int p1), (2, .int c2_1), (3, .int r869), (5, .int c5_1), (7, .int l7_1)] dX8_judge_133 (by decide) rfl ?_
                    refine r_iinc (v2 := (l7_1 + (1 : Int32))) 8 [(7, .int (l7_1 + (1 : Int32))), (6, .int ((l6_1 - r869) &&& r869)), (4, .int (f_J6_bitCount_0f7a4 l6_1)), (8, .int (f_J6_bitCount_0f7a4 l6_1)), (0, .ref (ad 26)), (1, .int p1), (2, .int c2_1), (3, .int r869), (5, .int c5_1)] dX8_judge_135 rfl rfl (by decide) rfl ?_
                    refine r_goto (tgt := 39) dX8_judge_138 (by decide) ?_
                    refine r_ls [4, 5, 6, 7, 2, 8, 1, 0] (ls2 := [(0, .ref (ad 26)), (1, .int p1), (2, .int c2_1), (3, .int r869), (4, .int (f_J6_bitCount_0f7a4 l6_1)), (5, .int c5_1), (6, .int ((l6_1 - r869) &&& r869)), (7, .int (l7_1 + (1 : Int32)))]) rfl ?_
                    exact ih1 c2_1 c5_1 (f_J6_bitCount_0f7a4 l6_1) ((l6_1 - r869) &&& r869) (l7_1 + (1 : Int32)) l6_1 (1 : Int32) h
    exact L1 _ (f_Ve_believedSet Tap_tellerCount p1) ((1 : Int32) <<< ((f_J6_bitCount_0f7a4 r869) &&& 31)) (11 : Int32) (0 : Int32) (0 : Int32) Ve_liarSet Ve_setCount h
  · have h := ip (fun z9 => z9) hc868 h
    refine r_vret dX8_judge_8 rfl ?_
    have h := Option.some.inj (show some _ = some o from h)
    subst h
    exact hq
theorem ct_Ve_judge {g : GG} {ad : Nat → Nat} {t : va_W} {x0 x1 x3 x5 x11 x12 x24 x25 x26 x27 x28 x29 x30 x31 x37 x39 x40 x41 x47 x48 x54 x56 x58 x59 x60 x61 x63 x64 x65 x66 : Int32} {x2 x6 x7 x8 x9 x10 x13 x14 x15 x16 x17 x22 x23 x33 x34 x35 x42 x43 x44 x45 x46 x49 x50 x51 x52 x53 x62 x67 : Nat → Int32} {x32 : Int64} {x36 x38 x55 x57 : Nat → Int64} {N : Nat} {Tap_tellerCount : Int32} {Ve_judged : Int32} {Ve_liarSet : Int32} {Ve_setCount : Int32} {Ve_against : Nat → Int32} {p1 : Int32} {o : Int32 × Int32 × Int32} (h : f_Ve_judge N Tap_tellerCount Ve_judged Ve_liarSet Ve_setCount Ve_against p1 = some o) : Ct g mX8_judge 3 0 0 [.ref (ad 26), .int p1] (wlX g ad x0 x1 x2 x3 Tap_tellerCount x5 x6 x7 x8 x9 x10 x11 x12 x13 x14 x15 x16 x17 Ve_judged Ve_liarSet Ve_setCount Ve_against x22 x23 x24 x25 x26 x27 x28 x29 x30 x31 x32 x33 x34 x35 x36 x37 x38 x39 x40 x41 x42 x43 x44 x45 x46 x47 x48 x49 x50 x51 x52 x53 x54 x55 x56 x57 x58 x59 x60 x61 x62 x63 x64 x65 x66 x67 ++ t) (Dv (none) (wlX g ad x0 x1 x2 x3 Tap_tellerCount x5 x6 x7 x8 x9 x10 x11 x12 x13 x14 x15 x16 x17 o.1 o.2.1 o.2.2 Ve_against x22 x23 x24 x25 x26 x27 x28 x29 x30 x31 x32 x33 x34 x35 x36 x37 x38 x39 x40 x41 x42 x43 x44 x45 x46 x47 x48 x49 x50 x51 x52 x53 x54 x55 x56 x57 x58 x59 x60 x61 x62 x63 x64 x65 x66 x67 ++ t)) := Ct.ofR (by decide +kernel) rfl (Nat.le_of_ble_eq_true rfl) (rt_Ve_judge h ⟨rfl, rfl⟩)
