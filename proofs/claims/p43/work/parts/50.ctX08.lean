set_option maxRecDepth 20000 in
set_option maxHeartbeats 4000000 in
theorem rt_Main_firstHourOf {g : GG} {ad : Nat → Nat} {t : va_W} {x0 x1 x3 x4 x11 x12 x18 x19 x20 x24 x25 x26 x27 x28 x29 x30 x31 x37 x39 x40 x41 x47 x48 x54 x56 x58 x59 x60 x61 x63 x64 x65 x66 : Int32} {x2 x6 x8 x10 x13 x14 x15 x16 x17 x21 x22 x23 x33 x34 x35 x42 x43 x44 x45 x46 x49 x50 x51 x52 x53 x62 x67 : Nat → Int32} {x32 : Int64} {x36 x38 x55 x57 : Nat → Int64} {Cl_count : Int32} {Cl_kinds : Nat → Int32} {Cl_firsts : Nat → Int32} {p1 : Int32} {o : (Int32) ⊕ String} {Q : Rs → va_W → Prop} (h : f_Main_firstHourOf Cl_count Cl_kinds Cl_firsts p1 = some o) (hq1 : ∀ q, o = .inl q → Q (.inl (some (.int q))) (wlX g ad x0 x1 x2 x3 x4 Cl_count x6 Cl_kinds x8 Cl_firsts x10 x11 x12 x13 x14 x15 x16 x17 x18 x19 x20 x21 x22 x23 x24 x25 x26 x27 x28 x29 x30 x31 x32 x33 x34 x35 x36 x37 x38 x39 x40 x41 x42 x43 x44 x45 x46 x47 x48 x49 x50 x51 x52 x53 x54 x55 x56 x57 x58 x59 x60 x61 x62 x63 x64 x65 x66 x67 ++ t)) (hq2 : ∀ E, o = .inr E → Q (.inr E) (wlX g ad x0 x1 x2 x3 x4 Cl_count x6 Cl_kinds x8 Cl_firsts x10 x11 x12 x13 x14 x15 x16 x17 x18 x19 x20 x21 x22 x23 x24 x25 x26 x27 x28 x29 x30 x31 x32 x33 x34 x35 x36 x37 x38 x39 x40 x41 x42 x43 x44 x45 x46 x47 x48 x49 x50 x51 x52 x53 x54 x55 x56 x57 x58 x59 x60 x61 x62 x63 x64 x65 x66 x67 ++ t)) : R g mX9_firstHourOf 7 2 12 0 [(0, .ref (ad 0)), (1, .int p1)] [] (wlX g ad x0 x1 x2 x3 x4 Cl_count x6 Cl_kinds x8 Cl_firsts x10 x11 x12 x13 x14 x15 x16 x17 x18 x19 x20 x21 x22 x23 x24 x25 x26 x27 x28 x29 x30 x31 x32 x33 x34 x35 x36 x37 x38 x39 x40 x41 x42 x43 x44 x45 x46 x47 x48 x49 x50 x51 x52 x53 x54 x55 x56 x57 x58 x59 x60 x61 x62 x63 x64 x65 x66 x67 ++ t) Q := by
  unfold f_Main_firstHourOf at h
  refine r_aload_n 0 dX9_firstHourOf_0 rfl ?_
  refine r_iload_n 1 dX9_firstHourOf_1 rfl ?_
  obtain ⟨r788, hc789, h⟩ := ob (fun z9 => z9) rfl h
  rcases r788 with q790 | E795
  · refine c_Xv (rest := []) 1 6 _ dX9_firstHourOf_2 kv_X9_119 (ct_Main_needClaim hc789) rfl rfl lX_0 rfl (Nat.le_of_ble_eq_true rfl) (by decide) (by decide) ?_
    try dsimp only [Sum.elim_inl, Sum.elim_inr] at h
    refine r_aload_n 0 dX9_firstHourOf_5 rfl ?_
    refine r_iload_n 1 dX9_firstHourOf_6 rfl ?_
    obtain ⟨r791, hc792, h⟩ := ob (fun z9 => z9) rfl h
    rcases r791 with q793 | E794
    · refine c_Xv (rest := []) 0 0 _ dX9_firstHourOf_7 kv_X9_139 (ct_Main_needHours hc792) rfl rfl lX_0 rfl (Nat.le_of_ble_eq_true rfl) (by decide) (by decide) ?_
      try dsimp only [Sum.elim_inl, Sum.elim_inr] at h
      refine r_aload_n 0 dX9_firstHourOf_10 rfl ?_
      refine r_getf (v := .ref (ad 3)) _ dX9_firstHourOf_11 fl_X9_35 lX_0 rfl ?_
      refine r_getf (v := .ref (ad 4)) _ dX9_firstHourOf_14 fl_X9_104 lX_3 rfl ?_
      refine r_getf (v := .ref (ad 11)) _ dX9_firstHourOf_17 fl_X9_136 lX_4 rfl ?_
      refine r_iload_n 1 dX9_firstHourOf_20 rfl ?_
      refine c_V (rest := []) 0 0 _ dX9_firstHourOf_21 kv_X9_125 (ct_Row_get lX_11 lX_12 (Nat.le_of_ble_eq_true rfl)) rfl rfl lX_11 rfl (Nat.le_of_ble_eq_true rfl) (by decide) (by decide) ?_
      refine r_iret dX9_firstHourOf_24 rfl ?_
      have h := Option.some.inj (show some _ = some o from h)
      subst h
      exact hq1 _ rfl
    · refine c_Xt (rest := []) 0 0 _ dX9_firstHourOf_7 kv_X9_139 (ct_Main_needHours hc792) rfl rfl lX_0 rfl (Nat.le_of_ble_eq_true rfl) (by decide) (by decide) ?_
      refine rx_out rfl ?_
      have h := Option.some.inj (show some _ = some o from h)
      subst h
      exact hq2 _ rfl
  · refine c_Xt (rest := []) 1 6 _ dX9_firstHourOf_2 kv_X9_119 (ct_Main_needClaim hc789) rfl rfl lX_0 rfl (Nat.le_of_ble_eq_true rfl) (by decide) (by decide) ?_
    refine rx_out rfl ?_
    have h := Option.some.inj (show some _ = some o from h)
    subst h
    exact hq2 _ rfl
theorem ct_Main_firstHourOf {g : GG} {ad : Nat → Nat} {t : va_W} {x0 x1 x3 x4 x11 x12 x18 x19 x20 x24 x25 x26 x27 x28 x29 x30 x31 x37 x39 x40 x41 x47 x48 x54 x56 x58 x59 x60 x61 x63 x64 x65 x66 : Int32} {x2 x6 x8 x10 x13 x14 x15 x16 x17 x21 x22 x23 x33 x34 x35 x42 x43 x44 x45 x46 x49 x50 x51 x52 x53 x62 x67 : Nat → Int32} {x32 : Int64} {x36 x38 x55 x57 : Nat → Int64} {Cl_count : Int32} {Cl_kinds : Nat → Int32} {Cl_firsts : Nat → Int32} {p1 : Int32} {o : (Int32) ⊕ String} (h : f_Main_firstHourOf Cl_count Cl_kinds Cl_firsts p1 = some o) : Ct g mX9_firstHourOf 7 2 12 [.ref (ad 0), .int p1] (wlX g ad x0 x1 x2 x3 x4 Cl_count x6 Cl_kinds x8 Cl_firsts x10 x11 x12 x13 x14 x15 x16 x17 x18 x19 x20 x21 x22 x23 x24 x25 x26 x27 x28 x29 x30 x31 x32 x33 x34 x35 x36 x37 x38 x39 x40 x41 x42 x43 x44 x45 x46 x47 x48 x49 x50 x51 x52 x53 x54 x55 x56 x57 x58 x59 x60 x61 x62 x63 x64 x65 x66 x67 ++ t) (Dt o (fun q => some (.int q)) (fun q => (wlX g ad x0 x1 x2 x3 x4 Cl_count x6 Cl_kinds x8 Cl_firsts x10 x11 x12 x13 x14 x15 x16 x17 x18 x19 x20 x21 x22 x23 x24 x25 x26 x27 x28 x29 x30 x31 x32 x33 x34 x35 x36 x37 x38 x39 x40 x41 x42 x43 x44 x45 x46 x47 x48 x49 x50 x51 x52 x53 x54 x55 x56 x57 x58 x59 x60 x61 x62 x63 x64 x65 x66 x67 ++ t)) (wlX g ad x0 x1 x2 x3 x4 Cl_count x6 Cl_kinds x8 Cl_firsts x10 x11 x12 x13 x14 x15 x16 x17 x18 x19 x20 x21 x22 x23 x24 x25 x26 x27 x28 x29 x30 x31 x32 x33 x34 x35 x36 x37 x38 x39 x40 x41 x42 x43 x44 x45 x46 x47 x48 x49 x50 x51 x52 x53 x54 x55 x56 x57 x58 x59 x60 x61 x62 x63 x64 x65 x66 x67 ++ t)) := Ct.ofR (by decide +kernel) rfl (Nat.le_of_ble_eq_true rfl) (rt_Main_firstHourOf h (fun q e => by subst e; exact ⟨rfl, rfl⟩) (fun E e => by subst e; exact ⟨rfl, rfl⟩))
set_option maxRecDepth 20000 in
set_option maxHeartbeats 4000000 in
theorem rt_Main_lastHourOf {g : GG} {ad : Nat → Nat} {t : va_W} {x0 x1 x3 x4 x11 x12 x18 x19 x20 x24 x25 x26 x27 x28 x29 x30 x31 x37 x39 x40 x41 x47 x48 x54 x56 x58 x59 x60 x61 x63 x64 x65 x66 : Int32} {x2 x6 x8 x9 x13 x14 x15 x16 x17 x21 x22 x23 x33 x34 x35 x42 x43 x44 x45 x46 x49 x50 x51 x52 x53 x62 x67 : Nat → Int32} {x32 : Int64} {x36 x38 x55 x57 : Nat → Int64} {Cl_count : Int32} {Cl_kinds : Nat → Int32} {Cl_lasts : Nat → Int32} {p1 : Int32} {o : (Int32) ⊕ String} {Q : Rs → va_W → Prop} (h : f_Main_lastHourOf Cl_count Cl_kinds Cl_lasts p1 = some o) (hq1 : ∀ q, o = .inl q → Q (.inl (some (.int q))) (wlX g ad x0 x1 x2 x3 x4 Cl_count x6 Cl_kinds x8 x9 Cl_lasts x11 x12 x13 x14 x15 x16 x17 x18 x19 x20 x21 x22 x23 x24 x25 x26 x27 x28 x29 x30 x31 x32 x33 x34 x35 x36 x37 x38 x39 x40 x41 x42 x43 x44 x45 x46 x47 x48 x49 x50 x51 x52 x53 x54 x55 x56 x57 x58 x59 x60 x61 x62 x63 x64 x65 x66 x67 ++ t)) (hq2 : ∀ E, o = .inr E → Q (.inr E) (wlX g ad x0 x1 x2 x3 x4 Cl_count x6 Cl_kinds x8 x9 Cl_lasts x11 x12 x13 x14 x15 x16 x17 x18 x19 x20 x21 x22 x23 x24 x25 x26 x27 x28 x29 x30 x31 x32 x33 x34 x35 x36 x37 x38 x39 x40 x41 x42 x43 x44 x45 x46 x47 x48 x49 x50 x51 x52 x53 x54 x55 x56 x57 x58 x59 x60 x61 x62 x63 x64 x65 x66 x67 ++ t)) : R g mX9_lastHourOf 7 2 12 0 [(0, .ref (ad 0)), (1, .int p1)] [] (wlX g ad x0 x1 x2 x3 x4 Cl_count x6 Cl_kinds x8 x9 Cl_lasts x11 x12 x13 x14 x15 x16 x17 x18 x19 x20 x21 x22 x23 x24 x25 x26 x27 x28 x29 x30 x31 x32 x33 x34 x35 x36 x37 x38 x39 x40 x41 x42 x43 x44 x45 x46 x47 x48 x49 x50 x51 x52 x53 x54 x55 x56 x57 x58 x59 x60 x61 x62 x63 x64 x65 x66 x67 ++ t) Q := by
  unfold f_Main_lastHourOf at h
  refine r_aload_n 0 dX9_lastHourOf_0 rfl ?_
  refine r_iload_n 1 dX9_lastHourOf_1 rfl ?_
  obtain ⟨r796, hc797, h⟩ := ob (fun z9 => z9) rfl h
  rcases r796 with q798 | E803
  · refine c_Xv (rest := []) 1 6 _ dX9_lastHourOf_2 kv_X9_119 (ct_Main_needClaim hc797) rfl rfl lX_0 rfl (Nat.le_of_ble_eq_true rfl) (by decide) (by decide) ?_
    try dsimp only [Sum.elim_inl, Sum.elim_inr] at h
    refine r_aload_n 0 dX9_lastHourOf_5 rfl ?_
    refine r_iload_n 1 dX9_lastHourOf_6 rfl ?_
    obtain ⟨r799, hc800, h⟩ := ob (fun z9 => z9) rfl h
    rcases r799 with q801 | E802
    · refine c_Xv (rest := []) 0 0 _ dX9_lastHourOf_7 kv_X9_139 (ct_Main_needHours hc800) rfl rfl lX_0 rfl (Nat.le_of_ble_eq_true rfl) (by decide) (by decide) ?_
      try dsimp only [Sum.elim_inl, Sum.elim_inr] at h
      refine r_aload_n 0 dX9_lastHourOf_10 rfl ?_
      refine r_getf (v := .ref (ad 3)) _ dX9_lastHourOf_11 fl_X9_35 lX_0 rfl ?_
      refine r_getf (v := .ref (ad 4)) _ dX9_lastHourOf_14 fl_X9_104 lX_3 rfl ?_
      refine r_getf (v := .ref (ad 13)) _ dX9_lastHourOf_17 fl_X9_142 lX_4 rfl ?_
      refine r_iload_n 1 dX9_lastHourOf_20 rfl ?_
      refine c_V (rest := []) 0 0 _ dX9_lastHourOf_21 kv_X9_125 (ct_Row_get lX_13 lX_14 (Nat.le_of_ble_eq_true rfl)) rfl rfl lX_13 rfl (Nat.le_of_ble_eq_true rfl) (by decide) (by decide) ?_
      refine r_iret dX9_lastHourOf_24 rfl ?_
      have h := Option.some.inj (show some _ = some o from h)
      subst h
      exact hq1 _ rfl
    · refine c_Xt (rest := []) 0 0 _ dX9_lastHourOf_7 kv_X9_139 (ct_Main_needHours hc800) rfl rfl lX_0 rfl (Nat.le_of_ble_eq_true rfl) (by decide) (by decide) ?_
      refine rx_out rfl ?_
      have h := Option.some.inj (show some _ = some o from h)
      subst h
      exact hq2 _ rfl
  · refine c_Xt (rest := []) 1 6 _ dX9_lastHourOf_2 kv_X9_119 (ct_Main_needClaim hc797) rfl rfl lX_0 rfl (Nat.le_of_ble_eq_true rfl) (by decide) (by decide) ?_
    refine rx_out rfl ?_
    have h := Option.some.inj (show some _ = some o from h)
    subst h
    exact hq2 _ rfl
theorem ct_Main_lastHourOf {g : GG} {ad : Nat → Nat} {t : va_W} {x0 x1 x3 x4 x11 x12 x18 x19 x20 x24 x25 x26 x27 x28 x29 x30 x31 x37 x39 x40 x41 x47 x48 x54 x56 x58 x59 x60 x61 x63 x64 x65 x66 : Int32} {x2 x6 x8 x9 x13 x14 x15 x16 x17 x21 x22 x23 x33 x34 x35 x42 x43 x44 x45 x46 x49 x50 x51 x52 x53 x62 x67 : Nat → Int32} {x32 : Int64} {x36 x38 x55 x57 : Nat → Int64} {Cl_count : Int32} {Cl_kinds : Nat → Int32} {Cl_lasts : Nat → Int32} {p1 : Int32} {o : (Int32) ⊕ String} (h : f_Main_lastHourOf Cl_count Cl_kinds Cl_lasts p1 = some o) : Ct g mX9_lastHourOf 7 2 12 [.ref (ad 0), .int p1] (wlX g ad x0 x1 x2 x3 x4 Cl_count x6 Cl_kinds x8 x9 Cl_lasts x11 x12 x13 x14 x15 x16 x17 x18 x19 x20 x21 x22 x23 x24 x25 x26 x27 x28 x29 x30 x31 x32 x33 x34 x35 x36 x37 x38 x39 x40 x41 x42 x43 x44 x45 x46 x47 x48 x49 x50 x51 x52 x53 x54 x55 x56 x57 x58 x59 x60 x61 x62 x63 x64 x65 x66 x67 ++ t) (Dt o (fun q => some (.int q)) (fun q => (wlX g ad x0 x1 x2 x3 x4 Cl_count x6 Cl_kinds x8 x9 Cl_lasts x11 x12 x13 x14 x15 x16 x17 x18 x19 x20 x21 x22 x23 x24 x25 x26 x27 x28 x29 x30 x31 x32 x33 x34 x35 x36 x37 x38 x39 x40 x41 x42 x43 x44 x45 x46 x47 x48 x49 x50 x51 x52 x53 x54 x55 x56 x57 x58 x59 x60 x61 x62 x63 x64 x65 x66 x67 ++ t)) (wlX g ad x0 x1 x2 x3 x4 Cl_count x6 Cl_kinds x8 x9 Cl_lasts x11 x12 x13 x14 x15 x16 x17 x18 x19 x20 x21 x22 x23 x24 x25 x26 x27 x28 x29 x30 x31 x32 x33 x34 x35 x36 x37 x38 x39 x40 x41 x42 x43 x44 x45 x46 x47 x48 x49 x50 x51 x52 x53 x54 x55 x56 x57 x58 x59 x60 x61 x62 x63 x64 x65 x66 x67 ++ t)) := Ct.ofR (by decide +kernel) rfl (Nat.le_of_ble_eq_true rfl) (rt_Main_lastHourOf h (fun q e => by subst e; exact ⟨rfl, rfl⟩) (fun E e => by subst e; exact ⟨rfl, rfl⟩))
set_option maxRecDepth 20000 in
set_option maxHeartbeats 4000000 in
theorem rt_Main_areContrary {g : GG} {ad : Nat → Nat} {t : va_W} {x0 x1 x3 x4 x11 x12 x18 x19 x20 x24 x25 x26 x27 x28 x29 x30 x31 x37 x39 x40 x41 x47 x48 x54 x56 x58 x59 x60 x61 x63 x64 x65 x66 : Int32} {x2 x6 x13 x14 x15 x16 x17 x21 x22 x23 x33 x34 x35 x42 x43 x44 x45 x46 x49 x50 x51 x52 x53 x62 x67 : Nat → Int32} {x32 : Int64} {x36 x38 x55 x57 : Nat → Int64} {Cl_count : Int32} {Cl_kinds : Nat → Int32} {Cl_events : Nat → Int32} {Cl_firsts : Nat → Int32} {Cl_lasts : Nat → Int32} {p1 : Int32} {p2 : Int32} {o : (Int32) ⊕ String} {Q : Rs → va_W → Prop} (h : f_Main_areContrary Cl_count Cl_kinds Cl_events Cl_firsts Cl_lasts p1 p2 = some o) (hq1 : ∀ q, o = .inl q → Q (.inl (some (.int q))) (wlX g ad x0 x1 x2 x3 x4 Cl_count x6 Cl_kinds Cl_events Cl_firsts Cl_lasts x11 x12 x13 x14 x15 x16 x17 x18 x19 x20 x21 x22 x23 x24 x25 x26 x27 x28 x29 x30 x31 x32 x33 x34 x35 x36 x37 x38 x39 x40 x41 x42 x43 x44 x45 x46 x47 x48 x49 x50 x51 x52 x53 x54 x55 x56 x57 x58 x59 x60 x61 x62 x63 x64 x65 x66 x67 ++ t)) (hq2 : ∀ E, o = .inr E → Q (.inr E) (wlX g ad x0 x1 x2 x3 x4 Cl_count x6 Cl_kinds Cl_events Cl_firsts Cl_lasts x11 x12 x13 x14 x15 x16 x17 x18 x19 x20 x21 x22 x23 x24 x25 x26 x27 x28 x29 x30 x31 x32 x33 x34 x35 x36 x37 x38 x39 x40 x41 x42 x43 x44 x45 x46 x47 x48 x49 x50 x51 x52 x53 x54 x55 x56 x57 x58 x59 x60 x61 x62 x63 x64 x65 x66 x67 ++ t)) : R g mX9_areContrary 7 2 12 0 [(0, .ref (ad 0)), (1, .int p1), (2, .int p2)] [] (wlX g ad x0 x1 x2 x3 x4 Cl_count x6 Cl_kinds Cl_events Cl_firsts Cl_lasts x11 x12 x13 x14 x15 x16 x17 x18 x19 x20 x21 x22 x23 x24 x25 x26 x27 x28 x29 x30 x31 x32 x33 x34 x35 x36 x37 x38 x39 x40 x41 x42 x43 x44 x45 x46 x47 x48 x49 x50 x51 x52 x53 x54 x55 x56 x57 x58 x59 x60 x61 x62 x63 x64 x65 x66 x67 ++ t) Q := by
  unfold f_Main_areContrary at h
  refine r_aload_n 0 dX9_areContrary_0 rfl ?_
  refine r_iload_n 1 dX9_areContrary_1 rfl ?_
  obtain ⟨r804, hc805, h⟩ := ob (fun z9 => z9) rfl h
  rcases r804 with q806 | E811
  · refine c_Xv (rest := []) 1 6 _ dX9_areContrary_2 kv_X9_119 (ct_Main_needClaim hc805) rfl rfl lX_0 rfl (Nat.le_of_ble_eq_true rfl) (by decide) (by decide) ?_
    try dsimp only [Sum.elim_inl, Sum.elim_inr] at h
    refine r_aload_n 0 dX9_areContrary_5 rfl ?_
    refine r_iload_n 2 dX9_areContrary_6 rfl ?_
    obtain ⟨r807, hc808, h⟩ := ob (fun z9 => z9) rfl h
    rcases r807 with q809 | E810
    · refine c_Xv (rest := []) 0 0 _ dX9_areContrary_7 kv_X9_119 (ct_Main_needClaim hc808) rfl rfl lX_0 rfl (Nat.le_of_ble_eq_true rfl) (by decide) (by decide) ?_
      try dsimp only [Sum.elim_inl, Sum.elim_inr] at h
      refine r_aload_n 0 dX9_areContrary_10 rfl ?_
      refine r_getf (v := .ref (ad 3)) _ dX9_areContrary_11 fl_X9_35 lX_0 rfl ?_
      refine r_getf (v := .ref (ad 4)) _ dX9_areContrary_14 fl_X9_104 lX_3 rfl ?_
      refine r_iload_n 1 dX9_areContrary_17 rfl ?_
      refine r_iload_n 2 dX9_areContrary_18 rfl ?_
      refine c_V (rest := []) 0 0 _ dX9_areContrary_19 kv_X9_145 (ct_Cl_contradict rfl) rfl rfl lX_4 rfl (Nat.le_of_ble_eq_true rfl) (by decide) (by decide) ?_
      refine r_zret dX9_areContrary_22 rfl (zO_n (zb_Cl_contradict _ _ _ _ _ _)) ?_
      have h := Option.some.inj (show some _ = some o from h)
      subst h
      exact hq1 _ rfl
    · refine c_Xt (rest := []) 0 0 _ dX9_areContrary_7 kv_X9_119 (ct_Main_needClaim hc808) rfl rfl lX_0 rfl (Nat.le_of_ble_eq_true rfl) (by decide) (by decide) ?_
      refine rx_out rfl ?_
      have h := Option.some.inj (show some _ = some o from h)
      subst h
      exact hq2 _ rfl
  · refine c_Xt (rest := []) 1 6 _ dX9_areContrary_2 kv_X9_119 (ct_Main_needClaim hc805) rfl rfl lX_0 rfl (Nat.le_of_ble_eq_true rfl) (by decide) (by decide) ?_
    refine rx_out rfl ?_
    have h := Option.some.inj (show some _ = some o from h)
    subst h
    exact hq2 _ rfl
theorem ct_Main_areContrary {g : GG} {ad : Nat → Nat} {t : va_W} {x0 x1 x3 x4 x11 x12 x18 x19 x20 x24 x25 x26 x27 x28 x29 x30 x31 x37 x39 x40 x41 x47 x48 x54 x56 x58 x59 x60 x61 x63 x64 x65 x66 : Int32} {x2 x6 x13 x14 x15 x16 x17 x21 x22 x23 x33 x34 x35 x42 x43 x44 x45 x46 x49 x50 x51 x52 x53 x62 x67 : Nat → Int32} {x32 : Int64} {x36 x38 x55 x57 : Nat → Int64} {Cl_count : Int32} {Cl_kinds : Nat → Int32} {Cl_events : Nat → Int32} {Cl_firsts : Nat → Int32} {Cl_lasts : Nat → Int32} {p1 : Int32} {p2 : Int32} {o : (Int32) ⊕ String} (h : f_Main_areContrary Cl_count Cl_kinds Cl_events Cl_firsts Cl_lasts p1 p2 = some o) : Ct g mX9_areContrary 7 2 12 [.ref (ad 0), .int p1, .int p2] (wlX g ad x0 x1 x2 x3 x4 Cl_count x6 Cl_kinds Cl_events Cl_firsts Cl_lasts x11 x12 x13 x14 x15 x16 x17 x18 x19 x20 x21 x22 x23 x24 x25 x26 x27 x28 x29 x30 x31 x32 x33 x34 x35 x36 x37 x38 x39 x40 x41 x42 x43 x44 x45 x46 x47 x48 x49 x50 x51 x52 x53 x54 x55 x56 x57 x58 x59 x60 x61 x62 x63 x64 x65 x66 x67 ++ t) (Dt o (fun q => some (.int q)) (fun q => (wlX g ad x0 x1 x2 x3 x4 Cl_count x6 Cl_kinds Cl_events Cl_firsts Cl_lasts x11 x12 x13 x14 x15 x16 x17 x18 x19 x20 x21 x22 x23 x24 x25 x26 x27 x28 x29 x30 x31 x32 x33 x34 x35 x36 x37 x38 x39 x40 x41 x42 x43 x44 x45 x46 x47 x48 x49 x50 x51 x52 x53 x54 x55 x56 x57 x58 x59 x60 x61 x62 x63 x64 x65 x66 x67 ++ t)) (wlX g ad x0 x1 x2 x3 x4 Cl_count x6 Cl_kinds Cl_events Cl_firsts Cl_lasts x11 x12 x13 x14 x15 x16 x17 x18 x19 x20 x21 x22 x23 x24 x25 x26 x27 x28 x29 x30 x31 x32 x33 x34 x35 x36 x37 x38 x39 x40 x41 x42 x43 x44 x45 x46 x47 x48 x49 x50 x51 x52 x53 x54 x55 x56 x57 x58 x59 x60 x61 x62 x63 x64 x65 x66 x67 ++ t)) := Ct.ofR (by decide +kernel) rfl (Nat.le_of_ble_eq_true rfl) (rt_Main_areContrary h (fun q e => by subst e; exact ⟨rfl, rfl⟩) (fun E e => by subst e; exact ⟨rfl, rfl⟩))
set_option maxRecDepth 20000 in
set_option maxHeartbeats 4000000 in
theorem rt_Main_needTeller {g : GG} {ad : Nat → Nat} {t : va_W} {x0 x1 x3 x5 x11 x12 x18 x19 x20 x24 x25 x26 x27 x28 x29 x30 x31 x37 x39 x40 x41 x47 x48 x54 x56 x58 x59 x60 x61 x63 x64 x65 x66 : Int32} {x2 x6 x7 x8 x9 x10 x13 x14 x15 x16 x17 x21 x22 x23 x33 x34 x35 x42 x43 x44 x45 x46 x49 x50 x51 x52 x53 x62 x67 : Nat → Int32} {x32 : Int64} {x36 x38 x55 x57 : Nat → Int64} {Tap_tellerCount : Int32} {p1 : Int32} {o : (Unit) ⊕ String} {Q : Rs → va_W → Prop} (h : f_Main_needTeller Tap_tellerCount p1 = some o) (hq1 : ∀ q, o = .inl q → Q (.inl (none)) (wlX g ad x0 x1 x2 x3 Tap_tellerCount x5 x6 x7 x8 x9 x10 x11 x12 x13 x14 x15 x16 x17 x18 x19 x20 x21 x22 x23 x24 x25 x26 x27 x28 x29 x30 x31 x32 x33 x34 x35 x36 x37 x38 x39 x40 x41 x42 x43 x44 x45 x46 x47 x48 x49 x50 x51 x52 x53 x54 x55 x56 x57 x58 x59 x60 x61 x62 x63 x64 x65 x66 x67 ++ t)) (hq2 : ∀ E, o = .inr E → Q (.inr E) (wlX g ad x0 x1 x2 x3 Tap_tellerCount x5 x6 x7 x8 x9 x10 x11 x12 x13 x14 x15 x16 x17 x18 x19 x20 x21 x22 x23 x24 x25 x26 x27 x28 x29 x30 x31 x32 x33 x34 x35 x36 x37 x38 x39 x40 x41 x42 x43 x44 x45 x46 x47 x48 x49 x50 x51 x52 x53 x54 x55 x56 x57 x58 x59 x60 x61 x62 x63 x64 x65 x66 x67 ++ t)) : R g mX9_needTeller 6 1 6 0 [(0, .ref (ad 0)), (1, .int p1)] [] (wlX g ad x0 x1 x2 x3 Tap_tellerCount x5 x6 x7 x8 x9 x10 x11 x12 x13 x14 x15 x16 x17 x18 x19 x20 x21 x22 x23 x24 x25 x26 x27 x28 x29 x30 x31 x32 x33 x34 x35 x36 x37 x38 x39 x40 x41 x42 x43 x44 x45 x46 x47 x48 x49 x50 x51 x52 x53 x54 x55 x56 x57 x58 x59 x60 x61 x62 x63 x64 x65 x66 x67 ++ t) Q := by
  unfold f_Main_needTeller at h
  refine r_iload_n 1 dX9_needTeller_0 rfl ?_
  refine r_if_lt (tgt := 15) dX9_needTeller_1 (by decide) (fun hc812 => ?_) (fun hc812 => ?_)
  · have h := ip (fun z9 => z9) hc812 h
    refine r_throw (x := 0) (y := 0) dX9_needTeller_15 dX9_needTeller_18 dX9_needTeller_19 dX9_needTeller_21 dX9_needTeller_24 kx_X9_149_190_153 rfl (Nat.le_of_ble_eq_true rfl) (by decide) ?_
    have h := Option.some.inj (show some _ = some o from h)
    subst h
    exact hq2 _ rfl
  · have h := iq (fun z9 => z9) hc812 h
    refine r_iload_n 1 dX9_needTeller_4 rfl ?_
    refine r_aload_n 0 dX9_needTeller_5 rfl ?_
    refine r_getf (v := .ref (ad 3)) _ dX9_needTeller_6 fl_X9_35 lX_0 rfl ?_
    refine r_getf (v := .int Tap_tellerCount) _ dX9_needTeller_9 fl_X9_101 lX_3 rfl ?_
    refine r_icmp_lt (tgt := 25) dX9_needTeller_12 (by decide) (fun hc813 => ?_) (fun hc813 => ?_)
    · have h := ip (fun z9 => z9) hc813 h
      refine r_vret dX9_needTeller_25 rfl ?_
      have h := Option.some.inj (show some _ = some o from h)
      subst h
      exact hq1 _ rfl
    · have h := iq (fun z9 => z9) hc813 h
      refine r_throw (x := 0) (y := 0) dX9_needTeller_15 dX9_needTeller_18 dX9_needTeller_19 dX9_needTeller_21 dX9_needTeller_24 kx_X9_149_190_153 rfl (Nat.le_of_ble_eq_true rfl) (by decide) ?_
      have h := Option.some.inj (show some _ = some o from h)
      subst h
      exact hq2 _ rfl
theorem ct_Main_needTeller {g : GG} {ad : Nat → Nat} {t : va_W} {x0 x1 x3 x5 x11 x12 x18 x19 x20 x24 x25 x26 x27 x28 x29 x30 x31 x37 x39 x40 x41 x47 x48 x54 x56 x58 x59 x60 x61 x63 x64 x65 x66 : Int32} {x2 x6 x7 x8 x9 x10 x13 x14 x15 x16 x17 x21 x22 x23 x33 x34 x35 x42 x43 x44 x45 x46 x49 x50 x51 x52 x53 x62 x67 : Nat → Int32} {x32 : Int64} {x36 x38 x55 x57 : Nat → Int64} {Tap_tellerCount : Int32} {p1 : Int32} {o : (Unit) ⊕ String} (h : f_Main_needTeller Tap_tellerCount p1 = some o) : Ct g mX9_needTeller 6 1 6 [.ref (ad 0), .int p1] (wlX g ad x0 x1 x2 x3 Tap_tellerCount x5 x6 x7 x8 x9 x10 x11 x12 x13 x14 x15 x16 x17 x18 x19 x20 x21 x22 x23 x24 x25 x26 x27 x28 x29 x30 x31 x32 x33 x34 x35 x36 x37 x38 x39 x40 x41 x42 x43 x44 x45 x46 x47 x48 x49 x50 x51 x52 x53 x54 x55 x56 x57 x58 x59 x60 x61 x62 x63 x64 x65 x66 x67 ++ t) (Dt o (fun q => none) (fun q => (wlX g ad x0 x1 x2 x3 Tap_tellerCount x5 x6 x7 x8 x9 x10 x11 x12 x13 x14 x15 x16 x17 x18 x19 x20 x21 x22 x23 x24 x25 x26 x27 x28 x29 x30 x31 x32 x33 x34 x35 x36 x37 x38 x39 x40 x41 x42 x43 x44 x45 x46 x47 x48 x49 x50 x51 x52 x53 x54 x55 x56 x57 x58 x59 x60 x61 x62 x63 x64 x65 x66 x67 ++ t)) (wlX g ad x0 x1 x2 x3 Tap_tellerCount x5 x6 x7 x8 x9 x10 x11 x12 x13 x14 x15 x16 x17 x18 x19 x20 x21 x22 x23 x24 x25 x26 x27 x28 x29 x30 x31 x32 x33 x34 x35 x36 x37 x38 x39 x40 x41 x42 x43 x44 x45 x46 x47 x48 x49 x50 x51 x52 x53 x54 x55 x56 x57 x58 x59 x60 x61 x62 x63 x64 x65 x66 x67 ++ t)) := Ct.ofR (by decide +kernel) rfl (Nat.le_of_ble_eq_true rfl) (rt_Main_needTeller h (fun q e => by subst e; exact ⟨rfl, rfl⟩) (fun E e => by subst e; exact ⟨rfl, rfl⟩))
set_option maxRecDepth 20000 in
set_option maxHeartbeats 4000000 in
theorem rt_Cl_countOf {g : GG} {ad : Nat → Nat} {t : va_W} {x0 x1 x3 x4 x11 x12 x18 x19 x20 x24 x25 x26 x27 x28 x29 x30 x31 x37 x39 x40 x41 x47 x48 x54 x56 x58 x59 x60 x61 x63 x64 x65 x66 : Int32} {x2 x7 x8 x9 x10 x13 x14 x15 x16 x17 x21 x22 x23 x33 x34 x35 x42 x43 x44 x45 x46 x49 x50 x51 x52 x53 x62 x67 : Nat → Int32} {x32 : Int64} {x36 x38 x55 x57 : Nat → Int64} {N : Nat} {Cl_count : Int32} {Cl_tellers : Nat → Int32} {p1 : Int32} {o : Int32} {Q : Rs → va_W → Prop} (h : f_Cl_countOf N Cl_count Cl_tellers p1 = some o) (hq : Q (.inl (some (.int o))) (wlX g ad x0 x1 x2 x3 x4 Cl_count Cl_tellers x7 x8 x9 x10 x11 x12 x13 x14 x15 x16 x17 x18 x19 x20 x21 x22 x23 x24 x25 x26 x27 x28 x29 x30 x31 x32 x33 x34 x35 x36 x37 x38 x39 x40 x41 x42 x43 x44 x45 x46 x47 x48 x49 x50 x51 x52 x53 x54 x55 x56 x57 x58 x59 x60 x61 x62 x63 x64 x65 x66 x67 ++ t)) : R g mX0_countOf 2 0 0 0 [(0, .ref (ad 4)), (1, .int p1)] [] (wlX g ad x0 x1 x2 x3 x4 Cl_count Cl_tellers x7 x8 x9 x10 x11 x12 x13 x14 x15 x16 x17 x18 x19 x20 x21 x22 x23 x24 x25 x26 x27 x28 x29 x30 x31 x32 x33 x34 x35 x36 x37 x38 x39 x40 x41 x42 x43 x44 x45 x46 x47 x48 x49 x50 x51 x52 x53 x54 x55 x56 x57 x58 x59 x60 x61 x62 x63 x64 x65 x66 x67 ++ t) Q := by
  unfold f_Cl_countOf at h
  refine r_iconst (v := (0 : Int32)) dX0_countOf_0 (by decide) ?_
  refine r_istore_n [(2, .int (0 : Int32)), (0, .ref (ad 4)), (1, .int p1)] dX0_countOf_1 (by decide) rfl ?_
  refine r_iconst (v := (0 : Int32)) dX0_countOf_2 (by decide) ?_
  refine r_istore_n [(3, .int (0 : Int32)), (2, .int (0 : Int32)), (0, .ref (ad 4)), (1, .int p1)] dX0_countOf_3 (by decide) rfl ?_
  refine r_ls [2, 3, 1, 0] (ls2 := [(0, .ref (ad 4)), (1, .int p1), (2, .int (0 : Int32)), (3, .int (0 : Int32))]) rfl ?_
  have L1 : ∀ (n1 : Nat) (l2_1 : Int32) (l3_1 : Int32), (fun z9 => z9) (lpS (f_Cl_countOf_L4 Cl_count Cl_tellers p1) none n1 (l2_1, l3_1)) = some o → R g mX0_countOf 2 0 0 4 [(0, .ref (ad 4)), (1, .int p1), (2, .int l2_1), (3, .int l3_1)] [] (wlX g ad x0 x1 x2 x3 x4 Cl_count Cl_tellers x7 x8 x9 x10 x11 x12 x13 x14 x15 x16 x17 x18 x19 x20 x21 x22 x23 x24 x25 x26 x27 x28 x29 x30 x31 x32 x33 x34 x35 x36 x37 x38 x39 x40 x41 x42 x43 x44 x45 x46 x47 x48 x49 x50 x51 x52 x53 x54 x55 x56 x57 x58 x59 x60 x61 x62 x63 x64 x65 x66 x67 ++ t) Q := by
    intro n1
    induction n1 with
    | zero => intro l2_1 l3_1 h; exact nomatch (show (none : Option _) = some _ from h)
    | succ n1 ih1 =>
      intro l2_1 l3_1 h
      have h : (fun z9 => (lC (f_Cl_countOf_L4 Cl_count Cl_tellers p1) none n1 z9)) (f_Cl_countOf_L4 Cl_count Cl_tellers p1 (l2_1, l3_1)) = some o := h
      unfold f_Cl_countOf_L4 at h
      try dsimp only at h
      refine r_iload_n 3 dX0_countOf_4 rfl ?_
      refine r_aload_n 0 dX0_countOf_5 rfl ?_
      refine r_getf (v := .int Cl_count) _ dX0_countOf_6 fl_X0_32 lX_4 rfl ?_
      refine r_icmp_ge (tgt := 33) dX0_countOf_9 (by decide) (fun hc814 => ?_) (fun hc814 => ?_)
      · have h := ip (fun z9 => (lC (f_Cl_countOf_L4 Cl_count Cl_tellers p1) none n1 z9)) hc814 h
        refine r_iload_n 2 dX0_countOf_33 rfl ?_
        refine r_iret dX0_countOf_34 rfl ?_
        have h := Option.some.inj (show some _ = some o from h)
        subst h
        exact hq
      · have h := iq (fun z9 => (lC (f_Cl_countOf_L4 Cl_count Cl_tellers p1) none n1 z9)) hc814 h
        refine r_aload_n 0 dX0_countOf_12 rfl ?_
        refine r_getf (v := .ref (ad 5)) _ dX0_countOf_13 fl_X0_14 lX_4 rfl ?_
        refine r_iload_n 3 dX0_countOf_16 rfl ?_
        refine c_V (rest := []) 0 0 _ dX0_countOf_17 kv_X0_48 (ct_Row_get lX_5 lX_6 (Nat.le_of_ble_eq_true rfl)) rfl rfl lX_5 rfl (Nat.le_of_ble_eq_true rfl) (by decide) (by decide) ?_
        refine r_iload_n 1 dX0_countOf_20 rfl ?_
        refine r_icmp_ne (tgt := 27) dX0_countOf_21 (by decide) (fun hc815 => ?_) (fun hc815 => ?_)
        · have h := iq (fun z9 => (lC (f_Cl_countOf_L4 Cl_count Cl_tellers p1) none n1 z9)) hc815 h
          refine r_iinc (v2 := (l3_1 + (1 : Int32))) 3 [(3, .int (l3_1 + (1 : Int32))), (0, .ref (ad 4)), (1, .int p1), (2, .int l2_1)] dX0_countOf_27 rfl rfl (by decide) rfl ?_
          refine r_goto (tgt := 4) dX0_countOf_30 (by decide) ?_
          refine r_ls [1, 2, 3, 0] (ls2 := [(0, .ref (ad 4)), (1, .int p1), (2, .int l2_1), (3, .int (l3_1 + (1 : Int32)))]) rfl ?_
          exact ih1 l2_1 (l3_1 + (1 : Int32)) h
        · have h := ip (fun z9 => (lC (f_Cl_countOf_L4 Cl_count Cl_tellers p1) none n1 z9)) hc815 h
          refine r_iinc (v2 := (l2_1 + (1 : Int32))) 2 [(2, .int (l2_1 + (1 : Int32))), (0, .ref (ad 4)), (1, .int p1), (3, .int l3_1)] dX0_countOf_24 rfl rfl (by decide) rfl ?_
          refine r_iinc (v2 := (l3_1 + (1 : Int32))) 3 [(3, .int (l3_1 + (1 : Int32))), (2, .int (l2_1 + (1 : Int32))), (0, .ref (ad 4)), (1, .int p1)] dX0_countOf_27 rfl rfl (by decide) rfl ?_
          refine r_goto (tgt := 4) dX0_countOf_30 (by decide) ?_
          refine r_ls [2, 3, 1, 0] (ls2 := [(0, .ref (ad 4)), (1, .int p1), (2, .int (l2_1 + (1 : Int32))), (3, .int (l3_1 + (1 : Int32)))]) rfl ?_
          exact ih1 (l2_1 + (1 : Int32)) (l3_1 + (1 : Int32)) h
  exact L1 _ (0 : Int32) (0 : Int32) h
theorem ct_Cl_countOf {g : GG} {ad : Nat → Nat} {t : va_W} {x0 x1 x3 x4 x11 x12 x18 x19 x20 x24 x25 x26 x27 x28 x29 x30 x31 x37 x39 x40 x41 x47 x48 x54 x56 x58 x59 x60 x61 x63 x64 x65 x66 : Int32} {x2 x7 x8 x9 x10 x13 x14 x15 x16 x17 x21 x22 x23 x33 x34 x35 x42 x43 x44 x45 x46 x49 x50 x51 x52 x53 x62 x67 : Nat → Int32} {x32 : Int64} {x36 x38 x55 x57 : Nat → Int64} {N : Nat} {Cl_count : Int32} {Cl_tellers : Nat → Int32} {p1 : Int32} {o : Int32} (h : f_Cl_countOf N Cl_count Cl_tellers p1 = some o) : Ct g mX0_countOf 2 0 0 [.ref (ad 4), .int p1] (wlX g ad x0 x1 x2 x3 x4 Cl_count Cl_tellers x7 x8 x9 x10 x11 x12 x13 x14 x15 x16 x17 x18 x19 x20 x21 x22 x23 x24 x25 x26 x27 x28 x29 x30 x31 x32 x33 x34 x35 x36 x37 x38 x39 x40 x41 x42 x43 x44 x45 x46 x47 x48 x49 x50 x51 x52 x53 x54 x55 x56 x57 x58 x59 x60 x61 x62 x63 x64 x65 x66 x67 ++ t) (Dv (some (.int o)) (wlX g ad x0 x1 x2 x3 x4 Cl_count Cl_tellers x7 x8 x9 x10 x11 x12 x13 x14 x15 x16 x17 x18 x19 x20 x21 x22 x23 x24 x25 x26 x27 x28 x29 x30 x31 x32 x33 x34 x35 x36 x37 x38 x39 x40 x41 x42 x43 x44 x45 x46 x47 x48 x49 x50 x51 x52 x53 x54 x55 x56 x57 x58 x59 x60 x61 x62 x63 x64 x65 x66 x67 ++ t)) := Ct.ofR (by decide +kernel) rfl (Nat.le_of_ble_eq_true rfl) (rt_Cl_countOf h ⟨rfl, rfl⟩)
set_option maxRecDepth 20000 in
set_option maxHeartbeats 4000000 in
theorem rt_Main_claimsOf {g : GG} {ad : Nat → Nat} {t : va_W} {x0 x1 x3 x11 x12 x18 x19 x20 x24 x25 x26 x27 x28 x29 x30 x31 x37 x39 x40 x41 x47 x48 x54 x56 x58 x59 x60 x61 x63 x64 x65 x66 : Int32} {x2 x7 x8 x9 x10 x13 x14 x15 x16 x17 x21 x22 x23 x33 x34 x35 x42 x43 x44 x45 x46 x49 x50 x51 x52 x53 x62 x67 : Nat → Int32} {x32 : Int64} {x36 x38 x55 x57 : Nat → Int64} {N : Nat} {Tap_tellerCount : Int32} {Cl_count : Int32} {Cl_tellers : Nat → Int32} {p1 : Int32} {o : (Int32) ⊕ String} {Q : Rs → va_W → Prop} (h : f_Main_claimsOf N Tap_tellerCount Cl_count Cl_tellers p1 = some o) (hq1 : ∀ q, o = .inl q → Q (.inl (some (.int q))) (wlX g ad x0 x1 x2 x3 Tap_tellerCount Cl_count Cl_tellers x7 x8 x9 x10 x11 x12 x13 x14 x15 x16 x17 x18 x19 x20 x21 x22 x23 x24 x25 x26 x27 x28 x29 x30 x31 x32 x33 x34 x35 x36 x37 x38 x39 x40 x41 x42 x43 x44 x45 x46 x47 x48 x49 x50 x51 x52 x53 x54 x55 x56 x57 x58 x59 x60 x61 x62 x63 x64 x65 x66 x67 ++ t)) (hq2 : ∀ E, o = .inr E → Q (.inr E) (wlX g ad x0 x1 x2 x3 Tap_tellerCount Cl_count Cl_tellers x7 x8 x9 x10 x11 x12 x13 x14 x15 x16 x17 x18 x19 x20 x21 x22 x23 x24 x25 x26 x27 x28 x29 x30 x31 x32 x33 x34 x35 x36 x37 x38 x39 x40 x41 x42 x43 x44 x45 x46 x47 x48 x49 x50 x51 x52 x53 x54 x55 x56 x57 x58 x59 x60 x61 x62 x63 x64 x65 x66 x67 ++ t)) : R g mX9_claimsOf 7 1 6 0 [(0, .ref (ad 0)), (1, .int p1)] [] (wlX g ad x0 x1 x2 x3 Tap_tellerCount Cl_count Cl_tellers x7 x8 x9 x10 x11 x12 x13 x14 x15 x16 x17 x18 x19 x20 x21 x22 x23 x24 x25 x26 x27 x28 x29 x30 x31 x32 x33 x34 x35 x36 x37 x38 x39 x40 x41 x42 x43 x44 x45 x46 x47 x48 x49 x50 x51 x52 x53 x54 x55 x56 x57 x58 x59 x60 x61 x62 x63 x64 x65 x66 x67 ++ t) Q := by
  unfold f_Main_claimsOf at h
  refine r_aload_n 0 dX9_claimsOf_0 rfl ?_
  refine r_iload_n 1 dX9_claimsOf_1 rfl ?_
  obtain ⟨r816, hc817, h⟩ := ob (fun z9 => z9) rfl h
  rcases r816 with q818 | E821
  · refine c_Xv (rest := []) 0 0 _ dX9_claimsOf_2 kv_X9_156 (ct_Main_needTeller hc817) rfl rfl lX_0 rfl (Nat.le_of_ble_eq_true rfl) (by decide) (by decide) ?_
    try dsimp only [Sum.elim_inl, Sum.elim_inr] at h
    refine r_aload_n 0 dX9_claimsOf_5 rfl ?_
    refine r_getf (v := .ref (ad 3)) _ dX9_claimsOf_6 fl_X9_35 lX_0 rfl ?_
    refine r_getf (v := .ref (ad 4)) _ dX9_claimsOf_9 fl_X9_104 lX_3 rfl ?_
    refine r_iload_n 1 dX9_claimsOf_12 rfl ?_
    obtain ⟨r819, hc820, h⟩ := ob (fun z9 => z9) rfl h
    refine c_V (rest := []) 0 0 _ dX9_claimsOf_13 kv_X9_159 (ct_Cl_countOf hc820) rfl rfl lX_4 rfl (Nat.le_of_ble_eq_true rfl) (by decide) (by decide) ?_
    refine r_iret dX9_claimsOf_16 rfl ?_
    have h := Option.some.inj (show some _ = some o from h)
    subst h
    exact hq1 _ rfl
  · refine c_Xt (rest := []) 0 0 _ dX9_claimsOf_2 kv_X9_156 (ct_Main_needTeller hc817) rfl rfl lX_0 rfl (Nat.le_of_ble_eq_true rfl) (by decide) (by decide) ?_
    refine rx_out rfl ?_
    have h := Option.some.inj (show some _ = some o from h)
    subst h
    exact hq2 _ rfl
theorem ct_Main_claimsOf {g : GG} {ad : Nat → Nat} {t : va_W} {x0 x1 x3 x11 x12 x18 x19 x20 x24 x25 x26 x27 x28 x29 x30 x31 x37 x39 x40 x41 x47 x48 x54 x56 x58 x59 x60 x61 x63 x64 x65 x66 : Int32} {x2 x7 x8 x9 x10 x13 x14 x15 x16 x17 x21 x22 x23 x33 x34 x35 x42 x43 x44 x45 x46 x49 x50 x51 x52 x53 x62 x67 : Nat → Int32} {x32 : Int64} {x36 x38 x55 x57 : Nat → Int64} {N : Nat} {Tap_tellerCount : Int32} {Cl_count : Int32} {Cl_tellers : Nat → Int32} {p1 : Int32} {o : (Int32) ⊕ String} (h : f_Main_claimsOf N Tap_tellerCount Cl_count Cl_tellers p1 = some o) : Ct g mX9_claimsOf 7 1 6 [.ref (ad 0), .int p1] (wlX g ad x0 x1 x2 x3 Tap_tellerCount Cl_count Cl_tellers x7 x8 x9 x10 x11 x12 x13 x14 x15 x16 x17 x18 x19 x20 x21 x22 x23 x24 x25 x26 x27 x28 x29 x30 x31 x32 x33 x34 x35 x36 x37 x38 x39 x40 x41 x42 x43 x44 x45 x46 x47 x48 x49 x50 x51 x52 x53 x54 x55 x56 x57 x58 x59 x60 x61 x62 x63 x64 x65 x66 x67 ++ t) (Dt o (fun q => some (.int q)) (fun q => (wlX g ad x0 x1 x2 x3 Tap_tellerCount Cl_count Cl_tellers x7 x8 x9 x10 x11 x12 x13 x14 x15 x16 x17 x18 x19 x20 x21 x22 x23 x24 x25 x26 x27 x28 x29 x30 x31 x32 x33 x34 x35 x36 x37 x38 x39 x40 x41 x42 x43 x44 x45 x46 x47 x48 x49 x50 x51 x52 x53 x54 x55 x56 x57 x58 x59 x60 x61 x62 x63 x64 x65 x66 x67 ++ t)) (wlX g ad x0 x1 x2 x3 Tap_tellerCount Cl_count Cl_tellers x7 x8 x9 x10 x11 x12 x13 x14 x15 x16 x17 x18 x19 x20 x21 x22 x23 x24 x25 x26 x27 x28 x29 x30 x31 x32 x33 x34 x35 x36 x37 x38 x39 x40 x41 x42 x43 x44 x45 x46 x47 x48 x49 x50 x51 x52 x53 x54 x55 x56 x57 x58 x59 x60 x61 x62 x63 x64 x65 x66 x67 ++ t)) := Ct.ofR (by decide +kernel) rfl (Nat.le_of_ble_eq_true rfl) (rt_Main_claimsOf h (fun q e => by subst e; exact ⟨rfl, rfl⟩) (fun E e => by subst e; exact ⟨rfl, rfl⟩))
set_option maxRecDepth 20000 in
set_option maxHeartbeats 4000000 in
theorem rt_Main_has {g : GG}  {t : va_W}  {p0 : Int32} {p1 : Int32} {o : Int32} {Q : Rs → va_W → Prop} (h : f_Main_has p0 p1 = o) (hq : Q (.inl (some (.int o))) t) : R g mX9_has 1 0 0 0 [(0, .int p0), (1, .int p1)] [] t Q := by
  unfold f_Main_has at h
  refine r_iload_n 0 dX9_has_0 rfl ?_
  refine r_iload_n 1 dX9_has_1 rfl ?_
  refine r_ishr dX9_has_2 ?_
  refine r_iconst (v := (1 : Int32)) dX9_has_3 (by decide) ?_
  refine r_iand dX9_has_4 ?_
  refine r_if_eq (tgt := 12) dX9_has_5 (by decide) (fun hc822 => ?_) (fun hc822 => ?_)
  · have h := ip (fun z9 => z9) hc822 h
    refine r_iconst (v := (0 : Int32)) dX9_has_12 (by decide) ?_
    refine r_zret dX9_has_13 rfl (by decide) ?_
    have h : _ = o := h
    subst h
    exact hq
  · have h := iq (fun z9 => z9) hc822 h
    refine r_iconst (v := (1 : Int32)) dX9_has_8 (by decide) ?_
    refine r_goto (tgt := 13) dX9_has_9 (by decide) ?_
    refine r_zret dX9_has_13 rfl (by decide) ?_
    have h : _ = o := h
    subst h
    exact hq
theorem ct_Main_has {g : GG}  {t : va_W}  {p0 : Int32} {p1 : Int32} {o : Int32} (h : f_Main_has p0 p1 = o) : Ct g mX9_has 1 0 0 [.int p0, .int p1] t (Dv (some (.int o)) t) := Ct.ofR (by decide +kernel) rfl (Nat.le_of_ble_eq_true rfl) (rt_Main_has h ⟨rfl, rfl⟩)
set_option maxRecDepth 20000 in
set_option maxHeartbeats 4000000 in
theorem rt_Main_isDoubted {g : GG} {ad : Nat → Nat} {t : va_W} {x0 x1 x3 x5 x11 x12 x18 x19 x20 x24 x25 x26 x27 x28 x29 x30 x31 x37 x39 x40 x41 x47 x48 x54 x56 x58 x60 x61 x63 x64 x65 x66 : Int32} {x2 x6 x7 x8 x9 x10 x13 x14 x15 x16 x17 x21 x22 x23 x33 x34 x35 x42 x43 x44 x45 x46 x49 x50 x51 x52 x53 x62 x67 : Nat → Int32} {x32 : Int64} {x36 x38 x55 x57 : Nat → Int64} {Tap_tellerCount : Int32} {Co_doubted : Int32} {p1 : Int32} {o : (Int32) ⊕ String} {Q : Rs → va_W → Prop} (h : f_Main_isDoubted Tap_tellerCount Co_doubted p1 = some o) (hq1 : ∀ q, o = .inl q → Q (.inl (some (.int q))) (wlX g ad x0 x1 x2 x3 Tap_tellerCount x5 x6 x7 x8 x9 x10 x11 x12 x13 x14 x15 x16 x17 x18 x19 x20 x21 x22 x23 x24 x25 x26 x27 x28 x29 x30 x31 x32 x33 x34 x35 x36 x37 x38 x39 x40 x41 x42 x43 x44 x45 x46 x47 x48 x49 x50 x51 x52 x53 x54 x55 x56 x57 x58 Co_doubted x60 x61 x62 x63 x64 x65 x66 x67 ++ t)) (hq2 : ∀ E, o = .inr E → Q (.inr E) (wlX g ad x0 x1 x2 x3 Tap_tellerCount x5 x6 x7 x8 x9 x10 x11 x12 x13 x14 x15 x16 x17 x18 x19 x20 x21 x22 x23 x24 x25 x26 x27 x28 x29 x30 x31 x32 x33 x34 x35 x36 x37 x38 x39 x40 x41 x42 x43 x44 x45 x46 x47 x48 x49 x50 x51 x52 x53 x54 x55 x56 x57 x58 Co_doubted x60 x61 x62 x63 x64 x65 x66 x67 ++ t)) : R g mX9_isDoubted 7 1 6 0 [(0, .ref (ad 0)), (1, .int p1)] [] (wlX g ad x0 x1 x2 x3 Tap_tellerCount x5 x6 x7 x8 x9 x10 x11 x12 x13 x14 x15 x16 x17 x18 x19 x20 x21 x22 x23 x24 x25 x26 x27 x28 x29 x30 x31 x32 x33 x34 x35 x36 x37 x38 x39 x40 x41 x42 x43 x44 x45 x46 x47 x48 x49 x50 x51 x52 x53 x54 x55 x56 x57 x58 Co_doubted x60 x61 x62 x63 x64 x65 x66 x67 ++ t) Q := by
  unfold f_Main_isDoubted at h
  refine r_aload_n 0 dX9_isDoubted_0 rfl ?_
  refine r_iload_n 1 dX9_isDoubted_1 rfl ?_
  obtain ⟨r823, hc824, h⟩ := ob (fun z9 => z9) rfl h
  rcases r823 with q825 | E826
  · refine c_Xv (rest := []) 0 0 _ dX9_isDoubted_2 kv_X9_156 (ct_Main_needTeller hc824) rfl rfl lX_0 rfl (Nat.le_of_ble_eq_true rfl) (by decide) (by decide) ?_
    try dsimp only [Sum.elim_inl, Sum.elim_inr] at h
    refine r_aload_n 0 dX9_isDoubted_5 rfl ?_
    refine r_getf (v := .ref (ad 71)) _ dX9_isDoubted_6 fl_X9_48 lX_0 rfl ?_
    refine r_getf (v := .int Co_doubted) _ dX9_isDoubted_9 fl_X9_162 lX_71 rfl ?_
    refine r_iload_n 1 dX9_isDoubted_12 rfl ?_
    refine c_S (rest := []) 0 0 dX9_isDoubted_13 ks_X9_165 (ct_Main_has rfl) rfl rfl (Nat.le_of_ble_eq_true rfl) (by decide) (by decide) ?_
    refine r_zret dX9_isDoubted_16 rfl (zO_n (zb_Main_has _ _)) ?_
    have h := Option.some.inj (show some _ = some o from h)
    subst h
    exact hq1 _ rfl
  · refine c_Xt (rest := []) 0 0 _ dX9_isDoubted_2 kv_X9_156 (ct_Main_needTeller hc824) rfl rfl lX_0 rfl (Nat.le_of_ble_eq_true rfl) (by decide) (by decide) ?_
    refine rx_out rfl ?_
    have h := Option.some.inj (show some _ = some o from h)
    subst h
    exact hq2 _ rfl
theorem ct_Main_isDoubted {g : GG} {ad : Nat → Nat} {t : va_W} {x0 x1 x3 x5 x11 x12 x18 x19 x20 x24 x25 x26 x27 x28 x29 x30 x31 x37 x39 x40 x41 x47 x48 x54 x56 x58 x60 x61 x63 x64 x65 x66 : Int32} {x2 x6 x7 x8 x9 x10 x13 x14 x15 x16 x17 x21 x22 x23 x33 x34 x35 x42 x43 x44 x45 x46 x49 x50 x51 x52 x53 x62 x67 : Nat → Int32} {x32 : Int64} {x36 x38 x55 x57 : Nat → Int64} {Tap_tellerCount : Int32} {Co_doubted : Int32} {p1 : Int32} {o : (Int32) ⊕ String} (h : f_Main_isDoubted Tap_tellerCount Co_doubted p1 = some o) : Ct g mX9_isDoubted 7 1 6 [.ref (ad 0), .int p1] (wlX g ad x0 x1 x2 x3 Tap_tellerCount x5 x6 x7 x8 x9 x10 x11 x12 x13 x14 x15 x16 x17 x18 x19 x20 x21 x22 x23 x24 x25 x26 x27 x28 x29 x30 x31 x32 x33 x34 x35 x36 x37 x38 x39 x40 x41 x42 x43 x44 x45 x46 x47 x48 x49 x50 x51 x52 x53 x54 x55 x56 x57 x58 Co_doubted x60 x61 x62 x63 x64 x65 x66 x67 ++ t) (Dt o (fun q => some (.int q)) (fun q => (wlX g ad x0 x1 x2 x3 Tap_tellerCount x5 x6 x7 x8 x9 x10 x11 x12 x13 x14 x15 x16 x17 x18 x19 x20 x21 x22 x23 x24 x25 x26 x27 x28 x29 x30 x31 x32 x33 x34 x35 x36 x37 x38 x39 x40 x41 x42 x43 x44 x45 x46 x47 x48 x49 x50 x51 x52 x53 x54 x55 x56 x57 x58 Co_doubted x60 x61 x62 x63 x64 x65 x66 x67 ++ t)) (wlX g ad x0 x1 x2 x3 Tap_tellerCount x5 x6 x7 x8 x9 x10 x11 x12 x13 x14 x15 x16 x17 x18 x19 x20 x21 x22 x23 x24 x25 x26 x27 x28 x29 x30 x31 x32 x33 x34 x35 x36 x37 x38 x39 x40 x41 x42 x43 x44 x45 x46 x47 x48 x49 x50 x51 x52 x53 x54 x55 x56 x57 x58 Co_doubted x60 x61 x62 x63 x64 x65 x66 x67 ++ t)) := Ct.ofR (by decide +kernel) rfl (Nat.le_of_ble_eq_true rfl) (rt_Main_isDoubted h (fun q e => by subst e; exact ⟨rfl, rfl⟩) (fun E e => by subst e; exact ⟨rfl, rfl⟩))
set_option maxRecDepth 20000 in
set_option maxHeartbeats 4000000 in
theorem rt_Ve_tellersContradict {g : GG} {ad : Nat → Nat} {t : va_W} {x0 x1 x3 x4 x5 x11 x12 x18 x19 x20 x24 x25 x26 x27 x28 x29 x30 x31 x37 x39 x40 x41 x47 x48 x54 x56 x58 x59 x60 x61 x63 x64 x65 x66 : Int32} {x2 x6 x7 x8 x9 x10 x13 x14 x15 x16 x17 x22 x23 x33 x34 x35 x42 x43 x44 x45 x46 x49 x50 x51 x52 x53 x62 x67 : Nat → Int32} {x32 : Int64} {x36 x38 x55 x57 : Nat → Int64} {Ve_against : Nat → Int32} {p1 : Int32} {p2 : Int32} {p3 : Int32} {o : Int32} {Q : Rs → va_W → Prop} (h : f_Ve_tellersContradict Ve_against p1 p2 p3 = o) (hq : Q (.inl (some (.int o))) (wlX g ad x0 x1 x2 x3 x4 x5 x6 x7 x8 x9 x10 x11 x12 x13 x14 x15 x16 x17 x18 x19 x20 Ve_against x22 x23 x24 x25 x26 x27 x28 x29 x30 x31 x32 x33 x34 x35 x36 x37 x38 x39 x40 x41 x42 x43 x44 x45 x46 x47 x48 x49 x50 x51 x52 x53 x54 x55 x56 x57 x58 x59 x60 x61 x62 x63 x64 x65 x66 x67 ++ t)) : R g mX8_tellersContradict 2 0 0 0 [(0, .ref (ad 26)), (1, .int p1), (2, .int p2), (3, .int p3)] [] (wlX g ad x0 x1 x2 x3 x4 x5 x6 x7 x8 x9 x10 x11 x12 x13 x14 x15 x16 x17 x18 x19 x20 Ve_against x22 x23 x24 x25 x26 x27 x28 x29 x30 x31 x32 x33 x34 x35 x36 x37 x38 x39 x40 x41 x42 x43 x44 x45 x46 x47 x48 x49 x50 x51 x52 x53 x54 x55 x56 x57 x58 x59 x60 x61 x62 x63 x64 x65 x66 x67 ++ t) Q := by
  unfold f_Ve_tellersContradict at h
  refine r_iload_n 3 dX8_tellersContradict_0 rfl ?_
  refine r_iload_n 1 dX8_tellersContradict_1 rfl ?_
  refine c_SN (rest := []) 0 0 dX8_tellersContradict_2 kq_X8_66 (ct_Main_has rfl) rfl rfl (Nat.le_of_ble_eq_true rfl) (by decide) (by decide) ?_
  refine r_if_ne (tgt := 35) dX8_tellersContradict_5 (by decide) (fun hc827 => ?_) (fun hc827 => ?_)
  · have h := iq (fun z9 => z9) hc827 h
    refine r_iconst (v := (0 : Int32)) dX8_tellersContradict_35 (by decide) ?_
    refine r_zret dX8_tellersContradict_36 rfl (by decide) ?_
    have h : _ = o := h
    subst h
    exact hq
  · have h := ip (fun z9 => z9) hc827 h
    refine r_iload_n 3 dX8_tellersContradict_8 rfl ?_
    refine r_iload_n 2 dX8_tellersContradict_9 rfl ?_
    refine c_SN (rest := []) 0 0 dX8_tellersContradict_10 kq_X8_66 (ct_Main_has rfl) rfl rfl (Nat.le_of_ble_eq_true rfl) (by decide) (by decide) ?_
    refine r_if_ne (tgt := 35) dX8_tellersContradict_13 (by decide) (fun hc828 => ?_) (fun hc828 => ?_)
    · have h := iq (fun z9 => z9) hc828 h
      refine r_iconst (v := (0 : Int32)) dX8_tellersContradict_35 (by decide) ?_
      refine r_zret dX8_tellersContradict_36 rfl (by decide) ?_
      have h : _ = o := h
      subst h
      exact hq
    · have h := ip (fun z9 => z9) hc828 h
      refine r_aload_n 0 dX8_tellersContradict_16 rfl ?_
      refine r_getf (v := .ref (ad 27)) _ dX8_tellersContradict_17 fl_X8_20 lX_26 rfl ?_
      refine r_iload_n 1 dX8_tellersContradict_20 rfl ?_
      refine c_V (rest := []) 0 0 _ dX8_tellersContradict_21 kv_X8_56 (ct_Row_get lX_27 lX_28 (Nat.le_of_ble_eq_true rfl)) rfl rfl lX_27 rfl (Nat.le_of_ble_eq_true rfl) (by decide) (by decide) ?_
      refine r_iload_n 2 dX8_tellersContradict_24 rfl ?_
      refine c_SN (rest := []) 0 0 dX8_tellersContradict_25 kq_X8_66 (ct_Main_has rfl) rfl rfl (Nat.le_of_ble_eq_true rfl) (by decide) (by decide) ?_
      refine r_if_eq (tgt := 35) dX8_tellersContradict_28 (by decide) (fun hc829 => ?_) (fun hc829 => ?_)
      · have h := ip (fun z9 => z9) hc829 h
        refine r_iconst (v := (0 : Int32)) dX8_tellersContradict_35 (by decide) ?_
        refine r_zret dX8_tellersContradict_36 rfl (by decide) ?_
        have h : _ = o := h
        subst h
        exact hq
      · have h := iq (fun z9 => z9) hc829 h
        refine r_iconst (v := (1 : Int32)) dX8_tellersContradict_31 (by decide) ?_
        refine r_goto (tgt := 36) dX8_tellersContradict_32 (by decide) ?_
        refine r_zret dX8_tellersContradict_36 rfl (by decide) ?_
        have h : _ = o := h
        subst h
        exact hq
theorem ct_Ve_tellersContradict {g : GG} {ad : Nat → Nat} {t : va_W} {x0 x1 x3 x4 x5 x11 x12 x18 x19 x20 x24 x25 x26 x27 x28 x29 x30 x31 x37 x39 x40 x41 x47 x48 x54 x56 x58 x59 x60 x61 x63 x64 x65 x66 : Int32} {x2 x6 x7 x8 x9 x10 x13 x14 x15 x16 x17 x22 x23 x33 x34 x35 x42 x43 x44 x45 x46 x49 x50 x51 x52 x53 x62 x67 : Nat → Int32} {x32 : Int64} {x36 x38 x55 x57 : Nat → Int64} {Ve_against : Nat → Int32} {p1 : Int32} {p2 : Int32} {p3 : Int32} {o : Int32} (h : f_Ve_tellersContradict Ve_against p1 p2 p3 = o) : Ct g mX8_tellersContradict 2 0 0 [.ref (ad 26), .int p1, .int p2, .int p3] (wlX g ad x0 x1 x2 x3 x4 x5 x6 x7 x8 x9 x10 x11 x12 x13 x14 x15 x16 x17 x18 x19 x20 Ve_against x22 x23 x24 x25 x26 x27 x28 x29 x30 x31 x32 x33 x34 x35 x36 x37 x38 x39 x40 x41 x42 x43 x44 x45 x46 x47 x48 x49 x50 x51 x52 x53 x54 x55 x56 x57 x58 x59 x60 x61 x62 x63 x64 x65 x66 x67 ++ t) (Dv (some (.int o)) (wlX g ad x0 x1 x2 x3 x4 x5 x6 x7 x8 x9 x10 x11 x12 x13 x14 x15 x16 x17 x18 x19 x20 Ve_against x22 x23 x24 x25 x26 x27 x28 x29 x30 x31 x32 x33 x34 x35 x36 x37 x38 x39 x40 x41 x42 x43 x44 x45 x46 x47 x48 x49 x50 x51 x52 x53 x54 x55 x56 x57 x58 x59 x60 x61 x62 x63 x64 x65 x66 x67 ++ t)) := Ct.ofR (by decide +kernel) rfl (Nat.le_of_ble_eq_true rfl) (rt_Ve_tellersContradict h ⟨rfl, rfl⟩)
set_option maxRecDepth 20000 in
set_option maxHeartbeats 4000000 in
theorem rt_Main_doContradict {g : GG} {ad : Nat → Nat} {t : va_W} {x0 x1 x3 x5 x11 x12 x18 x19 x20 x24 x25 x26 x27 x28 x29 x30 x31 x37 x39 x40 x41 x47 x48 x54 x56 x58 x60 x61 x63 x64 x65 x66 : Int32} {x2 x6 x7 x8 x9 x10 x13 x14 x15 x16 x17 x22 x23 x33 x34 x35 x42 x43 x44 x45 x46 x49 x50 x51 x52 x53 x62 x67 : Nat → Int32} {x32 : Int64} {x36 x38 x55 x57 : Nat → Int64} {Tap_tellerCount : Int32} {Ve_against : Nat → Int32} {Co_doubted : Int32} {p1 : Int32} {p2 : Int32} {o : (Int32) ⊕ String} {Q : Rs → va_W → Prop} (h : f_Main_doContradict Tap_tellerCount Ve_against Co_doubted p1 p2 = some o) (hq1 : ∀ q, o = .inl q → Q (.inl (some (.int q))) (wlX g ad x0 x1 x2 x3 Tap_tellerCount x5 x6 x7 x8 x9 x10 x11 x12 x13 x14 x15 x16 x17 x18 x19 x20 Ve_against x22 x23 x24 x25 x26 x27 x28 x29 x30 x31 x32 x33 x34 x35 x36 x37 x38 x39 x40 x41 x42 x43 x44 x45 x46 x47 x48 x49 x50 x51 x52 x53 x54 x55 x56 x57 x58 Co_doubted x60 x61 x62 x63 x64 x65 x66 x67 ++ t)) (hq2 : ∀ E, o = .inr E → Q (.inr E) (wlX g ad x0 x1 x2 x3 Tap_tellerCount x5 x6 x7 x8 x9 x10 x11 x12 x13 x14 x15 x16 x17 x18 x19 x20 Ve_against x22 x23 x24 x25 x26 x27 x28 x29 x30 x31 x32 x33 x34 x35 x36 x37 x38 x39 x40 x41 x42 x43 x44 x45 x46 x47 x48 x49 x50 x51 x52 x53 x54 x55 x56 x57 x58 Co_doubted x60 x61 x62 x63 x64 x65 x66 x67 ++ t)) : R g mX9_doContradict 7 2 12 0 [(0, .ref (ad 0)), (1, .int p1), (2, .int p2)] [] (wlX g ad x0 x1 x2 x3 Tap_tellerCount x5 x6 x7 x8 x9 x10 x11 x12 x13 x14 x15 x16 x17 x18 x19 x20 Ve_against x22 x23 x24 x25 x26 x27 x28 x29 x30 x31 x32 x33 x34 x35 x36 x37 x38 x39 x40 x41 x42 x43 x44 x45 x46 x47 x48 x49 x50 x51 x52 x53 x54 x55 x56 x57 x58 Co_doubted x60 x61 x62 x63 x64 x65 x66 x67 ++ t) Q := by
  unfold f_Main_doContradict at h
  refine r_aload_n 0 dX9_doContradict_0 rfl ?_
  refine r_iload_n 1 dX9_doContradict_1 rfl ?_
  obtain ⟨r830, hc831, h⟩ := ob (fun z9 => z9) rfl h
  rcases r830 with q832 | E837
  · refine c_Xv (rest := []) 1 6 _ dX9_doContradict_2 kv_X9_156 (ct_Main_needTeller hc831) rfl rfl lX_0 rfl (Nat.le_of_ble_eq_true rfl) (by decide) (by decide) ?_
    try dsimp only [Sum.elim_inl, Sum.elim_inr] at h
    refine r_aload_n 0 dX9_doContradict_5 rfl ?_
    refine r_iload_n 2 dX9_doContradict_6 rfl ?_
    obtain ⟨r833, hc834, h⟩ := ob (fun z9 => z9) rfl h
    rcases r833 with q835 | E836
    · refine c_Xv (rest := []) 0 0 _ dX9_doContradict_7 kv_X9_156 (ct_Main_needTeller hc834) rfl rfl lX_0 rfl (Nat.le_of_ble_eq_true rfl) (by decide) (by decide) ?_
      try dsimp only [Sum.elim_inl, Sum.elim_inr] at h
      refine r_aload_n 0 dX9_doContradict_10 rfl ?_
      refine r_getf (v := .ref (ad 26)) _ dX9_doContradict_11 fl_X9_39 lX_0 rfl ?_
      refine r_iload_n 1 dX9_doContradict_14 rfl ?_
      refine r_iload_n 2 dX9_doContradict_15 rfl ?_
      refine r_aload_n 0 dX9_doContradict_16 rfl ?_
      refine r_getf (v := .ref (ad 71)) _ dX9_doContradict_17 fl_X9_48 lX_0 rfl ?_
      refine r_getf (v := .int Co_doubted) _ dX9_doContradict_20 fl_X9_162 lX_71 rfl ?_
      refine c_V (rest := []) 0 0 _ dX9_doContradict_23 kv_X9_168 (ct_Ve_tellersContradict rfl) rfl rfl lX_26 rfl (Nat.le_of_ble_eq_true rfl) (by decide) (by decide) ?_
      refine r_zret dX9_doContradict_26 rfl (zO_n (zb_Ve_tellersContradict _ _ _ _)) ?_
      have h := Option.some.inj (show some _ = some o from h)
      subst h
      exact hq1 _ rfl
    · refine c_Xt (rest := []) 0 0 _ dX9_doContradict_7 kv_X9_156 (ct_Main_needTeller hc834) rfl rfl lX_0 rfl (Nat.le_of_ble_eq_true rfl) (by decide) (by decide) ?_
      refine rx_out rfl ?_
      have h := Option.some.inj (show some _ = some o from h)
      subst h
      exact hq2 _ rfl
  · refine c_Xt (rest := []) 1 6 _ dX9_doContradict_2 kv_X9_156 (ct_Main_needTeller hc831) rfl rfl lX_0 rfl (Nat.le_of_ble_eq_true rfl) (by decide) (by decide) ?_
    refine rx_out rfl ?_
    have h := Option.some.inj (show some _ = some o from h)
    subst h
    exact hq2 _ rfl
theorem ct_Main_doContradict {g : GG} {ad : Nat → Nat} {t : va_W} {x0 x1 x3 x5 x11 x12 x18 x19 x20 x24 x25 x26 x27 x28 x29 x30 x31 x37 x39 x40 x41 x47 x48 x54 x56 x58 x60 x61 x63 x64 x65 x66 : Int32} {x2 x6 x7 x8 x9 x10 x13 x14 x15 x16 x17 x22 x23 x33 x34 x35 x42 x43 x44 x45 x46 x49 x50 x51 x52 x53 x62 x67 : Nat → Int32} {x32 : Int64} {x36 x38 x55 x57 : Nat → Int64} {Tap_tellerCount : Int32} {Ve_against : Nat → Int32} {Co_doubted : Int32} {p1 : Int32} {p2 : Int32} {o : (Int32) ⊕ String} (h : f_Main_doContradict Tap_tellerCount Ve_against Co_doubted p1 p2 = some o) : Ct g mX9_doContradict 7 2 12 [.ref (ad 0), .int p1, .int p2] (wlX g ad x0 x1 x2 x3 Tap_tellerCount x5 x6 x7 x8 x9 x10 x11 x12 x13 x14 x15 x16 x17 x18 x19 x20 Ve_against x22 x23 x24 x25 x26 x27 x28 x29 x30 x31 x32 x33 x34 x35 x36 x37 x38 x39 x40 x41 x42 x43 x44 x45 x46 x47 x48 x49 x50 x51 x52 x53 x54 x55 x56 x57 x58 Co_doubted x60 x61 x62 x63 x64 x65 x66 x67 ++ t) (Dt o (fun q => some (.int q)) (fun q => (wlX g ad x0 x1 x2 x3 Tap_tellerCount x5 x6 x7 x8 x9 x10 x11 x12 x13 x14 x15 x16 x17 x18 x19 x20 Ve_against x22 x23 x24 x25 x26 x27 x28 x29 x30 x31 x32 x33 x34 x35 x36 x37 x38 x39 x40 x41 x42 x43 x44 x45 x46 x47 x48 x49 x50 x51 x52 x53 x54 x55 x56 x57 x58 Co_doubted x60 x61 x62 x63 x64 x65 x66 x67 ++ t)) (wlX g ad x0 x1 x2 x3 Tap_tellerCount x5 x6 x7 x8 x9 x10 x11 x12 x13 x14 x15 x16 x17 x18 x19 x20 Ve_against x22 x23 x24 x25 x26 x27 x28 x29 x30 x31 x32 x33 x34 x35 x36 x37 x38 x39 x40 x41 x42 x43 x44 x45 x46 x47 x48 x49 x50 x51 x52 x53 x54 x55 x56 x57 x58 Co_doubted x60 x61 x62 x63 x64 x65 x66 x67 ++ t)) := Ct.ofR (by decide +kernel) rfl (Nat.le_of_ble_eq_true rfl) (rt_Main_doContradict h (fun q e => by subst e; exact ⟨rfl, rfl⟩) (fun E e => by subst e; exact ⟨rfl, rfl⟩))
set_option maxRecDepth 20000 in
set_option maxHeartbeats 4000000 in
theorem rt_Cl_isPairOf {g : GG}  {t : va_W}  {p0 : Int32} {p1 : Int32} {p2 : Int32} {p3 : Int32} {o : Int32} {Q : Rs → va_W → Prop} (h : f_Cl_isPairOf p0 p1 p2 p3 = o) (hq : Q (.inl (some (.int o))) t) : R g mX0_isPairOf 1 0 0 0 [(0, .int p0), (1, .int p1), (2, .int p2), (3, .int p3)] [] t Q := by
  unfold f_Cl_isPairOf at h
  refine r_iload_n 0 dX0_isPairOf_0 rfl ?_
  refine r_iload_n 2 dX0_isPairOf_1 rfl ?_
  refine r_icmp_ne (tgt := 10) dX0_isPairOf_2 (by decide) (fun hc838 => ?_) (fun hc838 => ?_)
  · have h := iq (fun z9 => z9) hc838 h
    refine r_iload_n 0 dX0_isPairOf_10 rfl ?_
    refine r_iload_n 3 dX0_isPairOf_11 rfl ?_
    refine r_icmp_ne (tgt := 24) dX0_isPairOf_12 (by decide) (fun hc839 => ?_) (fun hc839 => ?_)
    · have h := iq (fun z9 => z9) hc839 h
      refine r_iconst (v := (0 : Int32)) dX0_isPairOf_24 (by decide) ?_
      refine r_zret dX0_isPairOf_25 rfl (by decide) ?_
      have h : _ = o := h
      subst h
      exact hq
    · have h := ip (fun z9 => z9) hc839 h
      refine r_iload_n 1 dX0_isPairOf_15 rfl ?_
      refine r_iload_n 2 dX0_isPairOf_16 rfl ?_
      refine r_icmp_ne (tgt := 24) dX0_isPairOf_17 (by decide) (fun hc840 => ?_) (fun hc840 => ?_)
      · have h := iq (fun z9 => z9) hc840 h
        refine r_iconst (v := (0 : Int32)) dX0_isPairOf_24 (by decide) ?_
        refine r_zret dX0_isPairOf_25 rfl (by decide) ?_
        have h : _ = o := h
        subst h
        exact hq
      · have h := ip (fun z9 => z9) hc840 h
        refine r_iconst (v := (1 : Int32)) dX0_isPairOf_20 (by decide) ?_
        refine r_goto (tgt := 25) dX0_isPairOf_21 (by decide) ?_
        refine r_zret dX0_isPairOf_25 rfl (by decide) ?_
        have h : _ = o := h
        subst h
        exact hq
  · have h := ip (fun z9 => z9) hc838 h
    refine r_iload_n 1 dX0_isPairOf_5 rfl ?_
    refine r_iload_n 3 dX0_isPairOf_6 rfl ?_
    refine r_icmp_eq (tgt := 20) dX0_isPairOf_7 (by decide) (fun hc841 => ?_) (fun hc841 => ?_)
    · have h := ip (fun z9 => z9) hc841 h
      refine r_iconst (v := (1 : Int32)) dX0_isPairOf_20 (by decide) ?_
      refine r_goto (tgt := 25) dX0_isPairOf_21 (by decide) ?_
      refine r_zret dX0_isPairOf_25 rfl (by decide) ?_
      have h : _ = o := h
      subst h
      exact hq
    · have h := iq (fun z9 => z9) hc841 h
      refine r_iload_n 0 dX0_isPairOf_10 rfl ?_
      refine r_iload_n 3 dX0_isPairOf_11 rfl ?_
      refine r_icmp_ne (tgt := 24) dX0_isPairOf_12 (by decide) (fun hc842 => ?_) (fun hc842 => ?_)
      · have h := iq (fun z9 => z9) hc842 h
        refine r_iconst (v := (0 : Int32)) dX0_isPairOf_24 (by decide) ?_
        refine r_zret dX0_isPairOf_25 rfl (by decide) ?_
        have h : _ = o := h
        subst h
        exact hq
      · have h := ip (fun z9 => z9) hc842 h
        refine r_iload_n 1 dX0_isPairOf_15 rfl ?_
        refine r_iload_n 2 dX0_isPairOf_16 rfl ?_
        refine r_icmp_ne (tgt := 24) dX0_isPairOf_17 (by decide) (fun hc843 => ?_) (fun hc843 => ?_)
        · have h := iq (fun z9 => z9) hc843 h
          refine r_iconst (v := (0 : Int32)) dX0_isPairOf_24 (by decide) ?_
          refine r_zret dX0_isPairOf_25 rfl (by decide) ?_
          have h : _ = o := h
          subst h
          exact hq
        · have h := ip (fun z9 => z9) hc843 h
          refine r_iconst (v := (1 : Int32)) dX0_isPairOf_20 (by decide) ?_
          refine r_goto (tgt := 25) dX0_isPairOf_21 (by decide) ?_
          refine r_zret dX0_isPairOf_25 rfl (by decide) ?_
          have h : _ = o := h
          subst h
          exact hq
theorem ct_Cl_isPairOf {g : GG}  {t : va_W}  {p0 : Int32} {p1 : Int32} {p2 : Int32} {p3 : Int32} {o : Int32} (h : f_Cl_isPairOf p0 p1 p2 p3 = o) : Ct g mX0_isPairOf 1 0 0 [.int p0, .int p1, .int p2, .int p3] t (Dv (some (.int o)) t) := Ct.ofR (by decide +kernel) rfl (Nat.le_of_ble_eq_true rfl) (rt_Cl_isPairOf h ⟨rfl, rfl⟩)
set_option maxRecDepth 20000 in
set_option maxHeartbeats 4000000 in
theorem rt_Cl_pairsOf {g : GG} {ad : Nat → Nat} {t : va_W} {x0 x1 x3 x4 x11 x12 x18 x19 x20 x24 x25 x26 x27 x28 x29 x30 x31 x37 x39 x40 x41 x47 x48 x54 x56 x58 x59 x60 x61 x63 x64 x65 x66 : Int32} {x2 x13 x14 x15 x16 x17 x21 x22 x23 x33 x34 x35 x42 x43 x44 x45 x46 x49 x50 x51 x52 x53 x62 x67 : Nat → Int32} {x32 : Int64} {x36 x38 x55 x57 : Nat → Int64} {N : Nat} {Cl_count : Int32} {Cl_tellers : Nat → Int32} {Cl_kinds : Nat → Int32} {Cl_events : Nat → Int32} {Cl_firsts : Nat → Int32} {Cl_lasts : Nat → Int32} {p1 : Int32} {p2 : Int32} {o : Int32} {Q : Rs → va_W → Prop} (h : f_Cl_pairsOf N Cl_count Cl_tellers Cl_kinds Cl_events Cl_firsts Cl_lasts p1 p2 = some o) (hq : Q (.inl (some (.int o))) (wlX g ad x0 x1 x2 x3 x4 Cl_count Cl_tellers Cl_kinds Cl_events Cl_firsts Cl_lasts x11 x12 x13 x14 x15 x16 x17 x18 x19 x20 x21 x22 x23 x24 x25 x26 x27 x28 x29 x30 x31 x32 x33 x34 x35 x36 x37 x38 x39 x40 x41 x42 x43 x44 x45 x46 x47 x48 x49 x50 x51 x52 x53 x54 x55 x56 x57 x58 x59 x60 x61 x62 x63 x64 x65 x66 x67 ++ t)) : R g mX0_pairsOf 3 0 0 0 [(0, .ref (ad 4)), (1, .int p1), (2, .int p2)] [] (wlX g ad x0 x1 x2 x3 x4 Cl_count Cl_tellers Cl_kinds Cl_events Cl_firsts Cl_lasts x11 x12 x13 x14 x15 x16 x17 x18 x19 x20 x21 x22 x23 x24 x25 x26 x27 x28 x29 x30 x31 x32 x33 x34 x35 x36 x37 x38 x39 x40 x41 x42 x43 x44 x45 x46 x47 x48 x49 x50 x51 x52 x53 x54 x55 x56 x57 x58 x59 x60 x61 x62 x63 x64 x65 x66 x67 ++ t) Q := by
  unfold f_Cl_pairsOf at h
  refine r_iconst (v := (0 : Int32)) dX0_pairsOf_0 (by decide) ?_
  refine r_istore_n [(3, .int (0 : Int32)), (0, .ref (ad 4)), (1, .int p1), (2, .int p2)] dX0_pairsOf_1 (by decide) rfl ?_
  refine r_iconst (v := (0 : Int32)) dX0_pairsOf_2 (by decide) ?_
  refine r_istore [(4, .int (0 : Int32)), (3, .int (0 : Int32)), (0, .ref (ad 4)), (1, .int p1), (2, .int p2)] dX0_pairsOf_3 (by decide) rfl ?_
  refine r_ls [2, 3, 4, 1, 0] (ls2 := [(0, .ref (ad 4)), (1, .int p1), (2, .int p2), (3, .int (0 : Int32)), (4, .int (0 : Int32))]) rfl ?_
  have L1 : ∀ (n1 : Nat) (l3_1 : Int32) (l4_1 : Int32), (fun z9 => z9) (lpS (f_Cl_pairsOf_L5 N Cl_count Cl_tellers Cl_kinds Cl_events Cl_firsts Cl_lasts p1 p2) none n1 (l3_1, l4_1)) = some o → R g mX0_pairsOf 3 0 0 5 [(0, .ref (ad 4)), (1, .int p1), (2, .int p2), (3, .int l3_1), (4, .int l4_1)] [] (wlX g ad x0 x1 x2 x3 x4 Cl_count Cl_tellers Cl_kinds Cl_events Cl_firsts Cl_lasts x11 x12 x13 x14 x15 x16 x17 x18 x19 x20 x21 x22 x23 x24 x25 x26 x27 x28 x29 x30 x31 x32 x33 x34 x35 x36 x37 x38 x39 x40 x41 x42 x43 x44 x45 x46 x47 x48 x49 x50 x51 x52 x53 x54 x55 x56 x57 x58 x59 x60 x61 x62 x63 x64 x65 x66 x67 ++ t) Q := by
    intro n1
    induction n1 with
    | zero => intro l3_1 l4_1 h; exact nomatch (show (none : Option _) = some _ from h)
    | succ n1 ih1 =>
      intro l3_1 l4_1 h
      have h : (fun z9 => (lC (f_Cl_pairsOf_L5 N Cl_count Cl_tellers Cl_kinds Cl_events Cl_firsts Cl_lasts p1 p2) none n1 z9)) (f_Cl_pairsOf_L5 N Cl_count Cl_tellers Cl_kinds Cl_events Cl_firsts Cl_lasts p1 p2 (l3_1, l4_1)) = some o := h
      unfold f_Cl_pairsOf_L5 at h
      try dsimp only at h
      refine r_iload 4 dX0_pairsOf_5 rfl ?_
      refine r_aload_n 0 dX0_pairsOf_7 rfl ?_
      refine r_getf (v := .int Cl_count) _ dX0_pairsOf_8 fl_X0_32 lX_4 rfl ?_
      refine r_icmp_ge (tgt := 81) dX0_pairsOf_11 (by decide) (fun hc844 => ?_) (fun hc844 => ?_)
      · have h := ip (fun z9 => (lC (f_Cl_pairsOf_L5 N Cl_count Cl_tellers Cl_kinds Cl_events Cl_firsts Cl_lasts p1 p2) none n1 z9)) hc844 h
        refine r_iload_n 3 dX0_pairsOf_81 rfl ?_
        refine r_iret dX0_pairsOf_82 rfl ?_
        have h := Option.some.inj (show some _ = some o from h)
        subst h
        exact hq
      · have h := iq (fun z9 => (lC (f_Cl_pairsOf_L5 N Cl_count Cl_tellers Cl_kinds Cl_events Cl_firsts Cl_lasts p1 p2) none n1 z9)) hc844 h
        refine r_iload 4 dX0_pairsOf_14 rfl ?_
        refine r_iconst (v := (1 : Int32)) dX0_pairsOf_16 (by decide) ?_
        refine r_iadd dX0_pairsOf_17 ?_
        refine r_istore [(5, .int (l4_1 + (1 : Int32))), (0, .ref (ad 4)), (1, .int p1), (2, .int p2), (3, .int l3_1), (4, .int l4_1)] dX0_pairsOf_18 (by decide) rfl ?_
        refine r_ls [1, 2, 3, 4, 5, 0] (ls2 := [(0, .ref (ad 4)), (1, .int p1), (2, .int p2), (3, .int l3_1), (4, .int l4_1), (5, .int (l4_1 + (1 : Int32)))]) rfl ?_
        have L2 : ∀ (n2 : Nat) (l3_2 : Int32) (l5_2 : Int32), (fun z9 => (lC (f_Cl_pairsOf_L5 N Cl_count Cl_tellers Cl_kinds Cl_events Cl_firsts Cl_lasts p1 p2) none n1 z9)) (lpS (f_Cl_pairsOf_L20 Cl_count Cl_tellers Cl_kinds Cl_events Cl_firsts Cl_lasts p1 p2 l4_1) (.inr none) n2 (l3_2, l5_2)) = some o → R g mX0_pairsOf 3 0 0 20 [(0, .ref (ad 4)), (1, .int p1), (2, .int p2), (3, .int l3_2), (4, .int l4_1), (5, .int l5_2)] [] (wlX g ad x0 x1 x2 x3 x4 Cl_count Cl_tellers Cl_kinds Cl_events Cl_firsts Cl_lasts x11 x12 x13 x14 x15 x16 x17 x18 x19 x20 x21 x22 x23 x24 x25 x26 x27 x28 x29 x30 x31 x32 x33 x34 x35 x36 x37 x38 x39 x40 x41 x42 x43 x44 x45 x46 x47 x48 x49 x50 x51 x52 x53 x54 x55 x56 x57 x58 x59 x60 x61 x62 x63 x64 x65 x66 x67 ++ t) Q := by
          intro n2
          induction n2 with
          | zero => intro l3_2 l5_2 h; exact nomatch (show (none : Option _) = some _ from h)
          | succ n2 ih2 =>
            intro l3_2 l5_2 h
            have h : (fun z9 => (lC (f_Cl_pairsOf_L5 N Cl_count Cl_tellers Cl_kinds Cl_events Cl_firsts Cl_lasts p1 p2) none n1 (lC (f_Cl_pairsOf_L20 Cl_count Cl_tellers Cl_kinds Cl_events Cl_firsts Cl_lasts p1 p2 l4_1) (.inr none) n2 z9))) (f_Cl_pairsOf_L20 Cl_count Cl_tellers Cl_kinds Cl_events Cl_firsts Cl_lasts p1 p2 l4_1 (l3_2, l5_2)) = some o := h
            unfold f_Cl_pairsOf_L20 at h
            try dsimp only at h
            refine r_iload 5 dX0_pairsOf_20 rfl ?_
            refine r_aload_n 0 dX0_pairsOf_22 rfl ?_
            refine r_getf (v := .int Cl_count) _ dX0_pairsOf_23 fl_X0_32 lX_4 rfl ?_
            refine r_icmp_ge (tgt := 75) dX0_pairsOf_26 (by decide) (fun hc845 => ?_) (fun hc845 => ?_)
            · have h := ip (fun z9 => (lC (f_Cl_pairsOf_L5 N Cl_count Cl_tellers Cl_kinds Cl_events Cl_firsts Cl_lasts p1 p2) none n1 (lC (f_Cl_pairsOf_L20 Cl_count Cl_tellers Cl_kinds Cl_events Cl_firsts Cl_lasts p1 p2 l4_1) (.inr none) n2 z9))) hc845 h
              refine r_iinc (v2 := (l4_1 + (1 : Int32))) 4 [(4, .int (l4_1 + (1 : Int32))), (0, .ref (ad 4)), (1, .int p1), (2, .int p2), (3, .int l3_2), (5, .int l5_2)] dX0_pairsOf_75 rfl rfl (by decide) rfl ?_
              refine r_goto (tgt := 5) dX0_pairsOf_78 (by decide) ?_
              refine r_ls [1, 2, 3, 4, 0] (ls2 := [(0, .ref (ad 4)), (1, .int p1), (2, .int p2), (3, .int l3_2), (4, .int (l4_1 + (1 : Int32)))]) rfl ?_
              exact ih1 l3_2 (l4_1 + (1 : Int32)) h
            · have h := iq (fun z9 => (lC (f_Cl_pairsOf_L5 N Cl_count Cl_tellers Cl_kinds Cl_events Cl_firsts Cl_lasts p1 p2) none n1 (lC (f_Cl_pairsOf_L20 Cl_count Cl_tellers Cl_kinds Cl_events Cl_firsts Cl_lasts p1 p2 l4_1) (.inr none) n2 z9))) hc845 h
              refine r_aload_n 0 dX0_pairsOf_29 rfl ?_
              refine r_getf (v := .ref (ad 5)) _ dX0_pairsOf_30 fl_X0_14 lX_4 rfl ?_
              refine r_iload 4 dX0_pairsOf_33 rfl ?_
              refine c_V (rest := []) 0 0 _ dX0_pairsOf_35 kv_X0_48 (ct_Row_get lX_5 lX_6 (Nat.le_of_ble_eq_true rfl)) rfl rfl lX_5 rfl (Nat.le_of_ble_eq_true rfl) (by decide) (by decide) ?_
              refine r_aload_n 0 dX0_pairsOf_38 rfl ?_
              refine r_getf (v := .ref (ad 5)) _ dX0_pairsOf_39 fl_X0_14 lX_4 rfl ?_
              refine r_iload 5 dX0_pairsOf_42 rfl ?_
              refine c_V (rest := [.int (rget 40 Cl_tellers l4_1)]) 0 0 _ dX0_pairsOf_44 kv_X0_48 (ct_Row_get lX_5 lX_6 (Nat.le_of_ble_eq_true rfl)) rfl rfl lX_5 rfl (Nat.le_of_ble_eq_true rfl) (by decide) (by decide) ?_
              refine r_iload_n 1 dX0_pairsOf_47 rfl ?_
              refine r_iload_n 2 dX0_pairsOf_48 rfl ?_
              refine c_S (rest := []) 0 0 dX0_pairsOf_49 ks_X0_52 (ct_Cl_isPairOf rfl) rfl rfl (Nat.le_of_ble_eq_true rfl) (by decide) (by decide) ?_
              refine r_if_eq (tgt := 69) dX0_pairsOf_52 (by decide) (fun hc846 => ?_) (fun hc846 => ?_)
              · have h := ip (fun z9 => (lC (f_Cl_pairsOf_L5 N Cl_count Cl_tellers Cl_kinds Cl_events Cl_firsts Cl_lasts p1 p2) none n1 (lC (f_Cl_pairsOf_L20 Cl_count Cl_tellers Cl_kinds Cl_events Cl_firsts Cl_lasts p1 p2 l4_1) (.inr none) n2 z9))) hc846 h
                refine r_iinc (v2 := (l5_2 + (1 : Int32))) 5 [(5, .int (l5_2 + (1 : Int32))), (0, .ref (ad 4)), (1, .int p1), (2, .int p2), (3, .int l3_2), (4, .int l4_1)] dX0_pairsOf_69 rfl rfl (by decide) rfl ?_
                refine r_goto (tgt := 20) dX0_pairsOf_72 (by decide) ?_
                refine r_ls [1, 2, 3, 4, 5, 0] (ls2 := [(0, .ref (ad 4)), (1, .int p1), (2, .int p2), (3, .int l3_2), (4, .int l4_1), (5, .int (l5_2 + (1 : Int32)))]) rfl ?_
                exact ih2 l3_2 (l5_2 + (1 : Int32)) h
              · have h := iq (fun z9 => (lC (f_Cl_pairsOf_L5 N Cl_count Cl_tellers Cl_kinds Cl_events Cl_firsts Cl_lasts p1 p2) none n1 (lC (f_Cl_pairsOf_L20 Cl_count Cl_tellers Cl_kinds Cl_events Cl_firsts Cl_lasts p1 p2 l4_1) (.inr none) n2 z9))) hc846 h
                refine r_aload_n 0 dX0_pairsOf_55 rfl ?_
                refine r_iload 4 dX0_pairsOf_56 rfl ?_
                refine r_iload 5 dX0_pairsOf_58 rfl ?_
                refine c_V (rest := []) 0 0 _ dX0_pairsOf_60 kv_X0_56 (ct_Cl_contradict rfl) rfl rfl lX_4 rfl (Nat.le_of_ble_eq_true rfl) (by decide) (by decide) ?_
                refine r_if_eq (tgt := 69) dX0_pairsOf_63 (by decide) (fun hc847 => ?_) (fun hc847 => ?_)
                · have h := ip (fun z9 => (lC (f_Cl_pairsOf_L5 N Cl_count Cl_tellers Cl_kinds Cl_events Cl_firsts Cl_lasts p1 p2) none n1 (lC (f_Cl_pairsOf_L20 Cl_count Cl_tellers Cl_kinds Cl_events Cl_firsts Cl_lasts p1 p2 l4_1) (.inr none) n2 z9))) hc847 h
                  refine r_iinc (v2 := (l5_2 + (1 : Int32))) 5 [(5, .int (l5_2 + (1 : Int32))), (0, .ref (ad 4)), (1, .int p1), (2, .int p2), (3, .int l3_2), (4, .int l4_1)] dX0_pairsOf_69 rfl rfl (by decide) rfl ?_
                  refine r_goto (tgt := 20) dX0_pairsOf_72 (by decide) ?_
                  refine r_ls [1, 2, 3, 4, 5, 0] (ls2 := [(0, .ref (ad 4)), (1, .int p1), (2, .int p2), (3, .int l3_2), (4, .int l4_1), (5, .int (l5_2 + (1 : Int32)))]) rfl ?_
                  exact ih2 l3_2 (l5_2 + (1 : Int32)) h
                · have h := iq (fun z9 => (lC (f_Cl_pairsOf_L5 N Cl_count Cl_tellers Cl_kinds Cl_events Cl_firsts Cl_lasts p1 p2) none n1 (lC (f_Cl_pairsOf_L20 Cl_count Cl_tellers Cl_kinds Cl_events Cl_firsts Cl_lasts p1 p2 l4_1) (.inr none) n2 z9))) hc847 h
                  refine r_iinc (v2 := (l3_2 + (1 : Int32))) 3 [(3, .int (l3_2 + (1 : Int32))), (0, .ref (ad 4)), (1, .int p1), (2, .int p2), (4, .int l4_1), (5, .int l5_2)] dX0_pairsOf_66 rfl rfl (by decide) rfl ?_
                  refine r_iinc (v2 := (l5_2 + (1 : Int32))) 5 [(5, .int (l5_2 + (1 : Int32))), (3, .int (l3_2 + (1 : Int32))), (0, .ref (ad 4)), (1, .int p1), (2, .int p2), (4, .int l4_1)] dX0_pairsOf_69 rfl rfl (by decide) rfl ?_
                  refine r_goto (tgt := 20) dX0_pairsOf_72 (by decide) ?_
                  refine r_ls [2, 3, 4, 1, 5, 0] (ls2 := [(0, .ref (ad 4)), (1, .int p1), (2, .int p2), (3, .int (l3_2 + (1 : Int32))), (4, .int l4_1), (5, .int (l5_2 + (1 : Int32)))]) rfl ?_
                  exact ih2 (l3_2 + (1 : Int32)) (l5_2 + (1 : Int32)) h
        exact L2 _ l3_1 (l4_1 + (1 : Int32)) h
  exact L1 _ (0 : Int32) (0 : Int32) h
theorem ct_Cl_pairsOf {g : GG} {ad : Nat → Nat} {t : va_W} {x0 x1 x3 x4 x11 x12 x18 x19 x20 x24 x25 x26 x27 x28 x29 x30 x31 x37 x39 x40 x41 x47 x48 x54 x56 x58 x59 x60 x61 x63 x64 x65 x66 : Int32} {x2 x13 x14 x15 x16 x17 x21 x22 x23 x33 x34 x35 x42 x43 x44 x45 x46 x49 x50 x51 x52 x53 x62 x67 : Nat → Int32} {x32 : Int64} {x36 x38 x55 x57 : Nat → Int64} {N : Nat} {Cl_count : Int32} {Cl_tellers : Nat → Int32} {Cl_kinds : Nat → Int32} {Cl_events : Nat → Int32} {Cl_firsts : Nat → Int32} {Cl_lasts : Nat → Int32} {p1 : Int32} {p2 : Int32} {o : Int32} (h : f_Cl_pairsOf N Cl_count Cl_tellers Cl_kinds Cl_events Cl_firsts Cl_lasts p1 p2 = some o) : Ct g mX0_pairsOf 3 0 0 [.ref (ad 4), .int p1, .int p2] (wlX g ad x0 x1 x2 x3 x4 Cl_count Cl_tellers Cl_kinds Cl_events Cl_firsts Cl_lasts x11 x12 x13 x14 x15 x16 x17 x18 x19 x20 x21 x22 x23 x24 x25 x26 x27 x28 x29 x30 x31 x32 x33 x34 x35 x36 x37 x38 x39 x40 x41 x42 x43 x44 x45 x46 x47 x48 x49 x50 x51 x52 x53 x54 x55 x56 x57 x58 x59 x60 x61 x62 x63 x64 x65 x66 x67 ++ t) (Dv (some (.int o)) (wlX g ad x0 x1 x2 x3 x4 Cl_count Cl_tellers Cl_kinds Cl_events Cl_firsts Cl_lasts x11 x12 x13 x14 x15 x16 x17 x18 x19 x20 x21 x22 x23 x24 x25 x26 x27 x28 x29 x30 x31 x32 x33 x34 x35 x36 x37 x38 x39 x40 x41 x42 x43 x44 x45 x46 x47 x48 x49 x50 x51 x52 x53 x54 x55 x56 x57 x58 x59 x60 x61 x62 x63 x64 x65 x66 x67 ++ t)) := Ct.ofR (by decide +kernel) rfl (Nat.le_of_ble_eq_true rfl) (rt_Cl_pairsOf h ⟨rfl, rfl⟩)
