set_option maxRecDepth 20000 in
set_option maxHeartbeats 4000000 in
theorem rt_Ve_firstHour {g : GG} {ad : Nat → Nat} {t : va_W} {x0 x1 x3 x4 x11 x12 x18 x19 x20 x24 x25 x26 x27 x28 x29 x30 x31 x37 x39 x40 x41 x47 x48 x54 x56 x58 x59 x60 x61 x63 x64 x65 x66 : Int32} {x2 x10 x13 x14 x15 x16 x17 x21 x22 x23 x33 x34 x35 x42 x43 x44 x45 x46 x49 x50 x51 x52 x53 x62 x67 : Nat → Int32} {x32 : Int64} {x36 x38 x55 x57 : Nat → Int64} {N : Nat} {Cl_count : Int32} {Cl_tellers : Nat → Int32} {Cl_kinds : Nat → Int32} {Cl_events : Nat → Int32} {Cl_firsts : Nat → Int32} {p1 : Int32} {p2 : Int32} {o : Int32} {Q : Rs → va_W → Prop} (h : f_Ve_firstHour N Cl_count Cl_tellers Cl_kinds Cl_events Cl_firsts p1 p2 = some o) (hq : Q (.inl (some (.int o))) (wlX g ad x0 x1 x2 x3 x4 Cl_count Cl_tellers Cl_kinds Cl_events Cl_firsts x10 x11 x12 x13 x14 x15 x16 x17 x18 x19 x20 x21 x22 x23 x24 x25 x26 x27 x28 x29 x30 x31 x32 x33 x34 x35 x36 x37 x38 x39 x40 x41 x42 x43 x44 x45 x46 x47 x48 x49 x50 x51 x52 x53 x54 x55 x56 x57 x58 x59 x60 x61 x62 x63 x64 x65 x66 x67 ++ t)) : R g mX8_firstHour 3 0 0 0 [(0, .ref (ad 26)), (1, .int p1), (2, .int p2)] [] (wlX g ad x0 x1 x2 x3 x4 Cl_count Cl_tellers Cl_kinds Cl_events Cl_firsts x10 x11 x12 x13 x14 x15 x16 x17 x18 x19 x20 x21 x22 x23 x24 x25 x26 x27 x28 x29 x30 x31 x32 x33 x34 x35 x36 x37 x38 x39 x40 x41 x42 x43 x44 x45 x46 x47 x48 x49 x50 x51 x52 x53 x54 x55 x56 x57 x58 x59 x60 x61 x62 x63 x64 x65 x66 x67 ++ t) Q := by
  unfold f_Ve_firstHour at h
  refine r_iconst (v := (0 : Int32)) dX8_firstHour_0 (by decide) ?_
  refine r_istore_n [(3, .int (0 : Int32)), (0, .ref (ad 26)), (1, .int p1), (2, .int p2)] dX8_firstHour_1 (by decide) rfl ?_
  refine r_iconst (v := (0 : Int32)) dX8_firstHour_2 (by decide) ?_
  refine r_istore [(4, .int (0 : Int32)), (3, .int (0 : Int32)), (0, .ref (ad 26)), (1, .int p1), (2, .int p2)] dX8_firstHour_3 (by decide) rfl ?_
  refine r_ls [2, 3, 4, 1, 0] (ls2 := [(0, .ref (ad 26)), (1, .int p1), (2, .int p2), (3, .int (0 : Int32)), (4, .int (0 : Int32))]) rfl ?_
  have L1 : ∀ (n1 : Nat) (l3_1 : Int32) (l4_1 : Int32), (fun z9 => z9) (lpS (f_Ve_firstHour_L5 Cl_count Cl_tellers Cl_kinds Cl_events Cl_firsts p1 p2) none n1 (l3_1, l4_1)) = some o → R g mX8_firstHour 3 0 0 5 [(0, .ref (ad 26)), (1, .int p1), (2, .int p2), (3, .int l3_1), (4, .int l4_1)] [] (wlX g ad x0 x1 x2 x3 x4 Cl_count Cl_tellers Cl_kinds Cl_events Cl_firsts x10 x11 x12 x13 x14 x15 x16 x17 x18 x19 x20 x21 x22 x23 x24 x25 x26 x27 x28 x29 x30 x31 x32 x33 x34 x35 x36 x37 x38 x39 x40 x41 x42 x43 x44 x45 x46 x47 x48 x49 x50 x51 x52 x53 x54 x55 x56 x57 x58 x59 x60 x61 x62 x63 x64 x65 x66 x67 ++ t) Q := by
    intro n1
    induction n1 with
    | zero => intro l3_1 l4_1 h; exact nomatch (show (none : Option _) = some _ from h)
    | succ n1 ih1 =>
      intro l3_1 l4_1 h
      have h : (fun z9 => (lC (f_Ve_firstHour_L5 Cl_count Cl_tellers Cl_kinds Cl_events Cl_firsts p1 p2) none n1 z9)) (f_Ve_firstHour_L5 Cl_count Cl_tellers Cl_kinds Cl_events Cl_firsts p1 p2 (l3_1, l4_1)) = some o := h
      unfold f_Ve_firstHour_L5 at h
      try dsimp only at h
      refine r_iload 4 dX8_firstHour_5 rfl ?_
      refine r_aload_n 0 dX8_firstHour_7 rfl ?_
      refine r_getf (v := .ref (ad 3)) _ dX8_firstHour_8 fl_X8_9 lX_26 rfl ?_
      refine r_getf (v := .ref (ad 4)) _ dX8_firstHour_11 fl_X8_38 lX_3 rfl ?_
      refine r_getf (v := .int Cl_count) _ dX8_firstHour_14 fl_X8_44 lX_4 rfl ?_
      refine r_icmp_ge (tgt := 57) dX8_firstHour_17 (by decide) (fun hc902 => ?_) (fun hc902 => ?_)
      · have h := ip (fun z9 => (lC (f_Ve_firstHour_L5 Cl_count Cl_tellers Cl_kinds Cl_events Cl_firsts p1 p2) none n1 z9)) hc902 h
        refine r_iload_n 3 dX8_firstHour_57 rfl ?_
        refine r_iret dX8_firstHour_58 rfl ?_
        have h := Option.some.inj (show some _ = some o from h)
        subst h
        exact hq
      · have h := iq (fun z9 => (lC (f_Ve_firstHour_L5 Cl_count Cl_tellers Cl_kinds Cl_events Cl_firsts p1 p2) none n1 z9)) hc902 h
        refine r_aload_n 0 dX8_firstHour_20 rfl ?_
        refine r_iload 4 dX8_firstHour_21 rfl ?_
        refine r_iload_n 1 dX8_firstHour_23 rfl ?_
        refine r_iload_n 2 dX8_firstHour_24 rfl ?_
        refine c_V (rest := []) 0 0 _ dX8_firstHour_25 kv_X8_95 (ct_Ve_isHeard rfl) rfl rfl lX_26 rfl (Nat.le_of_ble_eq_true rfl) (by decide) (by decide) ?_
        refine r_if_eq (tgt := 51) dX8_firstHour_28 (by decide) (fun hc903 => ?_) (fun hc903 => ?_)
        · have h := ip (fun z9 => (lC (f_Ve_firstHour_L5 Cl_count Cl_tellers Cl_kinds Cl_events Cl_firsts p1 p2) none n1 z9)) hc903 h
          refine r_iinc (v2 := (l4_1 + (1 : Int32))) 4 [(4, .int (l4_1 + (1 : Int32))), (0, .ref (ad 26)), (1, .int p1), (2, .int p2), (3, .int l3_1)] dX8_firstHour_51 rfl rfl (by decide) rfl ?_
          refine r_goto (tgt := 5) dX8_firstHour_54 (by decide) ?_
          refine r_ls [1, 2, 3, 4, 0] (ls2 := [(0, .ref (ad 26)), (1, .int p1), (2, .int p2), (3, .int l3_1), (4, .int (l4_1 + (1 : Int32)))]) rfl ?_
          exact ih1 l3_1 (l4_1 + (1 : Int32)) h
        · have h := iq (fun z9 => (lC (f_Ve_firstHour_L5 Cl_count Cl_tellers Cl_kinds Cl_events Cl_firsts p1 p2) none n1 z9)) hc903 h
          refine r_iload_n 3 dX8_firstHour_31 rfl ?_
          refine r_aload_n 0 dX8_firstHour_32 rfl ?_
          refine r_getf (v := .ref (ad 3)) _ dX8_firstHour_33 fl_X8_9 lX_26 rfl ?_
          refine r_getf (v := .ref (ad 4)) _ dX8_firstHour_36 fl_X8_38 lX_3 rfl ?_
          refine r_getf (v := .ref (ad 11)) _ dX8_firstHour_39 fl_X8_99 lX_4 rfl ?_
          refine r_iload 4 dX8_firstHour_42 rfl ?_
          refine c_V (rest := [.int l3_1]) 0 0 _ dX8_firstHour_44 kv_X8_56 (ct_Row_get lX_11 lX_12 (Nat.le_of_ble_eq_true rfl)) rfl rfl lX_11 rfl (Nat.le_of_ble_eq_true rfl) (by decide) (by decide) ?_
          refine c_mmax (rest := []) dX8_firstHour_47 ks_X8_102 (Nat.le_of_ble_eq_true rfl) (by decide) ?_
          refine r_istore_n [(3, .int (f_J9_max_7cf53 l3_1 (rget 40 Cl_firsts l4_1))), (0, .ref (ad 26)), (1, .int p1), (2, .int p2), (4, .int l4_1)] dX8_firstHour_50 (by decide) rfl ?_
          refine r_iinc (v2 := (l4_1 + (1 : Int32))) 4 [(4, .int (l4_1 + (1 : Int32))), (3, .int (f_J9_max_7cf53 l3_1 (rget 40 Cl_firsts l4_1))), (0, .ref (ad 26)), (1, .int p1), (2, .int p2)] dX8_firstHour_51 rfl rfl (by decide) rfl ?_
          refine r_goto (tgt := 5) dX8_firstHour_54 (by decide) ?_
          refine r_ls [2, 3, 4, 1, 0] (ls2 := [(0, .ref (ad 26)), (1, .int p1), (2, .int p2), (3, .int (f_J9_max_7cf53 l3_1 (rget 40 Cl_firsts l4_1))), (4, .int (l4_1 + (1 : Int32)))]) rfl ?_
          exact ih1 (f_J9_max_7cf53 l3_1 (rget 40 Cl_firsts l4_1)) (l4_1 + (1 : Int32)) h
  exact L1 _ (0 : Int32) (0 : Int32) h
theorem ct_Ve_firstHour {g : GG} {ad : Nat → Nat} {t : va_W} {x0 x1 x3 x4 x11 x12 x18 x19 x20 x24 x25 x26 x27 x28 x29 x30 x31 x37 x39 x40 x41 x47 x48 x54 x56 x58 x59 x60 x61 x63 x64 x65 x66 : Int32} {x2 x10 x13 x14 x15 x16 x17 x21 x22 x23 x33 x34 x35 x42 x43 x44 x45 x46 x49 x50 x51 x52 x53 x62 x67 : Nat → Int32} {x32 : Int64} {x36 x38 x55 x57 : Nat → Int64} {N : Nat} {Cl_count : Int32} {Cl_tellers : Nat → Int32} {Cl_kinds : Nat → Int32} {Cl_events : Nat → Int32} {Cl_firsts : Nat → Int32} {p1 : Int32} {p2 : Int32} {o : Int32} (h : f_Ve_firstHour N Cl_count Cl_tellers Cl_kinds Cl_events Cl_firsts p1 p2 = some o) : Ct g mX8_firstHour 3 0 0 [.ref (ad 26), .int p1, .int p2] (wlX g ad x0 x1 x2 x3 x4 Cl_count Cl_tellers Cl_kinds Cl_events Cl_firsts x10 x11 x12 x13 x14 x15 x16 x17 x18 x19 x20 x21 x22 x23 x24 x25 x26 x27 x28 x29 x30 x31 x32 x33 x34 x35 x36 x37 x38 x39 x40 x41 x42 x43 x44 x45 x46 x47 x48 x49 x50 x51 x52 x53 x54 x55 x56 x57 x58 x59 x60 x61 x62 x63 x64 x65 x66 x67 ++ t) (Dv (some (.int o)) (wlX g ad x0 x1 x2 x3 x4 Cl_count Cl_tellers Cl_kinds Cl_events Cl_firsts x10 x11 x12 x13 x14 x15 x16 x17 x18 x19 x20 x21 x22 x23 x24 x25 x26 x27 x28 x29 x30 x31 x32 x33 x34 x35 x36 x37 x38 x39 x40 x41 x42 x43 x44 x45 x46 x47 x48 x49 x50 x51 x52 x53 x54 x55 x56 x57 x58 x59 x60 x61 x62 x63 x64 x65 x66 x67 ++ t)) := Ct.ofR (by decide +kernel) rfl (Nat.le_of_ble_eq_true rfl) (rt_Ve_firstHour h ⟨rfl, rfl⟩)
set_option maxRecDepth 20000 in
set_option maxHeartbeats 4000000 in
theorem rt_Ve_windowHours {g : GG} {ad : Nat → Nat} {t : va_W} {x0 x1 x3 x4 x11 x12 x18 x19 x20 x24 x25 x26 x27 x28 x29 x30 x31 x37 x39 x40 x41 x47 x48 x54 x56 x58 x59 x60 x61 x63 x64 x65 x66 : Int32} {x2 x13 x14 x15 x16 x17 x21 x22 x23 x33 x34 x35 x42 x43 x44 x45 x46 x49 x50 x51 x52 x53 x62 x67 : Nat → Int32} {x32 : Int64} {x36 x38 x55 x57 : Nat → Int64} {N : Nat} {Cl_count : Int32} {Cl_tellers : Nat → Int32} {Cl_kinds : Nat → Int32} {Cl_events : Nat → Int32} {Cl_firsts : Nat → Int32} {Cl_lasts : Nat → Int32} {p1 : Int32} {p2 : Int32} {o : Int32} {Q : Rs → va_W → Prop} (h : f_Ve_windowHours N Cl_count Cl_tellers Cl_kinds Cl_events Cl_firsts Cl_lasts p1 p2 = some o) (hq : Q (.inl (some (.int o))) (wlX g ad x0 x1 x2 x3 x4 Cl_count Cl_tellers Cl_kinds Cl_events Cl_firsts Cl_lasts x11 x12 x13 x14 x15 x16 x17 x18 x19 x20 x21 x22 x23 x24 x25 x26 x27 x28 x29 x30 x31 x32 x33 x34 x35 x36 x37 x38 x39 x40 x41 x42 x43 x44 x45 x46 x47 x48 x49 x50 x51 x52 x53 x54 x55 x56 x57 x58 x59 x60 x61 x62 x63 x64 x65 x66 x67 ++ t)) : R g mX8_windowHours 4 0 0 0 [(0, .ref (ad 26)), (1, .int p1), (2, .int p2)] [] (wlX g ad x0 x1 x2 x3 x4 Cl_count Cl_tellers Cl_kinds Cl_events Cl_firsts Cl_lasts x11 x12 x13 x14 x15 x16 x17 x18 x19 x20 x21 x22 x23 x24 x25 x26 x27 x28 x29 x30 x31 x32 x33 x34 x35 x36 x37 x38 x39 x40 x41 x42 x43 x44 x45 x46 x47 x48 x49 x50 x51 x52 x53 x54 x55 x56 x57 x58 x59 x60 x61 x62 x63 x64 x65 x66 x67 ++ t) Q := by
  unfold f_Ve_windowHours at h
  refine r_iconst (v := (0 : Int32)) dX8_windowHours_0 (by decide) ?_
  refine r_aload_n 0 dX8_windowHours_1 rfl ?_
  refine r_iload_n 1 dX8_windowHours_2 rfl ?_
  refine r_iload_n 2 dX8_windowHours_3 rfl ?_
  obtain ⟨r904, hc905, h⟩ := ob (fun z9 => z9) rfl h
  refine c_V (rest := [.int (0 : Int32)]) 0 0 _ dX8_windowHours_4 kv_X8_114 (ct_Ve_lastHour hc905) rfl rfl lX_26 rfl (Nat.le_of_ble_eq_true rfl) (by decide) (by decide) ?_
  refine r_aload_n 0 dX8_windowHours_7 rfl ?_
  refine r_iload_n 1 dX8_windowHours_8 rfl ?_
  refine r_iload_n 2 dX8_windowHours_9 rfl ?_
  obtain ⟨r906, hc907, h⟩ := ob (fun z9 => z9) rfl h
  refine c_V (rest := [.int r904, .int (0 : Int32)]) 0 0 _ dX8_windowHours_10 kv_X8_117 (ct_Ve_firstHour hc907) rfl rfl lX_26 rfl (Nat.le_of_ble_eq_true rfl) (by decide) (by decide) ?_
  refine r_isub dX8_windowHours_13 ?_
  refine r_iconst (v := (1 : Int32)) dX8_windowHours_14 (by decide) ?_
  refine r_iadd dX8_windowHours_15 ?_
  refine c_mmax (rest := []) dX8_windowHours_16 ks_X8_102 (Nat.le_of_ble_eq_true rfl) (by decide) ?_
  refine r_iret dX8_windowHours_19 rfl ?_
  have h := Option.some.inj (show some _ = some o from h)
  subst h
  exact hq
theorem ct_Ve_windowHours {g : GG} {ad : Nat → Nat} {t : va_W} {x0 x1 x3 x4 x11 x12 x18 x19 x20 x24 x25 x26 x27 x28 x29 x30 x31 x37 x39 x40 x41 x47 x48 x54 x56 x58 x59 x60 x61 x63 x64 x65 x66 : Int32} {x2 x13 x14 x15 x16 x17 x21 x22 x23 x33 x34 x35 x42 x43 x44 x45 x46 x49 x50 x51 x52 x53 x62 x67 : Nat → Int32} {x32 : Int64} {x36 x38 x55 x57 : Nat → Int64} {N : Nat} {Cl_count : Int32} {Cl_tellers : Nat → Int32} {Cl_kinds : Nat → Int32} {Cl_events : Nat → Int32} {Cl_firsts : Nat → Int32} {Cl_lasts : Nat → Int32} {p1 : Int32} {p2 : Int32} {o : Int32} (h : f_Ve_windowHours N Cl_count Cl_tellers Cl_kinds Cl_events Cl_firsts Cl_lasts p1 p2 = some o) : Ct g mX8_windowHours 4 0 0 [.ref (ad 26), .int p1, .int p2] (wlX g ad x0 x1 x2 x3 x4 Cl_count Cl_tellers Cl_kinds Cl_events Cl_firsts Cl_lasts x11 x12 x13 x14 x15 x16 x17 x18 x19 x20 x21 x22 x23 x24 x25 x26 x27 x28 x29 x30 x31 x32 x33 x34 x35 x36 x37 x38 x39 x40 x41 x42 x43 x44 x45 x46 x47 x48 x49 x50 x51 x52 x53 x54 x55 x56 x57 x58 x59 x60 x61 x62 x63 x64 x65 x66 x67 ++ t) (Dv (some (.int o)) (wlX g ad x0 x1 x2 x3 x4 Cl_count Cl_tellers Cl_kinds Cl_events Cl_firsts Cl_lasts x11 x12 x13 x14 x15 x16 x17 x18 x19 x20 x21 x22 x23 x24 x25 x26 x27 x28 x29 x30 x31 x32 x33 x34 x35 x36 x37 x38 x39 x40 x41 x42 x43 x44 x45 x46 x47 x48 x49 x50 x51 x52 x53 x54 x55 x56 x57 x58 x59 x60 x61 x62 x63 x64 x65 x66 x67 ++ t)) := Ct.ofR (by decide +kernel) rfl (Nat.le_of_ble_eq_true rfl) (rt_Ve_windowHours h ⟨rfl, rfl⟩)
set_option maxRecDepth 20000 in
set_option maxHeartbeats 4000000 in
theorem rt_Main_isAgreed {g : GG} {ad : Nat → Nat} {t : va_W} {x0 x1 x4 x11 x12 x18 x19 x20 x24 x25 x26 x27 x28 x29 x30 x31 x37 x39 x40 x41 x47 x48 x54 x56 x58 x60 x61 x63 x64 x65 x66 : Int32} {x2 x13 x14 x15 x16 x17 x21 x22 x23 x33 x34 x35 x42 x43 x44 x45 x46 x49 x50 x51 x52 x53 x62 x67 : Nat → Int32} {x32 : Int64} {x36 x38 x55 x57 : Nat → Int64} {N : Nat} {Tap_eventCount : Int32} {Cl_count : Int32} {Cl_tellers : Nat → Int32} {Cl_kinds : Nat → Int32} {Cl_events : Nat → Int32} {Cl_firsts : Nat → Int32} {Cl_lasts : Nat → Int32} {Co_doubted : Int32} {p1 : Int32} {o : (Int32) ⊕ String} {Q : Rs → va_W → Prop} (h : f_Main_isAgreed N Tap_eventCount Cl_count Cl_tellers Cl_kinds Cl_events Cl_firsts Cl_lasts Co_doubted p1 = some o) (hq1 : ∀ q, o = .inl q → Q (.inl (some (.int q))) (wlX g ad x0 x1 x2 Tap_eventCount x4 Cl_count Cl_tellers Cl_kinds Cl_events Cl_firsts Cl_lasts x11 x12 x13 x14 x15 x16 x17 x18 x19 x20 x21 x22 x23 x24 x25 x26 x27 x28 x29 x30 x31 x32 x33 x34 x35 x36 x37 x38 x39 x40 x41 x42 x43 x44 x45 x46 x47 x48 x49 x50 x51 x52 x53 x54 x55 x56 x57 x58 Co_doubted x60 x61 x62 x63 x64 x65 x66 x67 ++ t)) (hq2 : ∀ E, o = .inr E → Q (.inr E) (wlX g ad x0 x1 x2 Tap_eventCount x4 Cl_count Cl_tellers Cl_kinds Cl_events Cl_firsts Cl_lasts x11 x12 x13 x14 x15 x16 x17 x18 x19 x20 x21 x22 x23 x24 x25 x26 x27 x28 x29 x30 x31 x32 x33 x34 x35 x36 x37 x38 x39 x40 x41 x42 x43 x44 x45 x46 x47 x48 x49 x50 x51 x52 x53 x54 x55 x56 x57 x58 Co_doubted x60 x61 x62 x63 x64 x65 x66 x67 ++ t)) : R g mX9_isAgreed 7 1 6 0 [(0, .ref (ad 0)), (1, .int p1)] [] (wlX g ad x0 x1 x2 Tap_eventCount x4 Cl_count Cl_tellers Cl_kinds Cl_events Cl_firsts Cl_lasts x11 x12 x13 x14 x15 x16 x17 x18 x19 x20 x21 x22 x23 x24 x25 x26 x27 x28 x29 x30 x31 x32 x33 x34 x35 x36 x37 x38 x39 x40 x41 x42 x43 x44 x45 x46 x47 x48 x49 x50 x51 x52 x53 x54 x55 x56 x57 x58 Co_doubted x60 x61 x62 x63 x64 x65 x66 x67 ++ t) Q := by
  unfold f_Main_isAgreed at h
  refine r_aload_n 0 dX9_isAgreed_0 rfl ?_
  refine r_iload_n 1 dX9_isAgreed_1 rfl ?_
  obtain ⟨r908, hc909, h⟩ := ob (fun z9 => z9) rfl h
  rcases r908 with q910 | E914
  · refine c_Xv (rest := []) 0 0 _ dX9_isAgreed_2 kv_X9_192 (ct_Main_needEvent hc909) rfl rfl lX_0 rfl (Nat.le_of_ble_eq_true rfl) (by decide) (by decide) ?_
    try dsimp only [Sum.elim_inl, Sum.elim_inr] at h
    refine r_aload_n 0 dX9_isAgreed_5 rfl ?_
    refine r_getf (v := .ref (ad 26)) _ dX9_isAgreed_6 fl_X9_39 lX_0 rfl ?_
    refine r_iload_n 1 dX9_isAgreed_9 rfl ?_
    refine r_aload_n 0 dX9_isAgreed_10 rfl ?_
    refine r_getf (v := .ref (ad 71)) _ dX9_isAgreed_11 fl_X9_48 lX_0 rfl ?_
    refine r_getf (v := .int Co_doubted) _ dX9_isAgreed_14 fl_X9_162 lX_71 rfl ?_
    obtain ⟨r911, hc912, h⟩ := ob (fun z9 => z9) rfl h
    refine c_V (rest := []) 0 0 _ dX9_isAgreed_17 kv_X9_195 (ct_Ve_windowHours hc912) rfl rfl lX_26 rfl (Nat.le_of_ble_eq_true rfl) (by decide) (by decide) ?_
    refine r_if_le (tgt := 27) dX9_isAgreed_20 (by decide) (fun hc913 => ?_) (fun hc913 => ?_)
    · have h := ip (fun z9 => z9) hc913 h
      refine r_iconst (v := (0 : Int32)) dX9_isAgreed_27 (by decide) ?_
      refine r_zret dX9_isAgreed_28 rfl (by decide) ?_
      have h := Option.some.inj (show some _ = some o from h)
      subst h
      exact hq1 _ rfl
    · have h := iq (fun z9 => z9) hc913 h
      refine r_iconst (v := (1 : Int32)) dX9_isAgreed_23 (by decide) ?_
      refine r_goto (tgt := 28) dX9_isAgreed_24 (by decide) ?_
      refine r_zret dX9_isAgreed_28 rfl (by decide) ?_
      have h := Option.some.inj (show some _ = some o from h)
      subst h
      exact hq1 _ rfl
  · refine c_Xt (rest := []) 0 0 _ dX9_isAgreed_2 kv_X9_192 (ct_Main_needEvent hc909) rfl rfl lX_0 rfl (Nat.le_of_ble_eq_true rfl) (by decide) (by decide) ?_
    refine rx_out rfl ?_
    have h := Option.some.inj (show some _ = some o from h)
    subst h
    exact hq2 _ rfl
theorem ct_Main_isAgreed {g : GG} {ad : Nat → Nat} {t : va_W} {x0 x1 x4 x11 x12 x18 x19 x20 x24 x25 x26 x27 x28 x29 x30 x31 x37 x39 x40 x41 x47 x48 x54 x56 x58 x60 x61 x63 x64 x65 x66 : Int32} {x2 x13 x14 x15 x16 x17 x21 x22 x23 x33 x34 x35 x42 x43 x44 x45 x46 x49 x50 x51 x52 x53 x62 x67 : Nat → Int32} {x32 : Int64} {x36 x38 x55 x57 : Nat → Int64} {N : Nat} {Tap_eventCount : Int32} {Cl_count : Int32} {Cl_tellers : Nat → Int32} {Cl_kinds : Nat → Int32} {Cl_events : Nat → Int32} {Cl_firsts : Nat → Int32} {Cl_lasts : Nat → Int32} {Co_doubted : Int32} {p1 : Int32} {o : (Int32) ⊕ String} (h : f_Main_isAgreed N Tap_eventCount Cl_count Cl_tellers Cl_kinds Cl_events Cl_firsts Cl_lasts Co_doubted p1 = some o) : Ct g mX9_isAgreed 7 1 6 [.ref (ad 0), .int p1] (wlX g ad x0 x1 x2 Tap_eventCount x4 Cl_count Cl_tellers Cl_kinds Cl_events Cl_firsts Cl_lasts x11 x12 x13 x14 x15 x16 x17 x18 x19 x20 x21 x22 x23 x24 x25 x26 x27 x28 x29 x30 x31 x32 x33 x34 x35 x36 x37 x38 x39 x40 x41 x42 x43 x44 x45 x46 x47 x48 x49 x50 x51 x52 x53 x54 x55 x56 x57 x58 Co_doubted x60 x61 x62 x63 x64 x65 x66 x67 ++ t) (Dt o (fun q => some (.int q)) (fun q => (wlX g ad x0 x1 x2 Tap_eventCount x4 Cl_count Cl_tellers Cl_kinds Cl_events Cl_firsts Cl_lasts x11 x12 x13 x14 x15 x16 x17 x18 x19 x20 x21 x22 x23 x24 x25 x26 x27 x28 x29 x30 x31 x32 x33 x34 x35 x36 x37 x38 x39 x40 x41 x42 x43 x44 x45 x46 x47 x48 x49 x50 x51 x52 x53 x54 x55 x56 x57 x58 Co_doubted x60 x61 x62 x63 x64 x65 x66 x67 ++ t)) (wlX g ad x0 x1 x2 Tap_eventCount x4 Cl_count Cl_tellers Cl_kinds Cl_events Cl_firsts Cl_lasts x11 x12 x13 x14 x15 x16 x17 x18 x19 x20 x21 x22 x23 x24 x25 x26 x27 x28 x29 x30 x31 x32 x33 x34 x35 x36 x37 x38 x39 x40 x41 x42 x43 x44 x45 x46 x47 x48 x49 x50 x51 x52 x53 x54 x55 x56 x57 x58 Co_doubted x60 x61 x62 x63 x64 x65 x66 x67 ++ t)) := Ct.ofR (by decide +kernel) rfl (Nat.le_of_ble_eq_true rfl) (rt_Main_isAgreed h (fun q e => by subst e; exact ⟨rfl, rfl⟩) (fun E e => by subst e; exact ⟨rfl, rfl⟩))
set_option maxRecDepth 20000 in
set_option maxHeartbeats 4000000 in
theorem rt_Main_needWindow {g : GG} {ad : Nat → Nat} {t : va_W} {x0 x1 x3 x4 x11 x12 x18 x19 x20 x24 x25 x26 x27 x28 x29 x30 x31 x37 x39 x40 x41 x47 x48 x54 x56 x58 x60 x61 x63 x64 x65 x66 : Int32} {x2 x13 x14 x15 x16 x17 x21 x22 x23 x33 x34 x35 x42 x43 x44 x45 x46 x49 x50 x51 x52 x53 x62 x67 : Nat → Int32} {x32 : Int64} {x36 x38 x55 x57 : Nat → Int64} {N : Nat} {Cl_count : Int32} {Cl_tellers : Nat → Int32} {Cl_kinds : Nat → Int32} {Cl_events : Nat → Int32} {Cl_firsts : Nat → Int32} {Cl_lasts : Nat → Int32} {Co_doubted : Int32} {p1 : Int32} {o : (Unit) ⊕ String} {Q : Rs → va_W → Prop} (h : f_Main_needWindow N Cl_count Cl_tellers Cl_kinds Cl_events Cl_firsts Cl_lasts Co_doubted p1 = some o) (hq1 : ∀ q, o = .inl q → Q (.inl (none)) (wlX g ad x0 x1 x2 x3 x4 Cl_count Cl_tellers Cl_kinds Cl_events Cl_firsts Cl_lasts x11 x12 x13 x14 x15 x16 x17 x18 x19 x20 x21 x22 x23 x24 x25 x26 x27 x28 x29 x30 x31 x32 x33 x34 x35 x36 x37 x38 x39 x40 x41 x42 x43 x44 x45 x46 x47 x48 x49 x50 x51 x52 x53 x54 x55 x56 x57 x58 Co_doubted x60 x61 x62 x63 x64 x65 x66 x67 ++ t)) (hq2 : ∀ E, o = .inr E → Q (.inr E) (wlX g ad x0 x1 x2 x3 x4 Cl_count Cl_tellers Cl_kinds Cl_events Cl_firsts Cl_lasts x11 x12 x13 x14 x15 x16 x17 x18 x19 x20 x21 x22 x23 x24 x25 x26 x27 x28 x29 x30 x31 x32 x33 x34 x35 x36 x37 x38 x39 x40 x41 x42 x43 x44 x45 x46 x47 x48 x49 x50 x51 x52 x53 x54 x55 x56 x57 x58 Co_doubted x60 x61 x62 x63 x64 x65 x66 x67 ++ t)) : R g mX9_needWindow 6 1 6 0 [(0, .ref (ad 0)), (1, .int p1)] [] (wlX g ad x0 x1 x2 x3 x4 Cl_count Cl_tellers Cl_kinds Cl_events Cl_firsts Cl_lasts x11 x12 x13 x14 x15 x16 x17 x18 x19 x20 x21 x22 x23 x24 x25 x26 x27 x28 x29 x30 x31 x32 x33 x34 x35 x36 x37 x38 x39 x40 x41 x42 x43 x44 x45 x46 x47 x48 x49 x50 x51 x52 x53 x54 x55 x56 x57 x58 Co_doubted x60 x61 x62 x63 x64 x65 x66 x67 ++ t) Q := by
  unfold f_Main_needWindow at h
  refine r_aload_n 0 dX9_needWindow_0 rfl ?_
  refine r_getf (v := .ref (ad 26)) _ dX9_needWindow_1 fl_X9_39 lX_0 rfl ?_
  refine r_iload_n 1 dX9_needWindow_4 rfl ?_
  refine r_aload_n 0 dX9_needWindow_5 rfl ?_
  refine r_getf (v := .ref (ad 71)) _ dX9_needWindow_6 fl_X9_48 lX_0 rfl ?_
  refine r_getf (v := .int Co_doubted) _ dX9_needWindow_9 fl_X9_162 lX_71 rfl ?_
  obtain ⟨r915, hc916, h⟩ := ob (fun z9 => z9) rfl h
  refine c_V (rest := []) 1 6 _ dX9_needWindow_12 kv_X9_195 (ct_Ve_windowHours hc916) rfl rfl lX_26 rfl (Nat.le_of_ble_eq_true rfl) (by decide) (by decide) ?_
  refine r_if_ne (tgt := 28) dX9_needWindow_15 (by decide) (fun hc917 => ?_) (fun hc917 => ?_)
  · have h := iq (fun z9 => z9) hc917 h
    refine r_vret dX9_needWindow_28 rfl ?_
    have h := Option.some.inj (show some _ = some o from h)
    subst h
    exact hq1 _ rfl
  · have h := ip (fun z9 => z9) hc917 h
    refine r_throw (x := 0) (y := 0) dX9_needWindow_18 dX9_needWindow_21 dX9_needWindow_22 dX9_needWindow_24 dX9_needWindow_27 kx_X9_62_220_66 rfl (Nat.le_of_ble_eq_true rfl) (by decide) ?_
    have h := Option.some.inj (show some _ = some o from h)
    subst h
    exact hq2 _ rfl
theorem ct_Main_needWindow {g : GG} {ad : Nat → Nat} {t : va_W} {x0 x1 x3 x4 x11 x12 x18 x19 x20 x24 x25 x26 x27 x28 x29 x30 x31 x37 x39 x40 x41 x47 x48 x54 x56 x58 x60 x61 x63 x64 x65 x66 : Int32} {x2 x13 x14 x15 x16 x17 x21 x22 x23 x33 x34 x35 x42 x43 x44 x45 x46 x49 x50 x51 x52 x53 x62 x67 : Nat → Int32} {x32 : Int64} {x36 x38 x55 x57 : Nat → Int64} {N : Nat} {Cl_count : Int32} {Cl_tellers : Nat → Int32} {Cl_kinds : Nat → Int32} {Cl_events : Nat → Int32} {Cl_firsts : Nat → Int32} {Cl_lasts : Nat → Int32} {Co_doubted : Int32} {p1 : Int32} {o : (Unit) ⊕ String} (h : f_Main_needWindow N Cl_count Cl_tellers Cl_kinds Cl_events Cl_firsts Cl_lasts Co_doubted p1 = some o) : Ct g mX9_needWindow 6 1 6 [.ref (ad 0), .int p1] (wlX g ad x0 x1 x2 x3 x4 Cl_count Cl_tellers Cl_kinds Cl_events Cl_firsts Cl_lasts x11 x12 x13 x14 x15 x16 x17 x18 x19 x20 x21 x22 x23 x24 x25 x26 x27 x28 x29 x30 x31 x32 x33 x34 x35 x36 x37 x38 x39 x40 x41 x42 x43 x44 x45 x46 x47 x48 x49 x50 x51 x52 x53 x54 x55 x56 x57 x58 Co_doubted x60 x61 x62 x63 x64 x65 x66 x67 ++ t) (Dt o (fun q => none) (fun q => (wlX g ad x0 x1 x2 x3 x4 Cl_count Cl_tellers Cl_kinds Cl_events Cl_firsts Cl_lasts x11 x12 x13 x14 x15 x16 x17 x18 x19 x20 x21 x22 x23 x24 x25 x26 x27 x28 x29 x30 x31 x32 x33 x34 x35 x36 x37 x38 x39 x40 x41 x42 x43 x44 x45 x46 x47 x48 x49 x50 x51 x52 x53 x54 x55 x56 x57 x58 Co_doubted x60 x61 x62 x63 x64 x65 x66 x67 ++ t)) (wlX g ad x0 x1 x2 x3 x4 Cl_count Cl_tellers Cl_kinds Cl_events Cl_firsts Cl_lasts x11 x12 x13 x14 x15 x16 x17 x18 x19 x20 x21 x22 x23 x24 x25 x26 x27 x28 x29 x30 x31 x32 x33 x34 x35 x36 x37 x38 x39 x40 x41 x42 x43 x44 x45 x46 x47 x48 x49 x50 x51 x52 x53 x54 x55 x56 x57 x58 Co_doubted x60 x61 x62 x63 x64 x65 x66 x67 ++ t)) := Ct.ofR (by decide +kernel) rfl (Nat.le_of_ble_eq_true rfl) (rt_Main_needWindow h (fun q e => by subst e; exact ⟨rfl, rfl⟩) (fun E e => by subst e; exact ⟨rfl, rfl⟩))
set_option maxRecDepth 20000 in
set_option maxHeartbeats 4000000 in
theorem rt_Main_windowFrom {g : GG} {ad : Nat → Nat} {t : va_W} {x0 x1 x4 x11 x12 x18 x19 x20 x24 x25 x26 x27 x28 x29 x30 x31 x37 x39 x40 x41 x47 x48 x54 x56 x58 x60 x61 x63 x64 x65 x66 : Int32} {x2 x13 x14 x15 x16 x17 x21 x22 x23 x33 x34 x35 x42 x43 x44 x45 x46 x49 x50 x51 x52 x53 x62 x67 : Nat → Int32} {x32 : Int64} {x36 x38 x55 x57 : Nat → Int64} {N : Nat} {Tap_eventCount : Int32} {Cl_count : Int32} {Cl_tellers : Nat → Int32} {Cl_kinds : Nat → Int32} {Cl_events : Nat → Int32} {Cl_firsts : Nat → Int32} {Cl_lasts : Nat → Int32} {Co_doubted : Int32} {p1 : Int32} {o : (Int32) ⊕ String} {Q : Rs → va_W → Prop} (h : f_Main_windowFrom N Tap_eventCount Cl_count Cl_tellers Cl_kinds Cl_events Cl_firsts Cl_lasts Co_doubted p1 = some o) (hq1 : ∀ q, o = .inl q → Q (.inl (some (.int q))) (wlX g ad x0 x1 x2 Tap_eventCount x4 Cl_count Cl_tellers Cl_kinds Cl_events Cl_firsts Cl_lasts x11 x12 x13 x14 x15 x16 x17 x18 x19 x20 x21 x22 x23 x24 x25 x26 x27 x28 x29 x30 x31 x32 x33 x34 x35 x36 x37 x38 x39 x40 x41 x42 x43 x44 x45 x46 x47 x48 x49 x50 x51 x52 x53 x54 x55 x56 x57 x58 Co_doubted x60 x61 x62 x63 x64 x65 x66 x67 ++ t)) (hq2 : ∀ E, o = .inr E → Q (.inr E) (wlX g ad x0 x1 x2 Tap_eventCount x4 Cl_count Cl_tellers Cl_kinds Cl_events Cl_firsts Cl_lasts x11 x12 x13 x14 x15 x16 x17 x18 x19 x20 x21 x22 x23 x24 x25 x26 x27 x28 x29 x30 x31 x32 x33 x34 x35 x36 x37 x38 x39 x40 x41 x42 x43 x44 x45 x46 x47 x48 x49 x50 x51 x52 x53 x54 x55 x56 x57 x58 Co_doubted x60 x61 x62 x63 x64 x65 x66 x67 ++ t)) : R g mX9_windowFrom 7 2 12 0 [(0, .ref (ad 0)), (1, .int p1)] [] (wlX g ad x0 x1 x2 Tap_eventCount x4 Cl_count Cl_tellers Cl_kinds Cl_events Cl_firsts Cl_lasts x11 x12 x13 x14 x15 x16 x17 x18 x19 x20 x21 x22 x23 x24 x25 x26 x27 x28 x29 x30 x31 x32 x33 x34 x35 x36 x37 x38 x39 x40 x41 x42 x43 x44 x45 x46 x47 x48 x49 x50 x51 x52 x53 x54 x55 x56 x57 x58 Co_doubted x60 x61 x62 x63 x64 x65 x66 x67 ++ t) Q := by
  unfold f_Main_windowFrom at h
  refine r_aload_n 0 dX9_windowFrom_0 rfl ?_
  refine r_iload_n 1 dX9_windowFrom_1 rfl ?_
  obtain ⟨r918, hc919, h⟩ := ob (fun z9 => z9) rfl h
  rcases r918 with q920 | E927
  · refine c_Xv (rest := []) 1 6 _ dX9_windowFrom_2 kv_X9_192 (ct_Main_needEvent hc919) rfl rfl lX_0 rfl (Nat.le_of_ble_eq_true rfl) (by decide) (by decide) ?_
    try dsimp only [Sum.elim_inl, Sum.elim_inr] at h
    refine r_aload_n 0 dX9_windowFrom_5 rfl ?_
    refine r_iload_n 1 dX9_windowFrom_6 rfl ?_
    obtain ⟨r921, hc922, h⟩ := ob (fun z9 => z9) rfl h
    rcases r921 with q923 | E926
    · refine c_Xv (rest := []) 0 0 _ dX9_windowFrom_7 kv_X9_198 (ct_Main_needWindow hc922) rfl rfl lX_0 rfl (Nat.le_of_ble_eq_true rfl) (by decide) (by decide) ?_
      try dsimp only [Sum.elim_inl, Sum.elim_inr] at h
      refine r_aload_n 0 dX9_windowFrom_10 rfl ?_
      refine r_getf (v := .ref (ad 26)) _ dX9_windowFrom_11 fl_X9_39 lX_0 rfl ?_
      refine r_iload_n 1 dX9_windowFrom_14 rfl ?_
      refine r_aload_n 0 dX9_windowFrom_15 rfl ?_
      refine r_getf (v := .ref (ad 71)) _ dX9_windowFrom_16 fl_X9_48 lX_0 rfl ?_
      refine r_getf (v := .int Co_doubted) _ dX9_windowFrom_19 fl_X9_162 lX_71 rfl ?_
      obtain ⟨r924, hc925, h⟩ := ob (fun z9 => z9) rfl h
      refine c_V (rest := []) 0 0 _ dX9_windowFrom_22 kv_X9_201 (ct_Ve_firstHour hc925) rfl rfl lX_26 rfl (Nat.le_of_ble_eq_true rfl) (by decide) (by decide) ?_
      refine r_iret dX9_windowFrom_25 rfl ?_
      have h := Option.some.inj (show some _ = some o from h)
      subst h
      exact hq1 _ rfl
    · refine c_Xt (rest := []) 0 0 _ dX9_windowFrom_7 kv_X9_198 (ct_Main_needWindow hc922) rfl rfl lX_0 rfl (Nat.le_of_ble_eq_true rfl) (by decide) (by decide) ?_
      refine rx_out rfl ?_
      have h := Option.some.inj (show some _ = some o from h)
      subst h
      exact hq2 _ rfl
  · refine c_Xt (rest := []) 1 6 _ dX9_windowFrom_2 kv_X9_192 (ct_Main_needEvent hc919) rfl rfl lX_0 rfl (Nat.le_of_ble_eq_true rfl) (by decide) (by decide) ?_
    refine rx_out rfl ?_
    have h := Option.some.inj (show some _ = some o from h)
    subst h
    exact hq2 _ rfl
theorem ct_Main_windowFrom {g : GG} {ad : Nat → Nat} {t : va_W} {x0 x1 x4 x11 x12 x18 x19 x20 x24 x25 x26 x27 x28 x29 x30 x31 x37 x39 x40 x41 x47 x48 x54 x56 x58 x60 x61 x63 x64 x65 x66 : Int32} {x2 x13 x14 x15 x16 x17 x21 x22 x23 x33 x34 x35 x42 x43 x44 x45 x46 x49 x50 x51 x52 x53 x62 x67 : Nat → Int32} {x32 : Int64} {x36 x38 x55 x57 : Nat → Int64} {N : Nat} {Tap_eventCount : Int32} {Cl_count : Int32} {Cl_tellers : Nat → Int32} {Cl_kinds : Nat → Int32} {Cl_events : Nat → Int32} {Cl_firsts : Nat → Int32} {Cl_lasts : Nat → Int32} {Co_doubted : Int32} {p1 : Int32} {o : (Int32) ⊕ String} (h : f_Main_windowFrom N Tap_eventCount Cl_count Cl_tellers Cl_kinds Cl_events Cl_firsts Cl_lasts Co_doubted p1 = some o) : Ct g mX9_windowFrom 7 2 12 [.ref (ad 0), .int p1] (wlX g ad x0 x1 x2 Tap_eventCount x4 Cl_count Cl_tellers Cl_kinds Cl_events Cl_firsts Cl_lasts x11 x12 x13 x14 x15 x16 x17 x18 x19 x20 x21 x22 x23 x24 x25 x26 x27 x28 x29 x30 x31 x32 x33 x34 x35 x36 x37 x38 x39 x40 x41 x42 x43 x44 x45 x46 x47 x48 x49 x50 x51 x52 x53 x54 x55 x56 x57 x58 Co_doubted x60 x61 x62 x63 x64 x65 x66 x67 ++ t) (Dt o (fun q => some (.int q)) (fun q => (wlX g ad x0 x1 x2 Tap_eventCount x4 Cl_count Cl_tellers Cl_kinds Cl_events Cl_firsts Cl_lasts x11 x12 x13 x14 x15 x16 x17 x18 x19 x20 x21 x22 x23 x24 x25 x26 x27 x28 x29 x30 x31 x32 x33 x34 x35 x36 x37 x38 x39 x40 x41 x42 x43 x44 x45 x46 x47 x48 x49 x50 x51 x52 x53 x54 x55 x56 x57 x58 Co_doubted x60 x61 x62 x63 x64 x65 x66 x67 ++ t)) (wlX g ad x0 x1 x2 Tap_eventCount x4 Cl_count Cl_tellers Cl_kinds Cl_events Cl_firsts Cl_lasts x11 x12 x13 x14 x15 x16 x17 x18 x19 x20 x21 x22 x23 x24 x25 x26 x27 x28 x29 x30 x31 x32 x33 x34 x35 x36 x37 x38 x39 x40 x41 x42 x43 x44 x45 x46 x47 x48 x49 x50 x51 x52 x53 x54 x55 x56 x57 x58 Co_doubted x60 x61 x62 x63 x64 x65 x66 x67 ++ t)) := Ct.ofR (by decide +kernel) rfl (Nat.le_of_ble_eq_true rfl) (rt_Main_windowFrom h (fun q e => by subst e; exact ⟨rfl, rfl⟩) (fun E e => by subst e; exact ⟨rfl, rfl⟩))
set_option maxRecDepth 20000 in
set_option maxHeartbeats 4000000 in
theorem rt_Main_windowTo {g : GG} {ad : Nat → Nat} {t : va_W} {x0 x1 x4 x11 x12 x18 x19 x20 x24 x25 x26 x27 x28 x29 x30 x31 x37 x39 x40 x41 x47 x48 x54 x56 x58 x60 x61 x63 x64 x65 x66 : Int32} {x2 x13 x14 x15 x16 x17 x21 x22 x23 x33 x34 x35 x42 x43 x44 x45 x46 x49 x50 x51 x52 x53 x62 x67 : Nat → Int32} {x32 : Int64} {x36 x38 x55 x57 : Nat → Int64} {N : Nat} {Tap_eventCount : Int32} {Cl_count : Int32} {Cl_tellers : Nat → Int32} {Cl_kinds : Nat → Int32} {Cl_events : Nat → Int32} {Cl_firsts : Nat → Int32} {Cl_lasts : Nat → Int32} {Co_doubted : Int32} {p1 : Int32} {o : (Int32) ⊕ String} {Q : Rs → va_W → Prop} (h : f_Main_windowTo N Tap_eventCount Cl_count Cl_tellers Cl_kinds Cl_events Cl_firsts Cl_lasts Co_doubted p1 = some o) (hq1 : ∀ q, o = .inl q → Q (.inl (some (.int q))) (wlX g ad x0 x1 x2 Tap_eventCount x4 Cl_count Cl_tellers Cl_kinds Cl_events Cl_firsts Cl_lasts x11 x12 x13 x14 x15 x16 x17 x18 x19 x20 x21 x22 x23 x24 x25 x26 x27 x28 x29 x30 x31 x32 x33 x34 x35 x36 x37 x38 x39 x40 x41 x42 x43 x44 x45 x46 x47 x48 x49 x50 x51 x52 x53 x54 x55 x56 x57 x58 Co_doubted x60 x61 x62 x63 x64 x65 x66 x67 ++ t)) (hq2 : ∀ E, o = .inr E → Q (.inr E) (wlX g ad x0 x1 x2 Tap_eventCount x4 Cl_count Cl_tellers Cl_kinds Cl_events Cl_firsts Cl_lasts x11 x12 x13 x14 x15 x16 x17 x18 x19 x20 x21 x22 x23 x24 x25 x26 x27 x28 x29 x30 x31 x32 x33 x34 x35 x36 x37 x38 x39 x40 x41 x42 x43 x44 x45 x46 x47 x48 x49 x50 x51 x52 x53 x54 x55 x56 x57 x58 Co_doubted x60 x61 x62 x63 x64 x65 x66 x67 ++ t)) : R g mX9_windowTo 7 2 12 0 [(0, .ref (ad 0)), (1, .int p1)] [] (wlX g ad x0 x1 x2 Tap_eventCount x4 Cl_count Cl_tellers Cl_kinds Cl_events Cl_firsts Cl_lasts x11 x12 x13 x14 x15 x16 x17 x18 x19 x20 x21 x22 x23 x24 x25 x26 x27 x28 x29 x30 x31 x32 x33 x34 x35 x36 x37 x38 x39 x40 x41 x42 x43 x44 x45 x46 x47 x48 x49 x50 x51 x52 x53 x54 x55 x56 x57 x58 Co_doubted x60 x61 x62 x63 x64 x65 x66 x67 ++ t) Q := by
  unfold f_Main_windowTo at h
  refine r_aload_n 0 dX9_windowTo_0 rfl ?_
  refine r_iload_n 1 dX9_windowTo_1 rfl ?_
  obtain ⟨r928, hc929, h⟩ := ob (fun z9 => z9) rfl h
  rcases r928 with q930 | E937
  · refine c_Xv (rest := []) 1 6 _ dX9_windowTo_2 kv_X9_192 (ct_Main_needEvent hc929) rfl rfl lX_0 rfl (Nat.le_of_ble_eq_true rfl) (by decide) (by decide) ?_
    try dsimp only [Sum.elim_inl, Sum.elim_inr] at h
    refine r_aload_n 0 dX9_windowTo_5 rfl ?_
    refine r_iload_n 1 dX9_windowTo_6 rfl ?_
    obtain ⟨r931, hc932, h⟩ := ob (fun z9 => z9) rfl h
    rcases r931 with q933 | E936
    · refine c_Xv (rest := []) 0 0 _ dX9_windowTo_7 kv_X9_198 (ct_Main_needWindow hc932) rfl rfl lX_0 rfl (Nat.le_of_ble_eq_true rfl) (by decide) (by decide) ?_
      try dsimp only [Sum.elim_inl, Sum.elim_inr] at h
      refine r_aload_n 0 dX9_windowTo_10 rfl ?_
      refine r_getf (v := .ref (ad 26)) _ dX9_windowTo_11 fl_X9_39 lX_0 rfl ?_
      refine r_iload_n 1 dX9_windowTo_14 rfl ?_
      refine r_aload_n 0 dX9_windowTo_15 rfl ?_
      refine r_getf (v := .ref (ad 71)) _ dX9_windowTo_16 fl_X9_48 lX_0 rfl ?_
      refine r_getf (v := .int Co_doubted) _ dX9_windowTo_19 fl_X9_162 lX_71 rfl ?_
      obtain ⟨r934, hc935, h⟩ := ob (fun z9 => z9) rfl h
      refine c_V (rest := []) 0 0 _ dX9_windowTo_22 kv_X9_204 (ct_Ve_lastHour hc935) rfl rfl lX_26 rfl (Nat.le_of_ble_eq_true rfl) (by decide) (by decide) ?_
      refine r_iret dX9_windowTo_25 rfl ?_
      have h := Option.some.inj (show some _ = some o from h)
      subst h
      exact hq1 _ rfl
    · refine c_Xt (rest := []) 0 0 _ dX9_windowTo_7 kv_X9_198 (ct_Main_needWindow hc932) rfl rfl lX_0 rfl (Nat.le_of_ble_eq_true rfl) (by decide) (by decide) ?_
      refine rx_out rfl ?_
      have h := Option.some.inj (show some _ = some o from h)
      subst h
      exact hq2 _ rfl
  · refine c_Xt (rest := []) 1 6 _ dX9_windowTo_2 kv_X9_192 (ct_Main_needEvent hc929) rfl rfl lX_0 rfl (Nat.le_of_ble_eq_true rfl) (by decide) (by decide) ?_
    refine rx_out rfl ?_
    have h := Option.some.inj (show some _ = some o from h)
    subst h
    exact hq2 _ rfl
theorem ct_Main_windowTo {g : GG} {ad : Nat → Nat} {t : va_W} {x0 x1 x4 x11 x12 x18 x19 x20 x24 x25 x26 x27 x28 x29 x30 x31 x37 x39 x40 x41 x47 x48 x54 x56 x58 x60 x61 x63 x64 x65 x66 : Int32} {x2 x13 x14 x15 x16 x17 x21 x22 x23 x33 x34 x35 x42 x43 x44 x45 x46 x49 x50 x51 x52 x53 x62 x67 : Nat → Int32} {x32 : Int64} {x36 x38 x55 x57 : Nat → Int64} {N : Nat} {Tap_eventCount : Int32} {Cl_count : Int32} {Cl_tellers : Nat → Int32} {Cl_kinds : Nat → Int32} {Cl_events : Nat → Int32} {Cl_firsts : Nat → Int32} {Cl_lasts : Nat → Int32} {Co_doubted : Int32} {p1 : Int32} {o : (Int32) ⊕ String} (h : f_Main_windowTo N Tap_eventCount Cl_count Cl_tellers Cl_kinds Cl_events Cl_firsts Cl_lasts Co_doubted p1 = some o) : Ct g mX9_windowTo 7 2 12 [.ref (ad 0), .int p1] (wlX g ad x0 x1 x2 Tap_eventCount x4 Cl_count Cl_tellers Cl_kinds Cl_events Cl_firsts Cl_lasts x11 x12 x13 x14 x15 x16 x17 x18 x19 x20 x21 x22 x23 x24 x25 x26 x27 x28 x29 x30 x31 x32 x33 x34 x35 x36 x37 x38 x39 x40 x41 x42 x43 x44 x45 x46 x47 x48 x49 x50 x51 x52 x53 x54 x55 x56 x57 x58 Co_doubted x60 x61 x62 x63 x64 x65 x66 x67 ++ t) (Dt o (fun q => some (.int q)) (fun q => (wlX g ad x0 x1 x2 Tap_eventCount x4 Cl_count Cl_tellers Cl_kinds Cl_events Cl_firsts Cl_lasts x11 x12 x13 x14 x15 x16 x17 x18 x19 x20 x21 x22 x23 x24 x25 x26 x27 x28 x29 x30 x31 x32 x33 x34 x35 x36 x37 x38 x39 x40 x41 x42 x43 x44 x45 x46 x47 x48 x49 x50 x51 x52 x53 x54 x55 x56 x57 x58 Co_doubted x60 x61 x62 x63 x64 x65 x66 x67 ++ t)) (wlX g ad x0 x1 x2 Tap_eventCount x4 Cl_count Cl_tellers Cl_kinds Cl_events Cl_firsts Cl_lasts x11 x12 x13 x14 x15 x16 x17 x18 x19 x20 x21 x22 x23 x24 x25 x26 x27 x28 x29 x30 x31 x32 x33 x34 x35 x36 x37 x38 x39 x40 x41 x42 x43 x44 x45 x46 x47 x48 x49 x50 x51 x52 x53 x54 x55 x56 x57 x58 Co_doubted x60 x61 x62 x63 x64 x65 x66 x67 ++ t)) := Ct.ofR (by decide +kernel) rfl (Nat.le_of_ble_eq_true rfl) (rt_Main_windowTo h (fun q e => by subst e; exact ⟨rfl, rfl⟩) (fun E e => by subst e; exact ⟨rfl, rfl⟩))
set_option maxRecDepth 20000 in
set_option maxHeartbeats 4000000 in
theorem rt_Ve_gatherAhead {g : GG} {ad : Nat → Nat} {t : va_W} {x0 x1 x3 x4 x11 x12 x18 x19 x20 x24 x25 x26 x27 x28 x29 x30 x31 x37 x39 x40 x41 x47 x48 x54 x56 x58 x59 x60 x61 x63 x64 x65 x66 : Int32} {x2 x10 x13 x14 x15 x16 x17 x21 x23 x33 x34 x35 x42 x43 x44 x45 x46 x49 x50 x51 x52 x53 x62 x67 : Nat → Int32} {x32 : Int64} {x36 x38 x55 x57 : Nat → Int64} {N : Nat} {Cl_count : Int32} {Cl_tellers : Nat → Int32} {Cl_kinds : Nat → Int32} {Cl_events : Nat → Int32} {Cl_firsts : Nat → Int32} {Ve_ahead : Nat → Int32} {p1 : Int32} {o : (Nat → Int32)} {Q : Rs → va_W → Prop} (h : f_Ve_gatherAhead N Cl_count Cl_tellers Cl_kinds Cl_events Cl_firsts Ve_ahead p1 = some o) (hq : Q (.inl (none)) (wlX g ad x0 x1 x2 x3 x4 Cl_count Cl_tellers Cl_kinds Cl_events Cl_firsts x10 x11 x12 x13 x14 x15 x16 x17 x18 x19 x20 x21 o x23 x24 x25 x26 x27 x28 x29 x30 x31 x32 x33 x34 x35 x36 x37 x38 x39 x40 x41 x42 x43 x44 x45 x46 x47 x48 x49 x50 x51 x52 x53 x54 x55 x56 x57 x58 x59 x60 x61 x62 x63 x64 x65 x66 x67 ++ t)) : R g mX8_gatherAhead 2 0 0 0 [(0, .ref (ad 26)), (1, .int p1)] [] (wlX g ad x0 x1 x2 x3 x4 Cl_count Cl_tellers Cl_kinds Cl_events Cl_firsts x10 x11 x12 x13 x14 x15 x16 x17 x18 x19 x20 x21 Ve_ahead x23 x24 x25 x26 x27 x28 x29 x30 x31 x32 x33 x34 x35 x36 x37 x38 x39 x40 x41 x42 x43 x44 x45 x46 x47 x48 x49 x50 x51 x52 x53 x54 x55 x56 x57 x58 x59 x60 x61 x62 x63 x64 x65 x66 x67 ++ t) Q := by
  unfold f_Ve_gatherAhead at h
  refine r_iconst (v := (0 : Int32)) dX8_gatherAhead_0 (by decide) ?_
  refine r_istore_n [(2, .int (0 : Int32)), (0, .ref (ad 26)), (1, .int p1)] dX8_gatherAhead_1 (by decide) rfl ?_
  refine r_ls [1, 2, 0] (ls2 := [(0, .ref (ad 26)), (1, .int p1), (2, .int (0 : Int32))]) rfl ?_
  have L1 : ∀ (n1 : Nat) (l2_1 : Int32) (Ve_ahead_1 : Nat → Int32), (fun z9 => z9) (lpS (f_Ve_gatherAhead_L2 N Cl_count Cl_tellers Cl_kinds Cl_events Cl_firsts p1) none n1 (l2_1, Ve_ahead_1)) = some o → R g mX8_gatherAhead 2 0 0 2 [(0, .ref (ad 26)), (1, .int p1), (2, .int l2_1)] [] (wlX g ad x0 x1 x2 x3 x4 Cl_count Cl_tellers Cl_kinds Cl_events Cl_firsts x10 x11 x12 x13 x14 x15 x16 x17 x18 x19 x20 x21 Ve_ahead_1 x23 x24 x25 x26 x27 x28 x29 x30 x31 x32 x33 x34 x35 x36 x37 x38 x39 x40 x41 x42 x43 x44 x45 x46 x47 x48 x49 x50 x51 x52 x53 x54 x55 x56 x57 x58 x59 x60 x61 x62 x63 x64 x65 x66 x67 ++ t) Q := by
    intro n1
    induction n1 with
    | zero => intro l2_1 Ve_ahead_1 h; exact nomatch (show (none : Option _) = some _ from h)
    | succ n1 ih1 =>
      intro l2_1 Ve_ahead_1 h
      have h : (fun z9 => (lC (f_Ve_gatherAhead_L2 N Cl_count Cl_tellers Cl_kinds Cl_events Cl_firsts p1) none n1 z9)) (f_Ve_gatherAhead_L2 N Cl_count Cl_tellers Cl_kinds Cl_events Cl_firsts p1 (l2_1, Ve_ahead_1)) = some o := h
      unfold f_Ve_gatherAhead_L2 at h
      try dsimp only at h
      refine r_iload_n 2 dX8_gatherAhead_2 rfl ?_
      refine r_bipush (v := (8 : Int32)) dX8_gatherAhead_3 (by decide) ?_
      refine r_icmp_ge (tgt := 23) dX8_gatherAhead_5 (by decide) (fun hc938 => ?_) (fun hc938 => ?_)
      · have h := ip (fun z9 => (lC (f_Ve_gatherAhead_L2 N Cl_count Cl_tellers Cl_kinds Cl_events Cl_firsts p1) none n1 z9)) hc938 h
        refine r_iconst (v := (0 : Int32)) dX8_gatherAhead_23 (by decide) ?_
        refine r_istore_n [(2, .int (0 : Int32)), (0, .ref (ad 26)), (1, .int p1)] dX8_gatherAhead_24 (by decide) rfl ?_
        refine r_ls [1, 2, 0] (ls2 := [(0, .ref (ad 26)), (1, .int p1), (2, .int (0 : Int32))]) rfl ?_
        have L2 : ∀ (n2 : Nat) (l2_2 : Int32) (Ve_ahead_2 : Nat → Int32), (fun z9 => (lC (f_Ve_gatherAhead_L2 N Cl_count Cl_tellers Cl_kinds Cl_events Cl_firsts p1) none n1 z9)) (lpS (f_Ve_gatherAhead_L25 Cl_count Cl_tellers Cl_kinds Cl_events Cl_firsts p1) (.inr none) n2 (l2_2, Ve_ahead_2)) = some o → R g mX8_gatherAhead 2 0 0 25 [(0, .ref (ad 26)), (1, .int p1), (2, .int l2_2)] [] (wlX g ad x0 x1 x2 x3 x4 Cl_count Cl_tellers Cl_kinds Cl_events Cl_firsts x10 x11 x12 x13 x14 x15 x16 x17 x18 x19 x20 x21 Ve_ahead_2 x23 x24 x25 x26 x27 x28 x29 x30 x31 x32 x33 x34 x35 x36 x37 x38 x39 x40 x41 x42 x43 x44 x45 x46 x47 x48 x49 x50 x51 x52 x53 x54 x55 x56 x57 x58 x59 x60 x61 x62 x63 x64 x65 x66 x67 ++ t) Q := by
          intro n2
          induction n2 with
          | zero => intro l2_2 Ve_ahead_2 h; exact nomatch (show (none : Option _) = some _ from h)
          | succ n2 ih2 =>
            intro l2_2 Ve_ahead_2 h
            have h : (fun z9 => (lC (f_Ve_gatherAhead_L2 N Cl_count Cl_tellers Cl_kinds Cl_events Cl_firsts p1) none n1 (lC (f_Ve_gatherAhead_L25 Cl_count Cl_tellers Cl_kinds Cl_events Cl_firsts p1) (.inr none) n2 z9))) (f_Ve_gatherAhead_L25 Cl_count Cl_tellers Cl_kinds Cl_events Cl_firsts p1 (l2_2, Ve_ahead_2)) = some o := h
            unfold f_Ve_gatherAhead_L25 at h
            try dsimp only at h
            refine r_iload_n 2 dX8_gatherAhead_25 rfl ?_
            refine r_aload_n 0 dX8_gatherAhead_26 rfl ?_
            refine r_getf (v := .ref (ad 3)) _ dX8_gatherAhead_27 fl_X8_9 lX_26 rfl ?_
            refine r_getf (v := .ref (ad 4)) _ dX8_gatherAhead_30 fl_X8_38 lX_3 rfl ?_
            refine r_getf (v := .int Cl_count) _ dX8_gatherAhead_33 fl_X8_44 lX_4 rfl ?_
            refine r_icmp_ge (tgt := 132) dX8_gatherAhead_36 (by decide) (fun hc939 => ?_) (fun hc939 => ?_)
            · have h := ip (fun z9 => (lC (f_Ve_gatherAhead_L2 N Cl_count Cl_tellers Cl_kinds Cl_events Cl_firsts p1) none n1 (lC (f_Ve_gatherAhead_L25 Cl_count Cl_tellers Cl_kinds Cl_events Cl_firsts p1) (.inr none) n2 z9))) hc939 h
              refine r_vret dX8_gatherAhead_132 rfl ?_
              have h := Option.some.inj (show some _ = some o from h)
              subst h
              exact hq
            · have h := iq (fun z9 => (lC (f_Ve_gatherAhead_L2 N Cl_count Cl_tellers Cl_kinds Cl_events Cl_firsts p1) none n1 (lC (f_Ve_gatherAhead_L25 Cl_count Cl_tellers Cl_kinds Cl_events Cl_firsts p1) (.inr none) n2 z9))) hc939 h
              refine r_aload_n 0 dX8_gatherAhead_39 rfl ?_
              refine r_getf (v := .ref (ad 3)) _ dX8_gatherAhead_40 fl_X8_9 lX_26 rfl ?_
              refine r_getf (v := .ref (ad 4)) _ dX8_gatherAhead_43 fl_X8_38 lX_3 rfl ?_
              refine r_getf (v := .ref (ad 7)) _ dX8_gatherAhead_46 fl_X8_120 lX_4 rfl ?_
              refine r_iload_n 2 dX8_gatherAhead_49 rfl ?_
              refine c_V (rest := []) 0 0 _ dX8_gatherAhead_50 kv_X8_56 (ct_Row_get lX_7 lX_8 (Nat.le_of_ble_eq_true rfl)) rfl rfl lX_7 rfl (Nat.le_of_ble_eq_true rfl) (by decide) (by decide) ?_
              refine r_iconst (v := (1 : Int32)) dX8_gatherAhead_53 (by decide) ?_
              refine r_icmp_ne (tgt := 126) dX8_gatherAhead_54 (by decide) (fun hc940 => ?_) (fun hc940 => ?_)
              · have h := iq (fun z9 => (lC (f_Ve_gatherAhead_L2 N Cl_count Cl_tellers Cl_kinds Cl_events Cl_firsts p1) none n1 (lC (f_Ve_gatherAhead_L25 Cl_count Cl_tellers Cl_kinds Cl_events Cl_firsts p1) (.inr none) n2 z9))) hc940 h
                refine r_iinc (v2 := (l2_2 + (1 : Int32))) 2 [(2, .int (l2_2 + (1 : Int32))), (0, .ref (ad 26)), (1, .int p1)] dX8_gatherAhead_126 rfl rfl (by decide) rfl ?_
                refine r_goto (tgt := 25) dX8_gatherAhead_129 (by decide) ?_
                refine r_ls [1, 2, 0] (ls2 := [(0, .ref (ad 26)), (1, .int p1), (2, .int (l2_2 + (1 : Int32)))]) rfl ?_
                exact ih2 (l2_2 + (1 : Int32)) Ve_ahead_2 h
              · have h := ip (fun z9 => (lC (f_Ve_gatherAhead_L2 N Cl_count Cl_tellers Cl_kinds Cl_events Cl_firsts p1) none n1 (lC (f_Ve_gatherAhead_L25 Cl_count Cl_tellers Cl_kinds Cl_events Cl_firsts p1) (.inr none) n2 z9))) hc940 h
                refine r_iload_n 1 dX8_gatherAhead_57 rfl ?_
                refine r_aload_n 0 dX8_gatherAhead_58 rfl ?_
                refine r_getf (v := .ref (ad 3)) _ dX8_gatherAhead_59 fl_X8_9 lX_26 rfl ?_
                refine r_getf (v := .ref (ad 4)) _ dX8_gatherAhead_62 fl_X8_38 lX_3 rfl ?_
                refine r_getf (v := .ref (ad 5)) _ dX8_gatherAhead_65 fl_X8_53 lX_4 rfl ?_
                refine r_iload_n 2 dX8_gatherAhead_68 rfl ?_
                refine c_V (rest := [.int p1]) 0 0 _ dX8_gatherAhead_69 kv_X8_56 (ct_Row_get lX_5 lX_6 (Nat.le_of_ble_eq_true rfl)) rfl rfl lX_5 rfl (Nat.le_of_ble_eq_true rfl) (by decide) (by decide) ?_
                refine c_SN (rest := []) 0 0 dX8_gatherAhead_72 kq_X8_66 (ct_Main_has rfl) rfl rfl (Nat.le_of_ble_eq_true rfl) (by decide) (by decide) ?_
                refine r_if_eq (tgt := 126) dX8_gatherAhead_75 (by decide) (fun hc941 => ?_) (fun hc941 => ?_)
                · have h := ip (fun z9 => (lC (f_Ve_gatherAhead_L2 N Cl_count Cl_tellers Cl_kinds Cl_events Cl_firsts p1) none n1 (lC (f_Ve_gatherAhead_L25 Cl_count Cl_tellers Cl_kinds Cl_events Cl_firsts p1) (.inr none) n2 z9))) hc941 h
                  refine r_iinc (v2 := (l2_2 + (1 : Int32))) 2 [(2, .int (l2_2 + (1 : Int32))), (0, .ref (ad 26)), (1, .int p1)] dX8_gatherAhead_126 rfl rfl (by decide) rfl ?_
                  refine r_goto (tgt := 25) dX8_gatherAhead_129 (by decide) ?_
                  refine r_ls [1, 2, 0] (ls2 := [(0, .ref (ad 26)), (1, .int p1), (2, .int (l2_2 + (1 : Int32)))]) rfl ?_
                  exact ih2 (l2_2 + (1 : Int32)) Ve_ahead_2 h
                · have h := iq (fun z9 => (lC (f_Ve_gatherAhead_L2 N Cl_count Cl_tellers Cl_kinds Cl_events Cl_firsts p1) none n1 (lC (f_Ve_gatherAhead_L25 Cl_count Cl_tellers Cl_kinds Cl_events Cl_firsts p1) (.inr none) n2 z9))) hc941 h
                  refine r_aload_n 0 dX8_gatherAhead_78 rfl ?_
                  refine r_getf (v := .ref (ad 3)) _ dX8_gatherAhead_79 fl_X8_9 lX_26 rfl ?_
                  refine r_getf (v := .ref (ad 4)) _ dX8_gatherAhead_82 fl_X8_38 lX_3 rfl ?_
                  refine r_getf (v := .ref (ad 11)) _ dX8_gatherAhead_85 fl_X8_99 lX_4 rfl ?_
                  refine r_iload_n 2 dX8_gatherAhead_88 rfl ?_
                  refine c_V (rest := []) 0 0 _ dX8_gatherAhead_89 kv_X8_56 (ct_Row_get lX_11 lX_12 (Nat.le_of_ble_eq_true rfl)) rfl rfl lX_11 rfl (Nat.le_of_ble_eq_true rfl) (by decide) (by decide) ?_
                  refine r_istore_n [(3, .int (rget 40 Cl_firsts l2_2)), (0, .ref (ad 26)), (1, .int p1), (2, .int l2_2)] dX8_gatherAhead_92 (by decide) rfl ?_
                  refine r_aload_n 1 dX8_gatherAhead_93 rfl ?_
                  refine r_getf (v := .ref (ad 29)) _ dX8_gatherAhead_94 fl_X8_24 lX_26 rfl ?_
                  refine r_iload_n 0 dX8_gatherAhead_97 rfl ?_
                  refine r_aload_n 1 dX8_gatherAhead_98 rfl ?_
                  refine r_getf (v := .ref (ad 29)) _ dX8_gatherAhead_99 fl_X8_24 lX_26 rfl ?_
                  refine r_iload_n 0 dX8_gatherAhead_102 rfl ?_
                  refine c_V (rest := [.int (rget 40 Cl_firsts l2_2), .ref (ad 29)]) 0 0 _ dX8_gatherAhead_103 kv_X8_56 (ct_Row_get lX_29 lX_30 (Nat.le_of_ble_eq_true rfl)) rfl rfl lX_29 rfl (Nat.le_of_ble_eq_true rfl) (by decide) (by decide) ?_
                  refine r_iconst (v := (1 : Int32)) dX8_gatherAhead_106 (by decide) ?_
                  refine r_aload_n 1 dX8_gatherAhead_107 rfl ?_
                  refine r_getf (v := .ref (ad 3)) _ dX8_gatherAhead_108 fl_X8_9 lX_26 rfl ?_
                  refine r_getf (v := .ref (ad 4)) _ dX8_gatherAhead_111 fl_X8_38 lX_3 rfl ?_
                  refine r_getf (v := .ref (ad 9)) _ dX8_gatherAhead_114 fl_X8_123 lX_4 rfl ?_
                  refine r_iload_n 3 dX8_gatherAhead_117 rfl ?_
                  refine c_V (rest := [.int (1 : Int32), .int (rget 8 Ve_ahead_2 (rget 40 Cl_firsts l2_2)), .int (rget 40 Cl_firsts l2_2), .ref (ad 29)]) 0 0 _ dX8_gatherAhead_118 kv_X8_56 (ct_Row_get lX_9 lX_10 (Nat.le_of_ble_eq_true rfl)) rfl rfl lX_9 rfl (Nat.le_of_ble_eq_true rfl) (by decide) (by decide) ?_
                  refine r_ishl dX8_gatherAhead_121 ?_
                  refine r_ior dX8_gatherAhead_122 ?_
                  refine c_Vv (rest := []) 0 0 _ dX8_gatherAhead_123 kv_X8_34 (ct_Row_set lX_29 lX_30 (sX_22 _) (Nat.le_of_ble_eq_true rfl)) rfl rfl lX_29 rfl (Nat.le_of_ble_eq_true rfl) (by decide) (by decide) ?_
                  refine r_iinc (v2 := (l2_2 + (1 : Int32))) 3 [(2, .int (l2_2 + (1 : Int32))), (3, .int (rget 40 Cl_firsts l2_2)), (0, .ref (ad 26)), (1, .int p1)] dX8_gatherAhead_126 rfl rfl (by decide) rfl ?_
                  refine r_goto (tgt := 25) dX8_gatherAhead_129 (by decide) ?_
                  refine r_ls [2, 3, 0] (ls2 := [(0, .ref (ad 26)), (1, .int p1), (2, .int (l2_2 + (1 : Int32)))]) rfl ?_
                  exact ih2 (l2_2 + (1 : Int32)) (rset 8 Ve_ahead_2 (rget 40 Cl_firsts l2_2) ((rget 8 Ve_ahead_2 (rget 40 Cl_firsts l2_2)) ||| ((1 : Int32) <<< ((rget 40 Cl_events l2_2) &&& 31)))) h
        exact L2 _ (0 : Int32) Ve_ahead_1 h
      · have h := iq (fun z9 => (lC (f_Ve_gatherAhead_L2 N Cl_count Cl_tellers Cl_kinds Cl_events Cl_firsts p1) none n1 z9)) hc938 h
        refine r_aload_n 0 dX8_gatherAhead_8 rfl ?_
        refine r_getf (v := .ref (ad 29)) _ dX8_gatherAhead_9 fl_X8_24 lX_26 rfl ?_
        refine r_iload_n 2 dX8_gatherAhead_12 rfl ?_
        refine r_iconst (v := (0 : Int32)) dX8_gatherAhead_13 (by decide) ?_
        refine c_Vv (rest := []) 0 0 _ dX8_gatherAhead_14 kv_X8_34 (ct_Row_set lX_29 lX_30 (sX_22 _) (Nat.le_of_ble_eq_true rfl)) rfl rfl lX_29 rfl (Nat.le_of_ble_eq_true rfl) (by decide) (by decide) ?_
        refine r_iinc (v2 := (l2_1 + (1 : Int32))) 2 [(2, .int (l2_1 + (1 : Int32))), (0, .ref (ad 26)), (1, .int p1)] dX8_gatherAhead_17 rfl rfl (by decide) rfl ?_
        refine r_goto (tgt := 2) dX8_gatherAhead_20 (by decide) ?_
        refine r_ls [1, 2, 0] (ls2 := [(0, .ref (ad 26)), (1, .int p1), (2, .int (l2_1 + (1 : Int32)))]) rfl ?_
        exact ih1 (l2_1 + (1 : Int32)) (rset 8 Ve_ahead_1 l2_1 (0 : Int32)) h
  exact L1 _ (0 : Int32) Ve_ahead h
theorem ct_Ve_gatherAhead {g : GG} {ad : Nat → Nat} {t : va_W} {x0 x1 x3 x4 x11 x12 x18 x19 x20 x24 x25 x26 x27 x28 x29 x30 x31 x37 x39 x40 x41 x47 x48 x54 x56 x58 x59 x60 x61 x63 x64 x65 x66 : Int32} {x2 x10 x13 x14 x15 x16 x17 x21 x23 x33 x34 x35 x42 x43 x44 x45 x46 x49 x50 x51 x52 x53 x62 x67 : Nat → Int32} {x32 : Int64} {x36 x38 x55 x57 : Nat → Int64} {N : Nat} {Cl_count : Int32} {Cl_tellers : Nat → Int32} {Cl_kinds : Nat → Int32} {Cl_events : Nat → Int32} {Cl_firsts : Nat → Int32} {Ve_ahead : Nat → Int32} {p1 : Int32} {o : (Nat → Int32)} (h : f_Ve_gatherAhead N Cl_count Cl_tellers Cl_kinds Cl_events Cl_firsts Ve_ahead p1 = some o) : Ct g mX8_gatherAhead 2 0 0 [.ref (ad 26), .int p1] (wlX g ad x0 x1 x2 x3 x4 Cl_count Cl_tellers Cl_kinds Cl_events Cl_firsts x10 x11 x12 x13 x14 x15 x16 x17 x18 x19 x20 x21 Ve_ahead x23 x24 x25 x26 x27 x28 x29 x30 x31 x32 x33 x34 x35 x36 x37 x38 x39 x40 x41 x42 x43 x44 x45 x46 x47 x48 x49 x50 x51 x52 x53 x54 x55 x56 x57 x58 x59 x60 x61 x62 x63 x64 x65 x66 x67 ++ t) (Dv (none) (wlX g ad x0 x1 x2 x3 x4 Cl_count Cl_tellers Cl_kinds Cl_events Cl_firsts x10 x11 x12 x13 x14 x15 x16 x17 x18 x19 x20 x21 o x23 x24 x25 x26 x27 x28 x29 x30 x31 x32 x33 x34 x35 x36 x37 x38 x39 x40 x41 x42 x43 x44 x45 x46 x47 x48 x49 x50 x51 x52 x53 x54 x55 x56 x57 x58 x59 x60 x61 x62 x63 x64 x65 x66 x67 ++ t)) := Ct.ofR (by decide +kernel) rfl (Nat.le_of_ble_eq_true rfl) (rt_Ve_gatherAhead h ⟨rfl, rfl⟩)
set_option maxRecDepth 20000 in
set_option maxHeartbeats 4000000 in
theorem rt_Ve_nextEvent {g : GG} {ad : Nat → Nat} {t : va_W} {x0 x1 x4 x5 x11 x12 x18 x19 x20 x24 x25 x26 x27 x28 x29 x30 x31 x37 x39 x40 x41 x47 x48 x54 x56 x58 x59 x60 x61 x63 x64 x65 x66 : Int32} {x2 x6 x7 x8 x9 x10 x13 x14 x15 x16 x17 x21 x23 x33 x34 x35 x42 x43 x44 x45 x46 x49 x50 x51 x52 x53 x62 x67 : Nat → Int32} {x32 : Int64} {x36 x38 x55 x57 : Nat → Int64} {N : Nat} {Tap_eventCount : Int32} {Ve_ahead : Nat → Int32} {p1 : Int32} {o : Int32} {Q : Rs → va_W → Prop} (h : f_Ve_nextEvent N Tap_eventCount Ve_ahead p1 = some o) (hq : Q (.inl (some (.int o))) (wlX g ad x0 x1 x2 Tap_eventCount x4 x5 x6 x7 x8 x9 x10 x11 x12 x13 x14 x15 x16 x17 x18 x19 x20 x21 Ve_ahead x23 x24 x25 x26 x27 x28 x29 x30 x31 x32 x33 x34 x35 x36 x37 x38 x39 x40 x41 x42 x43 x44 x45 x46 x47 x48 x49 x50 x51 x52 x53 x54 x55 x56 x57 x58 x59 x60 x61 x62 x63 x64 x65 x66 x67 ++ t)) : R g mX8_nextEvent 2 0 0 0 [(0, .ref (ad 26)), (1, .int p1)] [] (wlX g ad x0 x1 x2 Tap_eventCount x4 x5 x6 x7 x8 x9 x10 x11 x12 x13 x14 x15 x16 x17 x18 x19 x20 x21 Ve_ahead x23 x24 x25 x26 x27 x28 x29 x30 x31 x32 x33 x34 x35 x36 x37 x38 x39 x40 x41 x42 x43 x44 x45 x46 x47 x48 x49 x50 x51 x52 x53 x54 x55 x56 x57 x58 x59 x60 x61 x62 x63 x64 x65 x66 x67 ++ t) Q := by
  unfold f_Ve_nextEvent at h
  refine r_iconst (v := (0 : Int32)) dX8_nextEvent_0 (by decide) ?_
  refine r_istore_n [(2, .int (0 : Int32)), (0, .ref (ad 26)), (1, .int p1)] dX8_nextEvent_1 (by decide) rfl ?_
  refine r_ls [1, 2, 0] (ls2 := [(0, .ref (ad 26)), (1, .int p1), (2, .int (0 : Int32))]) rfl ?_
  have L1 : ∀ (n1 : Nat) (l2_1 : Int32), (fun z9 => z9) (lpS (f_Ve_nextEvent_L2 Tap_eventCount Ve_ahead p1) none n1 l2_1) = some o → R g mX8_nextEvent 2 0 0 2 [(0, .ref (ad 26)), (1, .int p1), (2, .int l2_1)] [] (wlX g ad x0 x1 x2 Tap_eventCount x4 x5 x6 x7 x8 x9 x10 x11 x12 x13 x14 x15 x16 x17 x18 x19 x20 x21 Ve_ahead x23 x24 x25 x26 x27 x28 x29 x30 x31 x32 x33 x34 x35 x36 x37 x38 x39 x40 x41 x42 x43 x44 x45 x46 x47 x48 x49 x50 x51 x52 x53 x54 x55 x56 x57 x58 x59 x60 x61 x62 x63 x64 x65 x66 x67 ++ t) Q := by
    intro n1
    induction n1 with
    | zero => intro l2_1 h; exact nomatch (show (none : Option _) = some _ from h)
    | succ n1 ih1 =>
      intro l2_1 h
      have h : (fun z9 => (lC (f_Ve_nextEvent_L2 Tap_eventCount Ve_ahead p1) none n1 z9)) (f_Ve_nextEvent_L2 Tap_eventCount Ve_ahead p1 l2_1) = some o := h
      unfold f_Ve_nextEvent_L2 at h
      try dsimp only at h
      refine r_iload_n 2 dX8_nextEvent_2 rfl ?_
      refine r_aload_n 0 dX8_nextEvent_3 rfl ?_
      refine r_getf (v := .ref (ad 3)) _ dX8_nextEvent_4 fl_X8_9 lX_26 rfl ?_
      refine r_getf (v := .int Tap_eventCount) _ dX8_nextEvent_7 fl_X8_131 lX_3 rfl ?_
      refine r_icmp_ge (tgt := 44) dX8_nextEvent_10 (by decide) (fun hc942 => ?_) (fun hc942 => ?_)
      · have h := ip (fun z9 => (lC (f_Ve_nextEvent_L2 Tap_eventCount Ve_ahead p1) none n1 z9)) hc942 h
        refine r_iconst (v := (-1 : Int32)) dX8_nextEvent_44 (by decide) ?_
        refine r_iret dX8_nextEvent_45 rfl ?_
        have h := Option.some.inj (show some _ = some o from h)
        subst h
        exact hq
      · have h := iq (fun z9 => (lC (f_Ve_nextEvent_L2 Tap_eventCount Ve_ahead p1) none n1 z9)) hc942 h
        refine r_iload_n 1 dX8_nextEvent_13 rfl ?_
        refine r_iload_n 2 dX8_nextEvent_14 rfl ?_
        refine c_SN (rest := []) 0 0 dX8_nextEvent_15 kq_X8_66 (ct_Main_has rfl) rfl rfl (Nat.le_of_ble_eq_true rfl) (by decide) (by decide) ?_
        refine r_if_ne (tgt := 38) dX8_nextEvent_18 (by decide) (fun hc943 => ?_) (fun hc943 => ?_)
        · have h := iq (fun z9 => (lC (f_Ve_nextEvent_L2 Tap_eventCount Ve_ahead p1) none n1 z9)) hc943 h
          refine r_iinc (v2 := (l2_1 + (1 : Int32))) 2 [(2, .int (l2_1 + (1 : Int32))), (0, .ref (ad 26)), (1, .int p1)] dX8_nextEvent_38 rfl rfl (by decide) rfl ?_
          refine r_goto (tgt := 2) dX8_nextEvent_41 (by decide) ?_
          refine r_ls [1, 2, 0] (ls2 := [(0, .ref (ad 26)), (1, .int p1), (2, .int (l2_1 + (1 : Int32)))]) rfl ?_
          exact ih1 (l2_1 + (1 : Int32)) h
        · have h := ip (fun z9 => (lC (f_Ve_nextEvent_L2 Tap_eventCount Ve_ahead p1) none n1 z9)) hc943 h
          refine r_aload_n 0 dX8_nextEvent_21 rfl ?_
          refine r_getf (v := .ref (ad 29)) _ dX8_nextEvent_22 fl_X8_24 lX_26 rfl ?_
          refine r_iload_n 2 dX8_nextEvent_25 rfl ?_
          refine c_V (rest := []) 0 0 _ dX8_nextEvent_26 kv_X8_56 (ct_Row_get lX_29 lX_30 (Nat.le_of_ble_eq_true rfl)) rfl rfl lX_29 rfl (Nat.le_of_ble_eq_true rfl) (by decide) (by decide) ?_
          refine r_iload_n 1 dX8_nextEvent_29 rfl ?_
          refine r_iconst (v := (-1 : Int32)) dX8_nextEvent_30 (by decide) ?_
          refine r_ixor dX8_nextEvent_31 ?_
          refine r_iand dX8_nextEvent_32 ?_
          refine r_if_ne (tgt := 38) dX8_nextEvent_33 (by decide) (fun hc944 => ?_) (fun hc944 => ?_)
          · have h := iq (fun z9 => (lC (f_Ve_nextEvent_L2 Tap_eventCount Ve_ahead p1) none n1 z9)) hc944 h
            refine r_iinc (v2 := (l2_1 + (1 : Int32))) 2 [(2, .int (l2_1 + (1 : Int32))), (0, .ref (ad 26)), (1, .int p1)] dX8_nextEvent_38 rfl rfl (by decide) rfl ?_
            refine r_goto (tgt := 2) dX8_nextEvent_41 (by decide) ?_
            refine r_ls [1, 2, 0] (ls2 := [(0, .ref (ad 26)), (1, .int p1), (2, .int (l2_1 + (1 : Int32)))]) rfl ?_
            exact ih1 (l2_1 + (1 : Int32)) h
          · have h := ip (fun z9 => (lC (f_Ve_nextEvent_L2 Tap_eventCount Ve_ahead p1) none n1 z9)) hc944 h
            refine r_iload_n 2 dX8_nextEvent_36 rfl ?_
            refine r_iret dX8_nextEvent_37 rfl ?_
            have h := Option.some.inj (show some _ = some o from h)
            subst h
            exact hq
  exact L1 _ (0 : Int32) h
theorem ct_Ve_nextEvent {g : GG} {ad : Nat → Nat} {t : va_W} {x0 x1 x4 x5 x11 x12 x18 x19 x20 x24 x25 x26 x27 x28 x29 x30 x31 x37 x39 x40 x41 x47 x48 x54 x56 x58 x59 x60 x61 x63 x64 x65 x66 : Int32} {x2 x6 x7 x8 x9 x10 x13 x14 x15 x16 x17 x21 x23 x33 x34 x35 x42 x43 x44 x45 x46 x49 x50 x51 x52 x53 x62 x67 : Nat → Int32} {x32 : Int64} {x36 x38 x55 x57 : Nat → Int64} {N : Nat} {Tap_eventCount : Int32} {Ve_ahead : Nat → Int32} {p1 : Int32} {o : Int32} (h : f_Ve_nextEvent N Tap_eventCount Ve_ahead p1 = some o) : Ct g mX8_nextEvent 2 0 0 [.ref (ad 26), .int p1] (wlX g ad x0 x1 x2 Tap_eventCount x4 x5 x6 x7 x8 x9 x10 x11 x12 x13 x14 x15 x16 x17 x18 x19 x20 x21 Ve_ahead x23 x24 x25 x26 x27 x28 x29 x30 x31 x32 x33 x34 x35 x36 x37 x38 x39 x40 x41 x42 x43 x44 x45 x46 x47 x48 x49 x50 x51 x52 x53 x54 x55 x56 x57 x58 x59 x60 x61 x62 x63 x64 x65 x66 x67 ++ t) (Dv (some (.int o)) (wlX g ad x0 x1 x2 Tap_eventCount x4 x5 x6 x7 x8 x9 x10 x11 x12 x13 x14 x15 x16 x17 x18 x19 x20 x21 Ve_ahead x23 x24 x25 x26 x27 x28 x29 x30 x31 x32 x33 x34 x35 x36 x37 x38 x39 x40 x41 x42 x43 x44 x45 x46 x47 x48 x49 x50 x51 x52 x53 x54 x55 x56 x57 x58 x59 x60 x61 x62 x63 x64 x65 x66 x67 ++ t)) := Ct.ofR (by decide +kernel) rfl (Nat.le_of_ble_eq_true rfl) (rt_Ve_nextEvent h ⟨rfl, rfl⟩)
set_option maxRecDepth 20000 in
set_option maxHeartbeats 4000000 in
theorem rt_Ve_arrange {g : GG} {ad : Nat → Nat} {t : va_W} {x0 x1 x11 x12 x24 x25 x26 x27 x28 x29 x30 x31 x37 x39 x40 x41 x47 x48 x54 x56 x58 x59 x60 x61 x63 x64 x65 x66 : Int32} {x2 x10 x13 x14 x15 x16 x17 x33 x34 x35 x42 x43 x44 x45 x46 x49 x50 x51 x52 x53 x62 x67 : Nat → Int32} {x32 : Int64} {x36 x38 x55 x57 : Nat → Int64} {N : Nat} {Tap_eventCount : Int32} {Tap_tellerCount : Int32} {Cl_count : Int32} {Cl_tellers : Nat → Int32} {Cl_kinds : Nat → Int32} {Cl_events : Nat → Int32} {Cl_firsts : Nat → Int32} {Ve_judged : Int32} {Ve_liarSet : Int32} {Ve_setCount : Int32} {Ve_against : Nat → Int32} {Ve_ahead : Nat → Int32} {Ve_order : Nat → Int32} {p1 : Int32} {o : Int32 × Int32 × Int32 × Int32 × (Nat → Int32) × (Nat → Int32)} {Q : Rs → va_W → Prop} (h : f_Ve_arrange N Tap_eventCount Tap_tellerCount Cl_count Cl_tellers Cl_kinds Cl_events Cl_firsts Ve_judged Ve_liarSet Ve_setCount Ve_against Ve_ahead Ve_order p1 = some o) (hq : Q (.inl (some (.int o.1))) (wlX g ad x0 x1 x2 Tap_eventCount Tap_tellerCount Cl_count Cl_tellers Cl_kinds Cl_events Cl_firsts x10 x11 x12 x13 x14 x15 x16 x17 o.2.1 o.2.2.1 o.2.2.2.1 Ve_against o.2.2.2.2.1 o.2.2.2.2.2 x24 x25 x26 x27 x28 x29 x30 x31 x32 x33 x34 x35 x36 x37 x38 x39 x40 x41 x42 x43 x44 x45 x46 x47 x48 x49 x50 x51 x52 x53 x54 x55 x56 x57 x58 x59 x60 x61 x62 x63 x64 x65 x66 x67 ++ t)) : R g mX8_arrange 5 0 0 0 [(0, .ref (ad 26)), (1, .int p1)] [] (wlX g ad x0 x1 x2 Tap_eventCount Tap_tellerCount Cl_count Cl_tellers Cl_kinds Cl_events Cl_firsts x10 x11 x12 x13 x14 x15 x16 x17 Ve_judged Ve_liarSet Ve_setCount Ve_against Ve_ahead Ve_order x24 x25 x26 x27 x28 x29 x30 x31 x32 x33 x34 x35 x36 x37 x38 x39 x40 x41 x42 x43 x44 x45 x46 x47 x48 x49 x50 x51 x52 x53 x54 x55 x56 x57 x58 x59 x60 x61 x62 x63 x64 x65 x66 x67 ++ t) Q := by
  unfold f_Ve_arrange at h
  refine r_aload_n 0 dX8_arrange_0 rfl ?_
  refine r_aload_n 0 dX8_arrange_1 rfl ?_
  refine r_iload_n 1 dX8_arrange_2 rfl ?_
  refine c_V (rest := [.ref (ad 26)]) 0 0 _ dX8_arrange_3 kv_X8_69 (ct_Ve_believedSet rfl) rfl rfl lX_26 rfl (Nat.le_of_ble_eq_true rfl) (by decide) (by decide) ?_
  refine r_aload_n 0 dX8_arrange_6 rfl ?_
  refine r_iload_n 1 dX8_arrange_7 rfl ?_
  obtain ⟨r945, hc946, h⟩ := ob (fun z9 => z9) rfl h
  refine c_V (rest := [.int (f_Ve_believedSet Tap_tellerCount p1), .ref (ad 26)]) 0 0 _ dX8_arrange_8 kv_X8_126 (ct_Ve_liarSet hc946) rfl rfl lX_26 rfl (Nat.le_of_ble_eq_true rfl) (by decide) (by decide) ?_
  refine r_iconst (v := (-1 : Int32)) dX8_arrange_11 (by decide) ?_
  refine r_ixor dX8_arrange_12 ?_
  refine r_iand dX8_arrange_13 ?_
  obtain ⟨r947, hc948, h⟩ := ob (fun z9 => z9) rfl h
  refine c_Vv (rest := []) 0 0 _ dX8_arrange_14 kv_X8_128 (ct_Ve_gatherAhead hc948) rfl rfl lX_26 rfl (Nat.le_of_ble_eq_true rfl) (by decide) (by decide) ?_
  refine r_iconst (v := (0 : Int32)) dX8_arrange_17 (by decide) ?_
  refine r_istore_n [(2, .int (0 : Int32)), (0, .ref (ad 26)), (1, .int p1)] dX8_arrange_18 (by decide) rfl ?_
  refine r_iconst (v := (0 : Int32)) dX8_arrange_19 (by decide) ?_
  refine r_istore_n [(3, .int (0 : Int32)), (2, .int (0 : Int32)), (0, .ref (ad 26)), (1, .int p1)] dX8_arrange_20 (by decide) rfl ?_
  refine r_ls [2, 1, 0] (ls2 := [(0, .ref (ad 26)), (2, .int (0 : Int32)), (3, .int (0 : Int32))]) rfl ?_
  have L1 : ∀ (n1 : Nat) (Ve_judged_c1 : Int32) (Ve_liarSet_c1 : Int32) (Ve_setCount_c1 : Int32) (l2_1 : Int32) (l3_1 : Int32) (Ve_order_1 : Nat → Int32), (fun z9 => z9) (lpS (f_Ve_arrange_L21 N Tap_eventCount r947 Ve_judged_c1 Ve_liarSet_c1 Ve_setCount_c1) none n1 (l2_1, l3_1, Ve_order_1)) = some o → R g mX8_arrange 5 0 0 21 [(0, .ref (ad 26)), (2, .int l2_1), (3, .int l3_1)] [] (wlX g ad x0 x1 x2 Tap_eventCount Tap_tellerCount Cl_count Cl_tellers Cl_kinds Cl_events Cl_firsts x10 x11 x12 x13 x14 x15 x16 x17 Ve_judged_c1 Ve_liarSet_c1 Ve_setCount_c1 Ve_against r947 Ve_order_1 x24 x25 x26 x27 x28 x29 x30 x31 x32 x33 x34 x35 x36 x37 x38 x39 x40 x41 x42 x43 x44 x45 x46 x47 x48 x49 x50 x51 x52 x53 x54 x55 x56 x57 x58 x59 x60 x61 x62 x63 x64 x65 x66 x67 ++ t) Q := by
    intro n1
    induction n1 with
    | zero => intro Ve_judged_c1 Ve_liarSet_c1 Ve_setCount_c1 l2_1 l3_1 Ve_order_1 h; exact nomatch (show (none : Option _) = some _ from h)
    | succ n1 ih1 =>
      intro Ve_judged_c1 Ve_liarSet_c1 Ve_setCount_c1 l2_1 l3_1 Ve_order_1 h
      have h : (fun z9 => (lC (f_Ve_arrange_L21 N Tap_eventCount r947 Ve_judged_c1 Ve_liarSet_c1 Ve_setCount_c1) none n1 z9)) (f_Ve_arrange_L21 N Tap_eventCount r947 Ve_judged_c1 Ve_liarSet_c1 Ve_setCount_c1 (l2_1, l3_1, Ve_order_1)) = some o := h
      unfold f_Ve_arrange_L21 at h
      try dsimp only at h
      refine r_iload_n 2 dX8_arrange_21 rfl ?_
      refine r_aload_n 0 dX8_arrange_22 rfl ?_
      refine r_getf (v := .ref (ad 3)) _ dX8_arrange_23 fl_X8_9 lX_26 rfl ?_
      refine r_getf (v := .int Tap_eventCount) _ dX8_arrange_26 fl_X8_131 lX_3 rfl ?_
      refine r_icmp_ge (tgt := 69) dX8_arrange_29 (by decide) (fun hc949 => ?_) (fun hc949 => ?_)
      · have h := ip (fun z9 => (lC (f_Ve_arrange_L21 N Tap_eventCount r947 Ve_judged_c1 Ve_liarSet_c1 Ve_setCount_c1) none n1 z9)) hc949 h
        refine r_iconst (v := (1 : Int32)) dX8_arrange_69 (by decide) ?_
        refine r_zret dX8_arrange_70 rfl (by decide) ?_
        have h := Option.some.inj (show some _ = some o from h)
        subst h
        exact hq
      · have h := iq (fun z9 => (lC (f_Ve_arrange_L21 N Tap_eventCount r947 Ve_judged_c1 Ve_liarSet_c1 Ve_setCount_c1) none n1 z9)) hc949 h
        refine r_aload_n 0 dX8_arrange_32 rfl ?_
        refine r_iload_n 1 dX8_arrange_33 rfl ?_
        obtain ⟨r950, hc951, h⟩ := ob (fun z9 => (lC (f_Ve_arrange_L21 N Tap_eventCount r947 Ve_judged_c1 Ve_liarSet_c1 Ve_setCount_c1) none n1 z9)) rfl h
        refine c_V (rest := []) 0 0 _ dX8_arrange_34 kv_X8_134 (ct_Ve_nextEvent hc951) rfl rfl lX_26 rfl (Nat.le_of_ble_eq_true rfl) (by decide) (by decide) ?_
        refine r_istore [(4, .int r950), (0, .ref (ad 26)), (2, .int l2_1), (3, .int l3_1)] dX8_arrange_37 (by decide) rfl ?_
        refine r_iload 0 dX8_arrange_39 rfl ?_
        refine r_if_ge (tgt := 46) dX8_arrange_41 (by decide) (fun hc952 => ?_) (fun hc952 => ?_)
        · have h := ip (fun z9 => (lC (f_Ve_arrange_L21 N Tap_eventCount r947 Ve_judged_c1 Ve_liarSet_c1 Ve_setCount_c1) none n1 z9)) hc952 h
          refine r_aload_n 1 dX8_arrange_46 rfl ?_
          refine r_getf (v := .ref (ad 31)) _ dX8_arrange_47 fl_X8_27 lX_26 rfl ?_
          refine r_iload_n 3 dX8_arrange_50 rfl ?_
          refine r_iload 0 dX8_arrange_51 rfl ?_
          refine c_Vv (rest := []) 0 0 _ dX8_arrange_53 kv_X8_34 (ct_Row_set lX_31 lX_32 (sX_23 _) (Nat.le_of_ble_eq_true rfl)) rfl rfl lX_31 rfl (Nat.le_of_ble_eq_true rfl) (by decide) (by decide) ?_
          refine r_iload_n 2 dX8_arrange_56 rfl ?_
          refine r_iconst (v := (1 : Int32)) dX8_arrange_57 (by decide) ?_
          refine r_iload 0 dX8_arrange_58 rfl ?_
          refine r_ishl dX8_arrange_60 ?_
          refine r_ior dX8_arrange_61 ?_
          refine r_istore_n [(2, .int (l2_1 ||| ((1 : Int32) <<< (r950 &&& 31)))), (4, .int r950), (0, .ref (ad 26)), (3, .int l3_1)] dX8_arrange_62 (by decide) rfl ?_
          refine r_iinc (v2 := (l3_1 + (1 : Int32))) 3 [(3, .int (l3_1 + (1 : Int32))), (2, .int (l2_1 ||| ((1 : Int32) <<< (r950 &&& 31)))), (4, .int r950), (0, .ref (ad 26))] dX8_arrange_63 rfl rfl (by decide) rfl ?_
          refine r_goto (tgt := 21) dX8_arrange_66 (by decide) ?_
          refine r_ls [3, 1, 0] (ls2 := [(0, .ref (ad 26)), (2, .int (l2_1 ||| ((1 : Int32) <<< (r950 &&& 31)))), (3, .int (l3_1 + (1 : Int32)))]) rfl ?_
          exact ih1 Ve_judged_c1 Ve_liarSet_c1 Ve_setCount_c1 (l2_1 ||| ((1 : Int32) <<< (r950 &&& 31))) (l3_1 + (1 : Int32)) (rset 8 Ve_order_1 l3_1 r950) h
        · have h := iq (fun z9 => (lC (f_Ve_arrange_L21 N Tap_eventCount r947 Ve_judged_c1 Ve_liarSet_c1 Ve_setCount_c1) none n1 z9)) hc952 h
          refine r_iconst (v := (0 : Int32)) dX8_arrange_44 (by decide) ?_
          refine r_zret dX8_arrange_45 rfl (by decide) ?_
          have h := Option.some.inj (show some _ = some o from h)
          subst h
          exact hq
  exact L1 _ r945.2.1 r945.2.2.1 r945.2.2.2 (0 : Int32) (0 : Int32) Ve_order h
theorem ct_Ve_arrange {g : GG} {ad : Nat → Nat} {t : va_W} {x0 x1 x11 x12 x24 x25 x26 x27 x28 x29 x30 x31 x37 x39 x40 x41 x47 x48 x54 x56 x58 x59 x60 x61 x63 x64 x65 x66 : Int32} {x2 x10 x13 x14 x15 x16 x17 x33 x34 x35 x42 x43 x44 x45 x46 x49 x50 x51 x52 x53 x62 x67 : Nat → Int32} {x32 : Int64} {x36 x38 x55 x57 : Nat → Int64} {N : Nat} {Tap_eventCount : Int32} {Tap_tellerCount : Int32} {Cl_count : Int32} {Cl_tellers : Nat → Int32} {Cl_kinds : Nat → Int32} {Cl_events : Nat → Int32} {Cl_firsts : Nat → Int32} {Ve_judged : Int32} {Ve_liarSet : Int32} {Ve_setCount : Int32} {Ve_against : Nat → Int32} {Ve_ahead : Nat → Int32} {Ve_order : Nat → Int32} {p1 : Int32} {o : Int32 × Int32 × Int32 × Int32 × (Nat → Int32) × (Nat → Int32)} (h : f_Ve_arrange N Tap_eventCount Tap_tellerCount Cl_count Cl_tellers Cl_kinds Cl_events Cl_firsts Ve_judged Ve_liarSet Ve_setCount Ve_against Ve_ahead Ve_order p1 = some o) : Ct g mX8_arrange 5 0 0 [.ref (ad 26), .int p1] (wlX g ad x0 x1 x2 Tap_eventCount Tap_tellerCount Cl_count Cl_tellers Cl_kinds Cl_events Cl_firsts x10 x11 x12 x13 x14 x15 x16 x17 Ve_judged Ve_liarSet Ve_setCount Ve_against Ve_ahead Ve_order x24 x25 x26 x27 x28 x29 x30 x31 x32 x33 x34 x35 x36 x37 x38 x39 x40 x41 x42 x43 x44 x45 x46 x47 x48 x49 x50 x51 x52 x53 x54 x55 x56 x57 x58 x59 x60 x61 x62 x63 x64 x65 x66 x67 ++ t) (Dv (some (.int o.1)) (wlX g ad x0 x1 x2 Tap_eventCount Tap_tellerCount Cl_count Cl_tellers Cl_kinds Cl_events Cl_firsts x10 x11 x12 x13 x14 x15 x16 x17 o.2.1 o.2.2.1 o.2.2.2.1 Ve_against o.2.2.2.2.1 o.2.2.2.2.2 x24 x25 x26 x27 x28 x29 x30 x31 x32 x33 x34 x35 x36 x37 x38 x39 x40 x41 x42 x43 x44 x45 x46 x47 x48 x49 x50 x51 x52 x53 x54 x55 x56 x57 x58 x59 x60 x61 x62 x63 x64 x65 x66 x67 ++ t)) := Ct.ofR (by decide +kernel) rfl (Nat.le_of_ble_eq_true rfl) (rt_Ve_arrange h ⟨rfl, rfl⟩)
