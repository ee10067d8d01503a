set_option maxRecDepth 20000 in
set_option maxHeartbeats 4000000 in
theorem rt_Cl_isFull {g : GG} {ad : Nat → Nat} {t : va_W} {x0 x1 x3 x4 x5 x11 x12 x18 x19 x20 x24 x25 x26 x27 x28 x29 x30 x31 x37 x39 x40 x47 x48 x54 x56 x58 x59 x60 x61 x63 x64 x65 x66 : Int32} {x2 x6 x7 x8 x9 x10 x13 x14 x15 x16 x17 x21 x22 x23 x33 x34 x35 x42 x43 x44 x45 x46 x49 x50 x51 x52 x53 x62 x67 : Nat → Int32} {x32 : Int64} {x36 x38 x55 x57 : Nat → Int64} {Cl_count : Int32} {o : Int32} {Q : Rs → va_W → Prop} (h : f_Cl_isFull Cl_count = o) (hq : Q (.inl (some (.int o))) (wlX g ad x0 x1 x2 x3 x4 x5 x6 x7 x8 x9 x10 x11 x12 x13 x14 x15 x16 x17 x18 x19 x20 x21 x22 x23 x24 x25 x26 x27 x28 x29 x30 x31 x32 x33 x34 x35 x36 x37 x38 x39 x40 Cl_count x42 x43 x44 x45 x46 x47 x48 x49 x50 x51 x52 x53 x54 x55 x56 x57 x58 x59 x60 x61 x62 x63 x64 x65 x66 x67 ++ t)) : R g mX0_isFull 1 0 0 0 [(0, .ref (ad 45))] [] (wlX g ad x0 x1 x2 x3 x4 x5 x6 x7 x8 x9 x10 x11 x12 x13 x14 x15 x16 x17 x18 x19 x20 x21 x22 x23 x24 x25 x26 x27 x28 x29 x30 x31 x32 x33 x34 x35 x36 x37 x38 x39 x40 Cl_count x42 x43 x44 x45 x46 x47 x48 x49 x50 x51 x52 x53 x54 x55 x56 x57 x58 x59 x60 x61 x62 x63 x64 x65 x66 x67 ++ t) Q := by
  unfold f_Cl_isFull at h
  refine r_aload_n 0 dX0_isFull_0 rfl ?_
  refine r_getf (v := .int Cl_count) _ dX0_isFull_1 fl_X0_32 lX_45 rfl ?_
  refine r_bipush (v := (40 : Int32)) dX0_isFull_4 (by decide) ?_
  refine r_icmp_lt (tgt := 13) dX0_isFull_6 (by decide) (fun hc448 => ?_) (fun hc448 => ?_)
  · have h := ip (fun z9 => z9) hc448 h
    refine r_iconst (v := (0 : Int32)) dX0_isFull_13 (by decide) ?_
    refine r_zret dX0_isFull_14 rfl (by decide) ?_
    have h : _ = o := h
    subst h
    exact hq
  · have h := iq (fun z9 => z9) hc448 h
    refine r_iconst (v := (1 : Int32)) dX0_isFull_9 (by decide) ?_
    refine r_goto (tgt := 14) dX0_isFull_10 (by decide) ?_
    refine r_zret dX0_isFull_14 rfl (by decide) ?_
    have h : _ = o := h
    subst h
    exact hq
theorem ct_Cl_isFull {g : GG} {ad : Nat → Nat} {t : va_W} {x0 x1 x3 x4 x5 x11 x12 x18 x19 x20 x24 x25 x26 x27 x28 x29 x30 x31 x37 x39 x40 x47 x48 x54 x56 x58 x59 x60 x61 x63 x64 x65 x66 : Int32} {x2 x6 x7 x8 x9 x10 x13 x14 x15 x16 x17 x21 x22 x23 x33 x34 x35 x42 x43 x44 x45 x46 x49 x50 x51 x52 x53 x62 x67 : Nat → Int32} {x32 : Int64} {x36 x38 x55 x57 : Nat → Int64} {Cl_count : Int32} {o : Int32} (h : f_Cl_isFull Cl_count = o) : Ct g mX0_isFull 1 0 0 [.ref (ad 45)] (wlX g ad x0 x1 x2 x3 x4 x5 x6 x7 x8 x9 x10 x11 x12 x13 x14 x15 x16 x17 x18 x19 x20 x21 x22 x23 x24 x25 x26 x27 x28 x29 x30 x31 x32 x33 x34 x35 x36 x37 x38 x39 x40 Cl_count x42 x43 x44 x45 x46 x47 x48 x49 x50 x51 x52 x53 x54 x55 x56 x57 x58 x59 x60 x61 x62 x63 x64 x65 x66 x67 ++ t) (Dv (some (.int o)) (wlX g ad x0 x1 x2 x3 x4 x5 x6 x7 x8 x9 x10 x11 x12 x13 x14 x15 x16 x17 x18 x19 x20 x21 x22 x23 x24 x25 x26 x27 x28 x29 x30 x31 x32 x33 x34 x35 x36 x37 x38 x39 x40 Cl_count x42 x43 x44 x45 x46 x47 x48 x49 x50 x51 x52 x53 x54 x55 x56 x57 x58 x59 x60 x61 x62 x63 x64 x65 x66 x67 ++ t)) := Ct.ofR (by decide +kernel) rfl (Nat.le_of_ble_eq_true rfl) (rt_Cl_isFull h ⟨rfl, rfl⟩)
set_option maxRecDepth 20000 in
set_option maxHeartbeats 4000000 in
theorem rt_Cl_add {g : GG} {ad : Nat → Nat} {t : va_W} {x0 x1 x3 x4 x5 x11 x12 x18 x19 x20 x24 x25 x26 x27 x28 x29 x30 x31 x37 x39 x40 x47 x48 x54 x56 x58 x59 x60 x61 x63 x64 x65 x66 : Int32} {x2 x6 x7 x8 x9 x10 x13 x14 x15 x16 x17 x21 x22 x23 x33 x34 x35 x49 x50 x51 x52 x53 x62 x67 : Nat → Int32} {x32 : Int64} {x36 x38 x55 x57 : Nat → Int64} {Cl_count : Int32} {Cl_tellers : Nat → Int32} {Cl_kinds : Nat → Int32} {Cl_events : Nat → Int32} {Cl_firsts : Nat → Int32} {Cl_lasts : Nat → Int32} {p1 : Int32} {p2 : Int32} {p3 : Int32} {p4 : Int32} {p5 : Int32} {o : Int32 × (Nat → Int32) × (Nat → Int32) × (Nat → Int32) × (Nat → Int32) × (Nat → Int32)} {Q : Rs → va_W → Prop} (h : f_Cl_add Cl_count Cl_tellers Cl_kinds Cl_events Cl_firsts Cl_lasts p1 p2 p3 p4 p5 = some o) (hq : Q (.inl (none)) (wlX g ad x0 x1 x2 x3 x4 x5 x6 x7 x8 x9 x10 x11 x12 x13 x14 x15 x16 x17 x18 x19 x20 x21 x22 x23 x24 x25 x26 x27 x28 x29 x30 x31 x32 x33 x34 x35 x36 x37 x38 x39 x40 o.1 o.2.1 o.2.2.1 o.2.2.2.1 o.2.2.2.2.1 o.2.2.2.2.2 x47 x48 x49 x50 x51 x52 x53 x54 x55 x56 x57 x58 x59 x60 x61 x62 x63 x64 x65 x66 x67 ++ t)) : R g mX0_add 2 0 0 0 [(0, .ref (ad 45)), (1, .int p1), (2, .int p2), (3, .int p3), (4, .int p4), (5, .int p5)] [] (wlX g ad x0 x1 x2 x3 x4 x5 x6 x7 x8 x9 x10 x11 x12 x13 x14 x15 x16 x17 x18 x19 x20 x21 x22 x23 x24 x25 x26 x27 x28 x29 x30 x31 x32 x33 x34 x35 x36 x37 x38 x39 x40 Cl_count Cl_tellers Cl_kinds Cl_events Cl_firsts Cl_lasts x47 x48 x49 x50 x51 x52 x53 x54 x55 x56 x57 x58 x59 x60 x61 x62 x63 x64 x65 x66 x67 ++ t) Q := by
  unfold f_Cl_add at h
  refine r_aload_n 0 dX0_add_0 rfl ?_
  refine c_V (rest := []) 0 0 _ dX0_add_1 kv_X0_40 (ct_Cl_isFull rfl) rfl rfl lX_45 rfl (Nat.le_of_ble_eq_true rfl) (by decide) (by decide) ?_
  refine r_if_eq (tgt := 8) dX0_add_4 (by decide) (fun hc449 => ?_) (fun hc449 => ?_)
  · have h := ip (fun z9 => z9) hc449 h
    refine r_aload_n 0 dX0_add_8 rfl ?_
    refine r_getf (v := .ref (ad 46)) _ dX0_add_9 fl_X0_14 lX_45 rfl ?_
    refine r_aload_n 0 dX0_add_12 rfl ?_
    refine r_getf (v := .int Cl_count) _ dX0_add_13 fl_X0_32 lX_45 rfl ?_
    refine r_iload_n 1 dX0_add_16 rfl ?_
    refine c_Vv (rest := []) 0 0 _ dX0_add_17 kv_X0_44 (ct_Row_set lX_46 lX_47 (sX_42 _) (Nat.le_of_ble_eq_true rfl)) rfl rfl lX_46 rfl (Nat.le_of_ble_eq_true rfl) (by decide) (by decide) ?_
    refine r_aload_n 0 dX0_add_20 rfl ?_
    refine r_getf (v := .ref (ad 48)) _ dX0_add_21 fl_X0_20 lX_45 rfl ?_
    refine r_aload_n 0 dX0_add_24 rfl ?_
    refine r_getf (v := .int Cl_count) _ dX0_add_25 fl_X0_32 lX_45 rfl ?_
    refine r_iload_n 2 dX0_add_28 rfl ?_
    refine c_Vv (rest := []) 0 0 _ dX0_add_29 kv_X0_44 (ct_Row_set lX_48 lX_49 (sX_43 _) (Nat.le_of_ble_eq_true rfl)) rfl rfl lX_48 rfl (Nat.le_of_ble_eq_true rfl) (by decide) (by decide) ?_
    refine r_aload_n 0 dX0_add_32 rfl ?_
    refine r_getf (v := .ref (ad 50)) _ dX0_add_33 fl_X0_23 lX_45 rfl ?_
    refine r_aload_n 0 dX0_add_36 rfl ?_
    refine r_getf (v := .int Cl_count) _ dX0_add_37 fl_X0_32 lX_45 rfl ?_
    refine r_iload_n 3 dX0_add_40 rfl ?_
    refine c_Vv (rest := []) 0 0 _ dX0_add_41 kv_X0_44 (ct_Row_set lX_50 lX_51 (sX_44 _) (Nat.le_of_ble_eq_true rfl)) rfl rfl lX_50 rfl (Nat.le_of_ble_eq_true rfl) (by decide) (by decide) ?_
    refine r_aload_n 0 dX0_add_44 rfl ?_
    refine r_getf (v := .ref (ad 52)) _ dX0_add_45 fl_X0_26 lX_45 rfl ?_
    refine r_aload_n 0 dX0_add_48 rfl ?_
    refine r_getf (v := .int Cl_count) _ dX0_add_49 fl_X0_32 lX_45 rfl ?_
    refine r_iload 4 dX0_add_52 rfl ?_
    refine c_Vv (rest := []) 0 0 _ dX0_add_54 kv_X0_44 (ct_Row_set lX_52 lX_53 (sX_45 _) (Nat.le_of_ble_eq_true rfl)) rfl rfl lX_52 rfl (Nat.le_of_ble_eq_true rfl) (by decide) (by decide) ?_
    refine r_aload_n 0 dX0_add_57 rfl ?_
    refine r_getf (v := .ref (ad 54)) _ dX0_add_58 fl_X0_29 lX_45 rfl ?_
    refine r_aload_n 0 dX0_add_61 rfl ?_
    refine r_getf (v := .int Cl_count) _ dX0_add_62 fl_X0_32 lX_45 rfl ?_
    refine r_iload 5 dX0_add_65 rfl ?_
    refine c_Vv (rest := []) 0 0 _ dX0_add_67 kv_X0_44 (ct_Row_set lX_54 lX_55 (sX_46 _) (Nat.le_of_ble_eq_true rfl)) rfl rfl lX_54 rfl (Nat.le_of_ble_eq_true rfl) (by decide) (by decide) ?_
    refine r_aload_n 0 dX0_add_70 rfl ?_
    refine r_dup dX0_add_71 rfl ?_
    refine r_getf (v := .int Cl_count) _ dX0_add_72 fl_X0_32 lX_45 rfl ?_
    refine r_iconst (v := (1 : Int32)) dX0_add_75 (by decide) ?_
    refine r_iadd dX0_add_76 ?_
    refine r_putf _ dX0_add_77 fl_X0_32 lX_45 (Nat.le_of_ble_eq_true rfl) rfl rfl (sX_41 _) ?_
    refine r_vret dX0_add_80 rfl ?_
    have h := Option.some.inj (show some _ = some o from h)
    subst h
    exact hq
  · have h := iq (fun z9 => z9) hc449 h
    refine r_vret dX0_add_7 rfl ?_
    have h := Option.some.inj (show some _ = some o from h)
    subst h
    exact hq
theorem ct_Cl_add {g : GG} {ad : Nat → Nat} {t : va_W} {x0 x1 x3 x4 x5 x11 x12 x18 x19 x20 x24 x25 x26 x27 x28 x29 x30 x31 x37 x39 x40 x47 x48 x54 x56 x58 x59 x60 x61 x63 x64 x65 x66 : Int32} {x2 x6 x7 x8 x9 x10 x13 x14 x15 x16 x17 x21 x22 x23 x33 x34 x35 x49 x50 x51 x52 x53 x62 x67 : Nat → Int32} {x32 : Int64} {x36 x38 x55 x57 : Nat → Int64} {Cl_count : Int32} {Cl_tellers : Nat → Int32} {Cl_kinds : Nat → Int32} {Cl_events : Nat → Int32} {Cl_firsts : Nat → Int32} {Cl_lasts : Nat → Int32} {p1 : Int32} {p2 : Int32} {p3 : Int32} {p4 : Int32} {p5 : Int32} {o : Int32 × (Nat → Int32) × (Nat → Int32) × (Nat → Int32) × (Nat → Int32) × (Nat → Int32)} (h : f_Cl_add Cl_count Cl_tellers Cl_kinds Cl_events Cl_firsts Cl_lasts p1 p2 p3 p4 p5 = some o) : Ct g mX0_add 2 0 0 [.ref (ad 45), .int p1, .int p2, .int p3, .int p4, .int p5] (wlX g ad x0 x1 x2 x3 x4 x5 x6 x7 x8 x9 x10 x11 x12 x13 x14 x15 x16 x17 x18 x19 x20 x21 x22 x23 x24 x25 x26 x27 x28 x29 x30 x31 x32 x33 x34 x35 x36 x37 x38 x39 x40 Cl_count Cl_tellers Cl_kinds Cl_events Cl_firsts Cl_lasts x47 x48 x49 x50 x51 x52 x53 x54 x55 x56 x57 x58 x59 x60 x61 x62 x63 x64 x65 x66 x67 ++ t) (Dv (none) (wlX g ad x0 x1 x2 x3 x4 x5 x6 x7 x8 x9 x10 x11 x12 x13 x14 x15 x16 x17 x18 x19 x20 x21 x22 x23 x24 x25 x26 x27 x28 x29 x30 x31 x32 x33 x34 x35 x36 x37 x38 x39 x40 o.1 o.2.1 o.2.2.1 o.2.2.2.1 o.2.2.2.2.1 o.2.2.2.2.2 x47 x48 x49 x50 x51 x52 x53 x54 x55 x56 x57 x58 x59 x60 x61 x62 x63 x64 x65 x66 x67 ++ t)) := Ct.ofR (by decide +kernel) rfl (Nat.le_of_ble_eq_true rfl) (rt_Cl_add h ⟨rfl, rfl⟩)
set_option maxRecDepth 20000 in
set_option maxHeartbeats 4000000 in
theorem rt_Re_readOther {g : GG} {ad : Nat → Nat} {t : va_W} {x0 x1 x3 x4 x5 x11 x12 x18 x19 x20 x26 x29 x30 x31 x37 x39 x40 x47 x48 x56 x58 x59 x60 x61 x63 x64 x65 x66 : Int32} {x2 x6 x7 x8 x9 x10 x13 x14 x15 x16 x17 x21 x22 x23 x35 x49 x50 x51 x52 x53 x62 x67 : Nat → Int32} {x32 : Int64} {x38 x57 : Nat → Int64} {Re_at : Int32} {Re_kind : Int32} {Re_error : Int32} {Re_errorPlace : Int32} {To_kinds : Nat → Int32} {To_starts : Nat → Int32} {To_words : Nat → Int64} {Cl_count : Int32} {Cl_tellers : Nat → Int32} {Cl_kinds : Nat → Int32} {Cl_events : Nat → Int32} {Cl_firsts : Nat → Int32} {Cl_lasts : Nat → Int32} {Na_count : Int32} {Na_words : Nat → Int64} {p1 : Int32} {p2 : Int32} {o : Int32 × Int32 × Int32 × Int32 × Int32 × (Nat → Int32) × (Nat → Int32) × (Nat → Int32) × (Nat → Int32) × (Nat → Int32)} {Q : Rs → va_W → Prop} (h : f_Re_readOther Re_at Re_kind Re_error Re_errorPlace To_kinds To_starts To_words Cl_count Cl_tellers Cl_kinds Cl_events Cl_firsts Cl_lasts Na_count Na_words p1 p2 = some o) (hq : Q (.inl (none)) (wlX g ad x0 x1 x2 x3 x4 x5 x6 x7 x8 x9 x10 x11 x12 x13 x14 x15 x16 x17 x18 x19 x20 x21 x22 x23 o.1 o.2.1 x26 o.2.2.1 o.2.2.2.1 x29 x30 x31 x32 To_kinds To_starts x35 To_words x37 x38 x39 x40 o.2.2.2.2.1 o.2.2.2.2.2.1 o.2.2.2.2.2.2.1 o.2.2.2.2.2.2.2.1 o.2.2.2.2.2.2.2.2.1 o.2.2.2.2.2.2.2.2.2 x47 x48 x49 x50 x51 x52 x53 Na_count Na_words x56 x57 x58 x59 x60 x61 x62 x63 x64 x65 x66 x67 ++ t)) : R g mX4_readOther 5 0 0 0 [(0, .ref (ad 33)), (1, .int p1), (2, .int p2)] [] (wlX g ad x0 x1 x2 x3 x4 x5 x6 x7 x8 x9 x10 x11 x12 x13 x14 x15 x16 x17 x18 x19 x20 x21 x22 x23 Re_at Re_kind x26 Re_error Re_errorPlace x29 x30 x31 x32 To_kinds To_starts x35 To_words x37 x38 x39 x40 Cl_count Cl_tellers Cl_kinds Cl_events Cl_firsts Cl_lasts x47 x48 x49 x50 x51 x52 x53 Na_count Na_words x56 x57 x58 x59 x60 x61 x62 x63 x64 x65 x66 x67 ++ t) Q := by
  unfold f_Re_readOther at h
  refine r_aload_n 0 dX4_readOther_0 rfl ?_
  refine r_getf (v := .int Re_kind) _ dX4_readOther_1 fl_X4_42 lX_33 rfl ?_
  refine r_sipush (v := (205 : Int32)) dX4_readOther_4 (by decide) ?_
  refine r_icmp_ne (tgt := 14) dX4_readOther_7 (by decide) (fun hc450 => ?_) (fun hc450 => ?_)
  · have h := iq (fun z9 => z9) hc450 h
    refine r_iconst (v := (2 : Int32)) dX4_readOther_14 (by decide) ?_
    refine r_istore_n [(3, .int (2 : Int32)), (0, .ref (ad 33)), (1, .int p1), (2, .int p2)] dX4_readOther_15 (by decide) rfl ?_
    refine r_aload_n 1 dX4_readOther_16 rfl ?_
    obtain ⟨r451, hc452, h⟩ := ob (fun z9 => z9) rfl h
    refine c_Vv (rest := []) 0 0 _ dX4_readOther_17 kv_X4_105 (ct_Re_advance hc452) rfl rfl lX_33 rfl (Nat.le_of_ble_eq_true rfl) (by decide) (by decide) ?_
    refine r_aload_n 1 dX4_readOther_20 rfl ?_
    refine r_getf (v := .int r451.2) _ dX4_readOther_21 fl_X4_42 lX_33 rfl ?_
    refine r_sipush (v := (130 : Int32)) dX4_readOther_24 (by decide) ?_
    refine r_icmp_ne (tgt := 61) dX4_readOther_27 (by decide) (fun hc453 => ?_) (fun hc453 => ?_)
    · have h := iq (fun z9 => z9) hc453 h
      refine r_aload_n 1 dX4_readOther_61 rfl ?_
      refine r_aload_n 1 dX4_readOther_62 rfl ?_
      refine r_getf (v := .ref (ad 67)) _ dX4_readOther_63 fl_X4_32 lX_33 rfl ?_
      obtain ⟨r454, hc455, h⟩ := ob (fun z9 => z9) rfl h
      refine c_V (rest := []) 0 0 _ dX4_readOther_66 kv_X4_131 (ct_Re_readKnown hc455) rfl rfl lX_33 rfl (Nat.le_of_ble_eq_true rfl) (by decide) (by decide) ?_
      refine r_istore [(4, .int r454.1), (3, .int (2 : Int32)), (0, .ref (ad 33)), (1, .int p1), (2, .int p2)] dX4_readOther_69 (by decide) rfl ?_
      refine r_aload_n 2 dX4_readOther_71 rfl ?_
      refine r_getf (v := .int r454.2.2.2.1) _ dX4_readOther_72 fl_X4_46 lX_33 rfl ?_
      refine r_if_ne (tgt := 94) dX4_readOther_75 (by decide) (fun hc456 => ?_) (fun hc456 => ?_)
      · have h := iq (fun z9 => z9) hc456 h
        refine r_vret dX4_readOther_94 rfl ?_
        have h := Option.some.inj (show some _ = some o from h)
        subst h
        exact hq
      · have h := ip (fun z9 => z9) hc456 h
        refine r_aload_n 2 dX4_readOther_78 rfl ?_
        refine r_getf (v := .ref (ad 44)) _ dX4_readOther_79 fl_X4_23 lX_33 rfl ?_
        refine r_getf (v := .ref (ad 45)) _ dX4_readOther_82 fl_X4_124 lX_44 rfl ?_
        refine r_iload_n 3 dX4_readOther_85 rfl ?_
        refine r_iload_n 1 dX4_readOther_86 rfl ?_
        refine r_iload_n 4 dX4_readOther_87 rfl ?_
        refine r_iload 0 dX4_readOther_88 rfl ?_
        refine r_iconst (v := (0 : Int32)) dX4_readOther_90 (by decide) ?_
        obtain ⟨r457, hc458, h⟩ := ob (fun z9 => z9) rfl h
        refine c_Vv (rest := []) 0 0 _ dX4_readOther_91 kv_X4_145 (ct_Cl_add hc458) rfl rfl lX_45 rfl (Nat.le_of_ble_eq_true rfl) (by decide) (by decide) ?_
        refine r_vret dX4_readOther_94 rfl ?_
        have h := Option.some.inj (show some _ = some o from h)
        subst h
        exact hq
    · have h := ip (fun z9 => z9) hc453 h
      refine r_iload_n 3 dX4_readOther_30 rfl ?_
      refine r_if_lt (tgt := 61) dX4_readOther_31 (by decide) (fun hc459 => ?_) (fun hc459 => ?_)
      · have h := ip (fun z9 => z9) hc459 h
        refine r_aload_n 1 dX4_readOther_61 rfl ?_
        refine r_aload_n 1 dX4_readOther_62 rfl ?_
        refine r_getf (v := .ref (ad 67)) _ dX4_readOther_63 fl_X4_32 lX_33 rfl ?_
        obtain ⟨r460, hc461, h⟩ := ob (fun z9 => z9) rfl h
        refine c_V (rest := []) 0 0 _ dX4_readOther_66 kv_X4_131 (ct_Re_readKnown hc461) rfl rfl lX_33 rfl (Nat.le_of_ble_eq_true rfl) (by decide) (by decide) ?_
        refine r_istore [(4, .int r460.1), (3, .int (2 : Int32)), (0, .ref (ad 33)), (1, .int p1), (2, .int p2)] dX4_readOther_69 (by decide) rfl ?_
        refine r_aload_n 2 dX4_readOther_71 rfl ?_
        refine r_getf (v := .int r460.2.2.2.1) _ dX4_readOther_72 fl_X4_46 lX_33 rfl ?_
        refine r_if_ne (tgt := 94) dX4_readOther_75 (by decide) (fun hc462 => ?_) (fun hc462 => ?_)
        · have h := iq (fun z9 => z9) hc462 h
          refine r_vret dX4_readOther_94 rfl ?_
          have h := Option.some.inj (show some _ = some o from h)
          subst h
          exact hq
        · have h := ip (fun z9 => z9) hc462 h
          refine r_aload_n 2 dX4_readOther_78 rfl ?_
          refine r_getf (v := .ref (ad 44)) _ dX4_readOther_79 fl_X4_23 lX_33 rfl ?_
          refine r_getf (v := .ref (ad 45)) _ dX4_readOther_82 fl_X4_124 lX_44 rfl ?_
          refine r_iload_n 3 dX4_readOther_85 rfl ?_
          refine r_iload_n 1 dX4_readOther_86 rfl ?_
          refine r_iload_n 4 dX4_readOther_87 rfl ?_
          refine r_iload 0 dX4_readOther_88 rfl ?_
          refine r_iconst (v := (0 : Int32)) dX4_readOther_90 (by decide) ?_
          obtain ⟨r463, hc464, h⟩ := ob (fun z9 => z9) rfl h
          refine c_Vv (rest := []) 0 0 _ dX4_readOther_91 kv_X4_145 (ct_Cl_add hc464) rfl rfl lX_45 rfl (Nat.le_of_ble_eq_true rfl) (by decide) (by decide) ?_
          refine r_vret dX4_readOther_94 rfl ?_
          have h := Option.some.inj (show some _ = some o from h)
          subst h
          exact hq
      · have h := iq (fun z9 => z9) hc459 h
        refine r_aload_n 1 dX4_readOther_34 rfl ?_
        refine r_getf (v := .ref (ad 67)) _ dX4_readOther_35 fl_X4_32 lX_33 rfl ?_
        refine r_aload_n 1 dX4_readOther_38 rfl ?_
        refine r_getf (v := .ref (ad 34)) _ dX4_readOther_39 fl_X4_14 lX_33 rfl ?_
        refine r_aload_n 1 dX4_readOther_42 rfl ?_
        refine r_getf (v := .int r451.1) _ dX4_readOther_43 fl_X4_80 lX_33 rfl ?_
        obtain ⟨r465, hc466, h⟩ := ob (fun z9 => z9) rfl h
        refine c_V (rest := [.ref (ad 67)]) 0 0 _ dX4_readOther_46 kv_X4_108 (ct_To_wordAt hc466) rfl rfl lX_34 rfl (Nat.le_of_ble_eq_true rfl) (by decide) (by decide) ?_
        refine c_V (rest := []) 0 0 _ dX4_readOther_49 kv_X4_112 (ct_Na_find lX_67 lX_68 (Nat.le_of_ble_eq_true rfl)) rfl rfl lX_67 rfl (Nat.le_of_ble_eq_true rfl) (by decide) (by decide) ?_
        refine r_iload_n 3 dX4_readOther_52 rfl ?_
        refine r_icmp_ne (tgt := 61) dX4_readOther_53 (by decide) (fun hc467 => ?_) (fun hc467 => ?_)
        · have h := iq (fun z9 => z9) hc467 h
          refine r_aload_n 1 dX4_readOther_61 rfl ?_
          refine r_aload_n 1 dX4_readOther_62 rfl ?_
          refine r_getf (v := .ref (ad 67)) _ dX4_readOther_63 fl_X4_32 lX_33 rfl ?_
          obtain ⟨r468, hc469, h⟩ := ob (fun z9 => z9) rfl h
          refine c_V (rest := []) 0 0 _ dX4_readOther_66 kv_X4_131 (ct_Re_readKnown hc469) rfl rfl lX_33 rfl (Nat.le_of_ble_eq_true rfl) (by decide) (by decide) ?_
          refine r_istore [(4, .int r468.1), (3, .int (2 : Int32)), (0, .ref (ad 33)), (1, .int p1), (2, .int p2)] dX4_readOther_69 (by decide) rfl ?_
          refine r_aload_n 2 dX4_readOther_71 rfl ?_
          refine r_getf (v := .int r468.2.2.2.1) _ dX4_readOther_72 fl_X4_46 lX_33 rfl ?_
          refine r_if_ne (tgt := 94) dX4_readOther_75 (by decide) (fun hc470 => ?_) (fun hc470 => ?_)
          · have h := iq (fun z9 => z9) hc470 h
            refine r_vret dX4_readOther_94 rfl ?_
            have h := Option.some.inj (show some _ = some o from h)
            subst h
            exact hq
          · have h := ip (fun z9 => z9) hc470 h
            refine r_aload_n 2 dX4_readOther_78 rfl ?_
            refine r_getf (v := .ref (ad 44)) _ dX4_readOther_79 fl_X4_23 lX_33 rfl ?_
            refine r_getf (v := .ref (ad 45)) _ dX4_readOther_82 fl_X4_124 lX_44 rfl ?_
            refine r_iload_n 3 dX4_readOther_85 rfl ?_
            refine r_iload_n 1 dX4_readOther_86 rfl ?_
            refine r_iload_n 4 dX4_readOther_87 rfl ?_
            refine r_iload 0 dX4_readOther_88 rfl ?_
            refine r_iconst (v := (0 : Int32)) dX4_readOther_90 (by decide) ?_
            obtain ⟨r471, hc472, h⟩ := ob (fun z9 => z9) rfl h
            refine c_Vv (rest := []) 0 0 _ dX4_readOther_91 kv_X4_145 (ct_Cl_add hc472) rfl rfl lX_45 rfl (Nat.le_of_ble_eq_true rfl) (by decide) (by decide) ?_
            refine r_vret dX4_readOther_94 rfl ?_
            have h := Option.some.inj (show some _ = some o from h)
            subst h
            exact hq
        · have h := ip (fun z9 => z9) hc467 h
          refine r_aload_n 1 dX4_readOther_56 rfl ?_
          refine r_iconst (v := (5 : Int32)) dX4_readOther_57 (by decide) ?_
          obtain ⟨r473, hc474, h⟩ := ob (fun z9 => z9) rfl h
          refine c_Vv (rest := []) 0 0 _ dX4_readOther_58 kv_X4_102 (ct_Re_note hc474) rfl rfl lX_33 rfl (Nat.le_of_ble_eq_true rfl) (by decide) (by decide) ?_
          refine r_aload_n 1 dX4_readOther_61 rfl ?_
          refine r_aload_n 1 dX4_readOther_62 rfl ?_
          refine r_getf (v := .ref (ad 67)) _ dX4_readOther_63 fl_X4_32 lX_33 rfl ?_
          obtain ⟨r475, hc476, h⟩ := ob (fun z9 => z9) rfl h
          refine c_V (rest := []) 0 0 _ dX4_readOther_66 kv_X4_131 (ct_Re_readKnown hc476) rfl rfl lX_33 rfl (Nat.le_of_ble_eq_true rfl) (by decide) (by decide) ?_
          refine r_istore [(4, .int r475.1), (3, .int (2 : Int32)), (0, .ref (ad 33)), (1, .int p1), (2, .int p2)] dX4_readOther_69 (by decide) rfl ?_
          refine r_aload_n 2 dX4_readOther_71 rfl ?_
          refine r_getf (v := .int r475.2.2.2.1) _ dX4_readOther_72 fl_X4_46 lX_33 rfl ?_
          refine r_if_ne (tgt := 94) dX4_readOther_75 (by decide) (fun hc477 => ?_) (fun hc477 => ?_)
          · have h := iq (fun z9 => z9) hc477 h
            refine r_vret dX4_readOther_94 rfl ?_
            have h := Option.some.inj (show some _ = some o from h)
            subst h
            exact hq
          · have h := ip (fun z9 => z9) hc477 h
            refine r_aload_n 2 dX4_readOther_78 rfl ?_
            refine r_getf (v := .ref (ad 44)) _ dX4_readOther_79 fl_X4_23 lX_33 rfl ?_
            refine r_getf (v := .ref (ad 45)) _ dX4_readOther_82 fl_X4_124 lX_44 rfl ?_
            refine r_iload_n 3 dX4_readOther_85 rfl ?_
            refine r_iload_n 1 dX4_readOther_86 rfl ?_
            refine r_iload_n 4 dX4_readOther_87 rfl ?_
            refine r_iload 0 dX4_readOther_88 rfl ?_
            refine r_iconst (v := (0 : Int32)) dX4_readOther_90 (by decide) ?_
            obtain ⟨r478, hc479, h⟩ := ob (fun z9 => z9) rfl h
            refine c_Vv (rest := []) 0 0 _ dX4_readOther_91 kv_X4_145 (ct_Cl_add hc479) rfl rfl lX_45 rfl (Nat.le_of_ble_eq_true rfl) (by decide) (by decide) ?_
            refine r_vret dX4_readOther_94 rfl ?_
            have h := Option.some.inj (show some _ = some o from h)
            subst h
            exact hq
  · have h := ip (fun z9 => z9) hc450 h
    refine r_iconst (v := (1 : Int32)) dX4_readOther_10 (by decide) ?_
    refine r_goto (tgt := 15) dX4_readOther_11 (by decide) ?_
    refine r_istore_n [(3, .int (1 : Int32)), (0, .ref (ad 33)), (1, .int p1), (2, .int p2)] dX4_readOther_15 (by decide) rfl ?_
    refine r_aload_n 1 dX4_readOther_16 rfl ?_
    obtain ⟨r480, hc481, h⟩ := ob (fun z9 => z9) rfl h
    refine c_Vv (rest := []) 0 0 _ dX4_readOther_17 kv_X4_105 (ct_Re_advance hc481) rfl rfl lX_33 rfl (Nat.le_of_ble_eq_true rfl) (by decide) (by decide) ?_
    refine r_aload_n 1 dX4_readOther_20 rfl ?_
    refine r_getf (v := .int r480.2) _ dX4_readOther_21 fl_X4_42 lX_33 rfl ?_
    refine r_sipush (v := (130 : Int32)) dX4_readOther_24 (by decide) ?_
    refine r_icmp_ne (tgt := 61) dX4_readOther_27 (by decide) (fun hc482 => ?_) (fun hc482 => ?_)
    · have h := iq (fun z9 => z9) hc482 h
      refine r_aload_n 1 dX4_readOther_61 rfl ?_
      refine r_aload_n 1 dX4_readOther_62 rfl ?_
      refine r_getf (v := .ref (ad 67)) _ dX4_readOther_63 fl_X4_32 lX_33 rfl ?_
      obtain ⟨r483, hc484, h⟩ := ob (fun z9 => z9) rfl h
      refine c_V (rest := []) 0 0 _ dX4_readOther_66 kv_X4_131 (ct_Re_readKnown hc484) rfl rfl lX_33 rfl (Nat.le_of_ble_eq_true rfl) (by decide) (by decide) ?_
      refine r_istore [(4, .int r483.1), (3, .int (1 : Int32)), (0, .ref (ad 33)), (1, .int p1), (2, .int p2)] dX4_readOther_69 (by decide) rfl ?_
      refine r_aload_n 2 dX4_readOther_71 rfl ?_
      refine r_getf (v := .int r483.2.2.2.1) _ dX4_readOther_72 fl_X4_46 lX_33 rfl ?_
      refine r_if_ne (tgt := 94) dX4_readOther_75 (by decide) (fun hc485 => ?_) (fun hc485 => ?_)
      · have h := iq (fun z9 => z9) hc485 h
        refine r_vret dX4_readOther_94 rfl ?_
        have h := Option.some.inj (show some _ = some o from h)
        subst h
        exact hq
      · have h := ip (fun z9 => z9) hc485 h
        refine r_aload_n 2 dX4_readOther_78 rfl ?_
        refine r_getf (v := .ref (ad 44)) _ dX4_readOther_79 fl_X4_23 lX_33 rfl ?_
        refine r_getf (v := .ref (ad 45)) _ dX4_readOther_82 fl_X4_124 lX_44 rfl ?_
        refine r_iload_n 3 dX4_readOther_85 rfl ?_
        refine r_iload_n 1 dX4_readOther_86 rfl ?_
        refine r_iload_n 4 dX4_readOther_87 rfl ?_
        refine r_iload 0 dX4_readOther_88 rfl ?_
        refine r_iconst (v := (0 : Int32)) dX4_readOther_90 (by decide) ?_
        obtain ⟨r486, hc487, h⟩ := ob (fun z9 => z9) rfl h
        refine c_Vv (rest := []) 0 0 _ dX4_readOther_91 kv_X4_145 (ct_Cl_add hc487) rfl rfl lX_45 rfl (Nat.le_of_ble_eq_true rfl) (by decide) (by decide) ?_
        refine r_vret dX4_readOther_94 rfl ?_
        have h := Option.some.inj (show some _ = some o from h)
        subst h
        exact hq
    · have h := ip (fun z9 => z9) hc482 h
      refine r_iload_n 3 dX4_readOther_30 rfl ?_
      refine r_if_lt (tgt := 61) dX4_readOther_31 (by decide) (fun hc488 => ?_) (fun hc488 => ?_)
      · have h := ip (fun z9 => z9) hc488 h
        refine r_aload_n 1 dX4_readOther_61 rfl ?_
        refine r_aload_n 1 dX4_readOther_62 rfl ?_
        refine r_getf (v := .ref (ad 67)) _ dX4_readOther_63 fl_X4_32 lX_33 rfl ?_
        obtain ⟨r489, hc490, h⟩ := ob (fun z9 => z9) rfl h
        refine c_V (rest := []) 0 0 _ dX4_readOther_66 kv_X4_131 (ct_Re_readKnown hc490) rfl rfl lX_33 rfl (Nat.le_of_ble_eq_true rfl) (by decide) (by decide) ?_
        refine r_istore [(4, .int r489.1), (3, .int (1 : Int32)), (0, .ref (ad 33)), (1, .int p1), (2, .int p2)] dX4_readOther_69 (by decide) rfl ?_
        refine r_aload_n 2 dX4_readOther_71 rfl ?_
        refine r_getf (v := .int r489.2.2.2.1) _ dX4_readOther_72 fl_X4_46 lX_33 rfl ?_
        refine r_if_ne (tgt := 94) dX4_readOther_75 (by decide) (fun hc491 => ?_) (fun hc491 => ?_)
        · have h := iq (fun z9 => z9) hc491 h
          refine r_vret dX4_readOther_94 rfl ?_
          have h := Option.some.inj (show some _ = some o from h)
          subst h
          exact hq
        · have h := ip (fun z9 => z9) hc491 h
          refine r_aload_n 2 dX4_readOther_78 rfl ?_
          refine r_getf (v := .ref (ad 44)) _ dX4_readOther_79 fl_X4_23 lX_33 rfl ?_
          refine r_getf (v := .ref (ad 45)) _ dX4_readOther_82 fl_X4_124 lX_44 rfl ?_
          refine r_iload_n 3 dX4_readOther_85 rfl ?_
          refine r_iload_n 1 dX4_readOther_86 rfl ?_
          refine r_iload_n 4 dX4_readOther_87 rfl ?_
          refine r_iload 0 dX4_readOther_88 rfl ?_
          refine r_iconst (v := (0 : Int32)) dX4_readOther_90 (by decide) ?_
          obtain ⟨r492, hc493, h⟩ := ob (fun z9 => z9) rfl h
          refine c_Vv (rest := []) 0 0 _ dX4_readOther_91 kv_X4_145 (ct_Cl_add hc493) rfl rfl lX_45 rfl (Nat.le_of_ble_eq_true rfl) (by decide) (by decide) ?_
          refine r_vret dX4_readOther_94 rfl ?_
          have h := Option.some.inj (show some _ = some o from h)
          subst h
          exact hq
      · have h := iq (fun z9 => z9) hc488 h
        refine r_aload_n 1 dX4_readOther_34 rfl ?_
        refine r_getf (v := .ref (ad 67)) _ dX4_readOther_35 fl_X4_32 lX_33 rfl ?_
        refine r_aload_n 1 dX4_readOther_38 rfl ?_
        refine r_getf (v := .ref (ad 34)) _ dX4_readOther_39 fl_X4_14 lX_33 rfl ?_
        refine r_aload_n 1 dX4_readOther_42 rfl ?_
        refine r_getf (v := .int r480.1) _ dX4_readOther_43 fl_X4_80 lX_33 rfl ?_
        obtain ⟨r494, hc495, h⟩ := ob (fun z9 => z9) rfl h
        refine c_V (rest := [.ref (ad 67)]) 0 0 _ dX4_readOther_46 kv_X4_108 (ct_To_wordAt hc495) rfl rfl lX_34 rfl (Nat.le_of_ble_eq_true rfl) (by decide) (by decide) ?_
        refine c_V (rest := []) 0 0 _ dX4_readOther_49 kv_X4_112 (ct_Na_find lX_67 lX_68 (Nat.le_of_ble_eq_true rfl)) rfl rfl lX_67 rfl (Nat.le_of_ble_eq_true rfl) (by decide) (by decide) ?_
        refine r_iload_n 3 dX4_readOther_52 rfl ?_
        refine r_icmp_ne (tgt := 61) dX4_readOther_53 (by decide) (fun hc496 => ?_) (fun hc496 => ?_)
        · have h := iq (fun z9 => z9) hc496 h
          refine r_aload_n 1 dX4_readOther_61 rfl ?_
          refine r_aload_n 1 dX4_readOther_62 rfl ?_
          refine r_getf (v := .ref (ad 67)) _ dX4_readOther_63 fl_X4_32 lX_33 rfl ?_
          obtain ⟨r497, hc498, h⟩ := ob (fun z9 => z9) rfl h
          refine c_V (rest := []) 0 0 _ dX4_readOther_66 kv_X4_131 (ct_Re_readKnown hc498) rfl rfl lX_33 rfl (Nat.le_of_ble_eq_true rfl) (by decide) (by decide) ?_
          refine r_istore [(4, .int r497.1), (3, .int (1 : Int32)), (0, .ref (ad 33)), (1, .int p1), (2, .int p2)] dX4_readOther_69 (by decide) rfl ?_
          refine r_aload_n 2 dX4_readOther_71 rfl ?_
          refine r_getf (v := .int r497.2.2.2.1) _ dX4_readOther_72 fl_X4_46 lX_33 rfl ?_
          refine r_if_ne (tgt := 94) dX4_readOther_75 (by decide) (fun hc499 => ?_) (fun hc499 => ?_)
          · have h := iq (fun z9 => z9) hc499 h
            refine r_vret dX4_readOther_94 rfl ?_
            have h := Option.some.inj (show some _ = some o from h)
            subst h
            exact hq
          · have h := ip (fun z9 => z9) hc499 h
            refine r_aload_n 2 dX4_readOther_78 rfl ?_
            refine r_getf (v := .ref (ad 44)) _ dX4_readOther_79 fl_X4_23 lX_33 rfl ?_
            refine r_getf (v := .ref (ad 45)) _ dX4_readOther_82 fl_X4_124 lX_44 rfl ?_
            refine r_iload_n 3 dX4_readOther_85 rfl ?_
            refine r_iload_n 1 dX4_readOther_86 rfl ?_
            refine r_iload_n 4 dX4_readOther_87 rfl ?_
            refine r_iload 0 dX4_readOther_88 rfl ?_
            refine r_iconst (v := (0 : Int32)) dX4_readOther_90 (by decide) ?_
            obtain ⟨r500, hc501, h⟩ := ob (fun z9 => z9) rfl h
            refine c_Vv (rest := []) 0 0 _ dX4_readOther_91 kv_X4_145 (ct_Cl_add hc501) rfl rfl lX_45 rfl (Nat.le_of_ble_eq_true rfl) (by decide) (by decide) ?_
            refine r_vret dX4_readOther_94 rfl ?_
            have h := Option.some.inj (show some _ = some o from h)
            subst h
            exact hq
        · have h := ip (fun z9 => z9) hc496 h
          refine r_aload_n 1 dX4_readOther_56 rfl ?_
          refine r_iconst (v := (5 : Int32)) dX4_readOther_57 (by decide) ?_
          obtain ⟨r502, hc503, h⟩ := ob (fun z9 => z9) rfl h
          refine c_Vv (rest := []) 0 0 _ dX4_readOther_58 kv_X4_102 (ct_Re_note hc503) rfl rfl lX_33 rfl (Nat.le_of_ble_eq_true rfl) (by decide) (by decide) ?_
          refine r_aload_n 1 dX4_readOther_61 rfl ?_
          refine r_aload_n 1 dX4_readOther_62 rfl ?_
          refine r_getf (v := .ref (ad 67)) _ dX4_readOther_63 fl_X4_32 lX_33 rfl ?_
          obtain ⟨r504, hc505, h⟩ := ob (fun z9 => z9) rfl h
          refine c_V (rest := []) 0 0 _ dX4_readOther_66 kv_X4_131 (ct_Re_readKnown hc505) rfl rfl lX_33 rfl (Nat.le_of_ble_eq_true rfl) (by decide) (by decide) ?_
          refine r_istore [(4, .int r504.1), (3, .int (1 : Int32)), (0, .ref (ad 33)), (1, .int p1), (2, .int p2)] dX4_readOther_69 (by decide) rfl ?_
          refine r_aload_n 2 dX4_readOther_71 rfl ?_
          refine r_getf (v := .int r504.2.2.2.1) _ dX4_readOther_72 fl_X4_46 lX_33 rfl ?_
          refine r_if_ne (tgt := 94) dX4_readOther_75 (by decide) (fun hc506 => ?_) (fun hc506 => ?_)
          · have h := iq (fun z9 => z9) hc506 h
            refine r_vret dX4_readOther_94 rfl ?_
            have h := Option.some.inj (show some _ = some o from h)
            subst h
            exact hq
          · have h := ip (fun z9 => z9) hc506 h
            refine r_aload_n 2 dX4_readOther_78 rfl ?_
            refine r_getf (v := .ref (ad 44)) _ dX4_readOther_79 fl_X4_23 lX_33 rfl ?_
            refine r_getf (v := .ref (ad 45)) _ dX4_readOther_82 fl_X4_124 lX_44 rfl ?_
            refine r_iload_n 3 dX4_readOther_85 rfl ?_
            refine r_iload_n 1 dX4_readOther_86 rfl ?_
            refine r_iload_n 4 dX4_readOther_87 rfl ?_
            refine r_iload 0 dX4_readOther_88 rfl ?_
            refine r_iconst (v := (0 : Int32)) dX4_readOther_90 (by decide) ?_
            obtain ⟨r507, hc508, h⟩ := ob (fun z9 => z9) rfl h
            refine c_Vv (rest := []) 0 0 _ dX4_readOther_91 kv_X4_145 (ct_Cl_add hc508) rfl rfl lX_45 rfl (Nat.le_of_ble_eq_true rfl) (by decide) (by decide) ?_
            refine r_vret dX4_readOther_94 rfl ?_
            have h := Option.some.inj (show some _ = some o from h)
            subst h
            exact hq
theorem ct_Re_readOther {g : GG} {ad : Nat → Nat} {t : va_W} {x0 x1 x3 x4 x5 x11 x12 x18 x19 x20 x26 x29 x30 x31 x37 x39 x40 x47 x48 x56 x58 x59 x60 x61 x63 x64 x65 x66 : Int32} {x2 x6 x7 x8 x9 x10 x13 x14 x15 x16 x17 x21 x22 x23 x35 x49 x50 x51 x52 x53 x62 x67 : Nat → Int32} {x32 : Int64} {x38 x57 : Nat → Int64} {Re_at : Int32} {Re_kind : Int32} {Re_error : Int32} {Re_errorPlace : Int32} {To_kinds : Nat → Int32} {To_starts : Nat → Int32} {To_words : Nat → Int64} {Cl_count : Int32} {Cl_tellers : Nat → Int32} {Cl_kinds : Nat → Int32} {Cl_events : Nat → Int32} {Cl_firsts : Nat → Int32} {Cl_lasts : Nat → Int32} {Na_count : Int32} {Na_words : Nat → Int64} {p1 : Int32} {p2 : Int32} {o : Int32 × Int32 × Int32 × Int32 × Int32 × (Nat → Int32) × (Nat → Int32) × (Nat → Int32) × (Nat → Int32) × (Nat → Int32)} (h : f_Re_readOther Re_at Re_kind Re_error Re_errorPlace To_kinds To_starts To_words Cl_count Cl_tellers Cl_kinds Cl_events Cl_firsts Cl_lasts Na_count Na_words p1 p2 = some o) : Ct g mX4_readOther 5 0 0 [.ref (ad 33), .int p1, .int p2] (wlX g ad x0 x1 x2 x3 x4 x5 x6 x7 x8 x9 x10 x11 x12 x13 x14 x15 x16 x17 x18 x19 x20 x21 x22 x23 Re_at Re_kind x26 Re_error Re_errorPlace x29 x30 x31 x32 To_kinds To_starts x35 To_words x37 x38 x39 x40 Cl_count Cl_tellers Cl_kinds Cl_events Cl_firsts Cl_lasts x47 x48 x49 x50 x51 x52 x53 Na_count Na_words x56 x57 x58 x59 x60 x61 x62 x63 x64 x65 x66 x67 ++ t) (Dv (none) (wlX g ad x0 x1 x2 x3 x4 x5 x6 x7 x8 x9 x10 x11 x12 x13 x14 x15 x16 x17 x18 x19 x20 x21 x22 x23 o.1 o.2.1 x26 o.2.2.1 o.2.2.2.1 x29 x30 x31 x32 To_kinds To_starts x35 To_words x37 x38 x39 x40 o.2.2.2.2.1 o.2.2.2.2.2.1 o.2.2.2.2.2.2.1 o.2.2.2.2.2.2.2.1 o.2.2.2.2.2.2.2.2.1 o.2.2.2.2.2.2.2.2.2 x47 x48 x49 x50 x51 x52 x53 Na_count Na_words x56 x57 x58 x59 x60 x61 x62 x63 x64 x65 x66 x67 ++ t)) := Ct.ofR (by decide +kernel) rfl (Nat.le_of_ble_eq_true rfl) (rt_Re_readOther h ⟨rfl, rfl⟩)
set_option maxRecDepth 20000 in
set_option maxHeartbeats 4000000 in
theorem rt_Re_readHour {g : GG} {ad : Nat → Nat} {t : va_W} {x0 x1 x3 x4 x5 x11 x12 x18 x19 x20 x26 x29 x30 x31 x37 x39 x40 x41 x47 x48 x54 x56 x58 x59 x60 x61 x63 x64 x65 x66 : Int32} {x2 x6 x7 x8 x9 x10 x13 x14 x15 x16 x17 x21 x22 x23 x42 x43 x44 x45 x46 x49 x50 x51 x52 x53 x62 x67 : Nat → Int32} {x32 : Int64} {x36 x38 x55 x57 : Nat → Int64} {Re_at : Int32} {Re_kind : Int32} {Re_error : Int32} {Re_errorPlace : Int32} {To_kinds : Nat → Int32} {To_starts : Nat → Int32} {To_numbers : Nat → Int32} {p1 : Int32} {o : Int32 × Int32 × Int32 × Int32 × Int32} {Q : Rs → va_W → Prop} (h : f_Re_readHour Re_at Re_kind Re_error Re_errorPlace To_kinds To_starts To_numbers p1 = some o) (hq : Q (.inl (some (.int o.1))) (wlX g ad x0 x1 x2 x3 x4 x5 x6 x7 x8 x9 x10 x11 x12 x13 x14 x15 x16 x17 x18 x19 x20 x21 x22 x23 o.2.1 o.2.2.1 x26 o.2.2.2.1 o.2.2.2.2 x29 x30 x31 x32 To_kinds To_starts To_numbers x36 x37 x38 x39 x40 x41 x42 x43 x44 x45 x46 x47 x48 x49 x50 x51 x52 x53 x54 x55 x56 x57 x58 x59 x60 x61 x62 x63 x64 x65 x66 x67 ++ t)) : R g mX4_readHour 5 0 0 0 [(0, .ref (ad 33)), (1, .int p1)] [] (wlX g ad x0 x1 x2 x3 x4 x5 x6 x7 x8 x9 x10 x11 x12 x13 x14 x15 x16 x17 x18 x19 x20 x21 x22 x23 Re_at Re_kind x26 Re_error Re_errorPlace x29 x30 x31 x32 To_kinds To_starts To_numbers x36 x37 x38 x39 x40 x41 x42 x43 x44 x45 x46 x47 x48 x49 x50 x51 x52 x53 x54 x55 x56 x57 x58 x59 x60 x61 x62 x63 x64 x65 x66 x67 ++ t) Q := by
  unfold f_Re_readHour at h
  refine r_aload_n 0 dX4_readHour_0 rfl ?_
  refine r_getf (v := .ref (ad 34)) _ dX4_readHour_1 fl_X4_14 lX_33 rfl ?_
  refine r_getf (v := .ref (ad 39)) _ dX4_readHour_4 fl_X4_148 lX_34 rfl ?_
  refine r_aload_n 0 dX4_readHour_7 rfl ?_
  refine r_getf (v := .int Re_at) _ dX4_readHour_8 fl_X4_80 lX_33 rfl ?_
  refine c_V (rest := []) 0 0 _ dX4_readHour_11 kv_X4_87 (ct_Row_get lX_39 lX_40 (Nat.le_of_ble_eq_true rfl)) rfl rfl lX_39 rfl (Nat.le_of_ble_eq_true rfl) (by decide) (by decide) ?_
  refine r_istore_n [(2, .int (rget 401 To_numbers Re_at)), (0, .ref (ad 33)), (1, .int p1)] dX4_readHour_14 (by decide) rfl ?_
  refine r_aload_n 1 dX4_readHour_15 rfl ?_
  refine r_getf (v := .int Re_kind) _ dX4_readHour_16 fl_X4_42 lX_33 rfl ?_
  refine r_sipush (v := (131 : Int32)) dX4_readHour_19 (by decide) ?_
  refine r_icmp_ne (tgt := 41) dX4_readHour_22 (by decide) (fun hc509 => ?_) (fun hc509 => ?_)
  · have h := iq (fun z9 => z9) hc509 h
    refine r_aload_n 1 dX4_readHour_41 rfl ?_
    refine r_sipush (v := (131 : Int32)) dX4_readHour_42 (by decide) ?_
    obtain ⟨r510, hc511, h⟩ := ob (fun z9 => z9) rfl h
    refine c_Vv (rest := []) 0 0 _ dX4_readHour_45 kv_X4_62 (ct_Re_expect hc511) rfl rfl lX_33 rfl (Nat.le_of_ble_eq_true rfl) (by decide) (by decide) ?_
    refine r_iload_n 0 dX4_readHour_48 rfl ?_
    refine r_iret dX4_readHour_49 rfl ?_
    have h := Option.some.inj (show some _ = some o from h)
    subst h
    exact hq
  · have h := ip (fun z9 => z9) hc509 h
    refine r_iload_n 0 dX4_readHour_25 rfl ?_
    refine r_bipush (v := (99 : Int32)) dX4_readHour_26 (by decide) ?_
    refine r_icmp_gt (tgt := 36) dX4_readHour_28 (by decide) (fun hc512 => ?_) (fun hc512 => ?_)
    · have h := ip (fun z9 => z9) hc512 h
      refine r_aload_n 1 dX4_readHour_36 rfl ?_
      refine r_iconst (v := (5 : Int32)) dX4_readHour_37 (by decide) ?_
      obtain ⟨r513, hc514, h⟩ := ob (fun z9 => z9) rfl h
      refine c_Vv (rest := []) 0 0 _ dX4_readHour_38 kv_X4_102 (ct_Re_note hc514) rfl rfl lX_33 rfl (Nat.le_of_ble_eq_true rfl) (by decide) (by decide) ?_
      refine r_aload_n 1 dX4_readHour_41 rfl ?_
      refine r_sipush (v := (131 : Int32)) dX4_readHour_42 (by decide) ?_
      obtain ⟨r515, hc516, h⟩ := ob (fun z9 => z9) rfl h
      refine c_Vv (rest := []) 0 0 _ dX4_readHour_45 kv_X4_62 (ct_Re_expect hc516) rfl rfl lX_33 rfl (Nat.le_of_ble_eq_true rfl) (by decide) (by decide) ?_
      refine r_iload_n 0 dX4_readHour_48 rfl ?_
      refine r_iret dX4_readHour_49 rfl ?_
      have h := Option.some.inj (show some _ = some o from h)
      subst h
      exact hq
    · have h := iq (fun z9 => z9) hc512 h
      refine r_iload_n 0 dX4_readHour_31 rfl ?_
      refine r_iload_n 2 dX4_readHour_32 rfl ?_
      refine r_icmp_ge (tgt := 41) dX4_readHour_33 (by decide) (fun hc517 => ?_) (fun hc517 => ?_)
      · have h := ip (fun z9 => z9) hc517 h
        refine r_aload_n 1 dX4_readHour_41 rfl ?_
        refine r_sipush (v := (131 : Int32)) dX4_readHour_42 (by decide) ?_
        obtain ⟨r518, hc519, h⟩ := ob (fun z9 => z9) rfl h
        refine c_Vv (rest := []) 0 0 _ dX4_readHour_45 kv_X4_62 (ct_Re_expect hc519) rfl rfl lX_33 rfl (Nat.le_of_ble_eq_true rfl) (by decide) (by decide) ?_
        refine r_iload_n 0 dX4_readHour_48 rfl ?_
        refine r_iret dX4_readHour_49 rfl ?_
        have h := Option.some.inj (show some _ = some o from h)
        subst h
        exact hq
      · have h := iq (fun z9 => z9) hc517 h
        refine r_aload_n 1 dX4_readHour_36 rfl ?_
        refine r_iconst (v := (5 : Int32)) dX4_readHour_37 (by decide) ?_
        obtain ⟨r520, hc521, h⟩ := ob (fun z9 => z9) rfl h
        refine c_Vv (rest := []) 0 0 _ dX4_readHour_38 kv_X4_102 (ct_Re_note hc521) rfl rfl lX_33 rfl (Nat.le_of_ble_eq_true rfl) (by decide) (by decide) ?_
        refine r_aload_n 1 dX4_readHour_41 rfl ?_
        refine r_sipush (v := (131 : Int32)) dX4_readHour_42 (by decide) ?_
        obtain ⟨r522, hc523, h⟩ := ob (fun z9 => z9) rfl h
        refine c_Vv (rest := []) 0 0 _ dX4_readHour_45 kv_X4_62 (ct_Re_expect hc523) rfl rfl lX_33 rfl (Nat.le_of_ble_eq_true rfl) (by decide) (by decide) ?_
        refine r_iload_n 0 dX4_readHour_48 rfl ?_
        refine r_iret dX4_readHour_49 rfl ?_
        have h := Option.some.inj (show some _ = some o from h)
        subst h
        exact hq
theorem ct_Re_readHour {g : GG} {ad : Nat → Nat} {t : va_W} {x0 x1 x3 x4 x5 x11 x12 x18 x19 x20 x26 x29 x30 x31 x37 x39 x40 x41 x47 x48 x54 x56 x58 x59 x60 x61 x63 x64 x65 x66 : Int32} {x2 x6 x7 x8 x9 x10 x13 x14 x15 x16 x17 x21 x22 x23 x42 x43 x44 x45 x46 x49 x50 x51 x52 x53 x62 x67 : Nat → Int32} {x32 : Int64} {x36 x38 x55 x57 : Nat → Int64} {Re_at : Int32} {Re_kind : Int32} {Re_error : Int32} {Re_errorPlace : Int32} {To_kinds : Nat → Int32} {To_starts : Nat → Int32} {To_numbers : Nat → Int32} {p1 : Int32} {o : Int32 × Int32 × Int32 × Int32 × Int32} (h : f_Re_readHour Re_at Re_kind Re_error Re_errorPlace To_kinds To_starts To_numbers p1 = some o) : Ct g mX4_readHour 5 0 0 [.ref (ad 33), .int p1] (wlX g ad x0 x1 x2 x3 x4 x5 x6 x7 x8 x9 x10 x11 x12 x13 x14 x15 x16 x17 x18 x19 x20 x21 x22 x23 Re_at Re_kind x26 Re_error Re_errorPlace x29 x30 x31 x32 To_kinds To_starts To_numbers x36 x37 x38 x39 x40 x41 x42 x43 x44 x45 x46 x47 x48 x49 x50 x51 x52 x53 x54 x55 x56 x57 x58 x59 x60 x61 x62 x63 x64 x65 x66 x67 ++ t) (Dv (some (.int o.1)) (wlX g ad x0 x1 x2 x3 x4 x5 x6 x7 x8 x9 x10 x11 x12 x13 x14 x15 x16 x17 x18 x19 x20 x21 x22 x23 o.2.1 o.2.2.1 x26 o.2.2.2.1 o.2.2.2.2 x29 x30 x31 x32 To_kinds To_starts To_numbers x36 x37 x38 x39 x40 x41 x42 x43 x44 x45 x46 x47 x48 x49 x50 x51 x52 x53 x54 x55 x56 x57 x58 x59 x60 x61 x62 x63 x64 x65 x66 x67 ++ t)) := Ct.ofR (by decide +kernel) rfl (Nat.le_of_ble_eq_true rfl) (rt_Re_readHour h ⟨rfl, rfl⟩)
