set_option maxRecDepth 20000 in
set_option maxHeartbeats 4000000 in
theorem rt_Re_advance {g : GG} {ad : Nat → Nat} {t : va_W} {x0 x1 x3 x4 x5 x11 x12 x18 x19 x20 x26 x27 x28 x29 x30 x31 x37 x39 x40 x41 x47 x48 x54 x56 x58 x59 x60 x61 x63 x64 x65 x66 : Int32} {x2 x6 x7 x8 x9 x10 x13 x14 x15 x16 x17 x21 x22 x23 x34 x35 x42 x43 x44 x45 x46 x49 x50 x51 x52 x53 x62 x67 : Nat → Int32} {x32 : Int64} {x36 x38 x55 x57 : Nat → Int64} {Re_at : Int32} {Re_kind : Int32} {To_kinds : Nat → Int32} {o : Int32 × Int32} {Q : Rs → va_W → Prop} (h : f_Re_advance Re_at Re_kind To_kinds = some o) (hq : Q (.inl (none)) (wlX g ad x0 x1 x2 x3 x4 x5 x6 x7 x8 x9 x10 x11 x12 x13 x14 x15 x16 x17 x18 x19 x20 x21 x22 x23 o.1 o.2 x26 x27 x28 x29 x30 x31 x32 To_kinds x34 x35 x36 x37 x38 x39 x40 x41 x42 x43 x44 x45 x46 x47 x48 x49 x50 x51 x52 x53 x54 x55 x56 x57 x58 x59 x60 x61 x62 x63 x64 x65 x66 x67 ++ t)) : R g mX4_advance 2 0 0 0 [(0, .ref (ad 33))] [] (wlX g ad x0 x1 x2 x3 x4 x5 x6 x7 x8 x9 x10 x11 x12 x13 x14 x15 x16 x17 x18 x19 x20 x21 x22 x23 Re_at Re_kind x26 x27 x28 x29 x30 x31 x32 To_kinds x34 x35 x36 x37 x38 x39 x40 x41 x42 x43 x44 x45 x46 x47 x48 x49 x50 x51 x52 x53 x54 x55 x56 x57 x58 x59 x60 x61 x62 x63 x64 x65 x66 x67 ++ t) Q := by
  unfold f_Re_advance at h
  refine r_aload_n 0 dX4_advance_0 rfl ?_
  refine r_dup dX4_advance_1 rfl ?_
  refine r_getf (v := .int Re_at) _ dX4_advance_2 fl_X4_80 lX_33 rfl ?_
  refine r_iconst (v := (1 : Int32)) dX4_advance_5 (by decide) ?_
  refine r_iadd dX4_advance_6 ?_
  refine r_putf _ dX4_advance_7 fl_X4_80 lX_33 (Nat.le_of_ble_eq_true rfl) rfl rfl (sX_24 _) ?_
  refine r_aload_n 0 dX4_advance_10 rfl ?_
  refine r_aload_n 0 dX4_advance_11 rfl ?_
  refine r_getf (v := .ref (ad 34)) _ dX4_advance_12 fl_X4_14 lX_33 rfl ?_
  refine r_getf (v := .ref (ad 35)) _ dX4_advance_15 fl_X4_83 lX_34 rfl ?_
  refine r_aload_n 0 dX4_advance_18 rfl ?_
  refine r_getf (v := .int (Re_at + (1 : Int32))) _ dX4_advance_19 fl_X4_80 lX_33 rfl ?_
  refine c_V (rest := [.ref (ad 33)]) 0 0 _ dX4_advance_22 kv_X4_87 (ct_Row_get lX_35 lX_36 (Nat.le_of_ble_eq_true rfl)) rfl rfl lX_35 rfl (Nat.le_of_ble_eq_true rfl) (by decide) (by decide) ?_
  refine r_putf _ dX4_advance_25 fl_X4_42 lX_33 (Nat.le_of_ble_eq_true rfl) rfl rfl (sX_25 _) ?_
  refine r_vret dX4_advance_28 rfl ?_
  have h := Option.some.inj (show some _ = some o from h)
  subst h
  exact hq
theorem ct_Re_advance {g : GG} {ad : Nat → Nat} {t : va_W} {x0 x1 x3 x4 x5 x11 x12 x18 x19 x20 x26 x27 x28 x29 x30 x31 x37 x39 x40 x41 x47 x48 x54 x56 x58 x59 x60 x61 x63 x64 x65 x66 : Int32} {x2 x6 x7 x8 x9 x10 x13 x14 x15 x16 x17 x21 x22 x23 x34 x35 x42 x43 x44 x45 x46 x49 x50 x51 x52 x53 x62 x67 : Nat → Int32} {x32 : Int64} {x36 x38 x55 x57 : Nat → Int64} {Re_at : Int32} {Re_kind : Int32} {To_kinds : Nat → Int32} {o : Int32 × Int32} (h : f_Re_advance Re_at Re_kind To_kinds = some o) : Ct g mX4_advance 2 0 0 [.ref (ad 33)] (wlX g ad x0 x1 x2 x3 x4 x5 x6 x7 x8 x9 x10 x11 x12 x13 x14 x15 x16 x17 x18 x19 x20 x21 x22 x23 Re_at Re_kind x26 x27 x28 x29 x30 x31 x32 To_kinds x34 x35 x36 x37 x38 x39 x40 x41 x42 x43 x44 x45 x46 x47 x48 x49 x50 x51 x52 x53 x54 x55 x56 x57 x58 x59 x60 x61 x62 x63 x64 x65 x66 x67 ++ t) (Dv (none) (wlX g ad x0 x1 x2 x3 x4 x5 x6 x7 x8 x9 x10 x11 x12 x13 x14 x15 x16 x17 x18 x19 x20 x21 x22 x23 o.1 o.2 x26 x27 x28 x29 x30 x31 x32 To_kinds x34 x35 x36 x37 x38 x39 x40 x41 x42 x43 x44 x45 x46 x47 x48 x49 x50 x51 x52 x53 x54 x55 x56 x57 x58 x59 x60 x61 x62 x63 x64 x65 x66 x67 ++ t)) := Ct.ofR (by decide +kernel) rfl (Nat.le_of_ble_eq_true rfl) (rt_Re_advance h ⟨rfl, rfl⟩)
set_option maxRecDepth 20000 in
set_option maxHeartbeats 4000000 in
theorem rt_Or_addStep {g : GG} {ad : Nat → Nat} {t : va_W} {x0 x1 x3 x4 x5 x11 x12 x18 x19 x20 x24 x25 x26 x27 x28 x29 x30 x31 x37 x39 x40 x41 x47 x54 x56 x58 x59 x60 x61 x63 x64 x65 x66 : Int32} {x2 x6 x7 x8 x9 x10 x13 x14 x15 x16 x17 x21 x22 x23 x33 x34 x35 x42 x43 x44 x45 x46 x49 x50 x51 x62 x67 : Nat → Int32} {x32 : Int64} {x36 x38 x55 x57 : Nat → Int64} {Or_stepCount : Int32} {Or_stepKinds : Nat → Int32} {Or_stepParts : Nat → Int32} {p1 : Int32} {p2 : Int32} {o : Int32 × (Nat → Int32) × (Nat → Int32)} {Q : Rs → va_W → Prop} (h : f_Or_addStep Or_stepCount Or_stepKinds Or_stepParts p1 p2 = some o) (hq : Q (.inl (none)) (wlX g ad x0 x1 x2 x3 x4 x5 x6 x7 x8 x9 x10 x11 x12 x13 x14 x15 x16 x17 x18 x19 x20 x21 x22 x23 x24 x25 x26 x27 x28 x29 x30 x31 x32 x33 x34 x35 x36 x37 x38 x39 x40 x41 x42 x43 x44 x45 x46 x47 o.1 x49 x50 x51 o.2.1 o.2.2 x54 x55 x56 x57 x58 x59 x60 x61 x62 x63 x64 x65 x66 x67 ++ t)) : R g mX3_addStep 2 0 0 0 [(0, .ref (ad 56)), (1, .int p1), (2, .int p2)] [] (wlX g ad x0 x1 x2 x3 x4 x5 x6 x7 x8 x9 x10 x11 x12 x13 x14 x15 x16 x17 x18 x19 x20 x21 x22 x23 x24 x25 x26 x27 x28 x29 x30 x31 x32 x33 x34 x35 x36 x37 x38 x39 x40 x41 x42 x43 x44 x45 x46 x47 Or_stepCount x49 x50 x51 Or_stepKinds Or_stepParts x54 x55 x56 x57 x58 x59 x60 x61 x62 x63 x64 x65 x66 x67 ++ t) Q := by
  unfold f_Or_addStep at h
  refine r_aload_n 0 dX3_addStep_0 rfl ?_
  refine r_getf (v := .int Or_stepCount) _ dX3_addStep_1 fl_X3_36 lX_56 rfl ?_
  refine r_sipush (v := (400 : Int32)) dX3_addStep_4 (by decide) ?_
  refine r_icmp_ge (tgt := 44) dX3_addStep_7 (by decide) (fun hc1 => ?_) (fun hc1 => ?_)
  · have h := ip (fun z9 => z9) hc1 h
    refine r_vret dX3_addStep_44 rfl ?_
    have h := Option.some.inj (show some _ = some o from h)
    subst h
    exact hq
  · have h := iq (fun z9 => z9) hc1 h
    refine r_aload_n 0 dX3_addStep_10 rfl ?_
    refine r_getf (v := .ref (ad 63)) _ dX3_addStep_11 fl_X3_26 lX_56 rfl ?_
    refine r_aload_n 0 dX3_addStep_14 rfl ?_
    refine r_getf (v := .int Or_stepCount) _ dX3_addStep_15 fl_X3_36 lX_56 rfl ?_
    refine r_iload_n 1 dX3_addStep_18 rfl ?_
    refine c_Vv (rest := []) 0 0 _ dX3_addStep_19 kv_X3_43 (ct_Row_set lX_63 lX_64 (sX_52 _) (Nat.le_of_ble_eq_true rfl)) rfl rfl lX_63 rfl (Nat.le_of_ble_eq_true rfl) (by decide) (by decide) ?_
    refine r_aload_n 0 dX3_addStep_22 rfl ?_
    refine r_getf (v := .ref (ad 65)) _ dX3_addStep_23 fl_X3_29 lX_56 rfl ?_
    refine r_aload_n 0 dX3_addStep_26 rfl ?_
    refine r_getf (v := .int Or_stepCount) _ dX3_addStep_27 fl_X3_36 lX_56 rfl ?_
    refine r_iload_n 2 dX3_addStep_30 rfl ?_
    refine c_Vv (rest := []) 0 0 _ dX3_addStep_31 kv_X3_43 (ct_Row_set lX_65 lX_66 (sX_53 _) (Nat.le_of_ble_eq_true rfl)) rfl rfl lX_65 rfl (Nat.le_of_ble_eq_true rfl) (by decide) (by decide) ?_
    refine r_aload_n 0 dX3_addStep_34 rfl ?_
    refine r_dup dX3_addStep_35 rfl ?_
    refine r_getf (v := .int Or_stepCount) _ dX3_addStep_36 fl_X3_36 lX_56 rfl ?_
    refine r_iconst (v := (1 : Int32)) dX3_addStep_39 (by decide) ?_
    refine r_iadd dX3_addStep_40 ?_
    refine r_putf _ dX3_addStep_41 fl_X3_36 lX_56 (Nat.le_of_ble_eq_true rfl) rfl rfl (sX_48 _) ?_
    refine r_vret dX3_addStep_44 rfl ?_
    have h := Option.some.inj (show some _ = some o from h)
    subst h
    exact hq
theorem ct_Or_addStep {g : GG} {ad : Nat → Nat} {t : va_W} {x0 x1 x3 x4 x5 x11 x12 x18 x19 x20 x24 x25 x26 x27 x28 x29 x30 x31 x37 x39 x40 x41 x47 x54 x56 x58 x59 x60 x61 x63 x64 x65 x66 : Int32} {x2 x6 x7 x8 x9 x10 x13 x14 x15 x16 x17 x21 x22 x23 x33 x34 x35 x42 x43 x44 x45 x46 x49 x50 x51 x62 x67 : Nat → Int32} {x32 : Int64} {x36 x38 x55 x57 : Nat → Int64} {Or_stepCount : Int32} {Or_stepKinds : Nat → Int32} {Or_stepParts : Nat → Int32} {p1 : Int32} {p2 : Int32} {o : Int32 × (Nat → Int32) × (Nat → Int32)} (h : f_Or_addStep Or_stepCount Or_stepKinds Or_stepParts p1 p2 = some o) : Ct g mX3_addStep 2 0 0 [.ref (ad 56), .int p1, .int p2] (wlX g ad x0 x1 x2 x3 x4 x5 x6 x7 x8 x9 x10 x11 x12 x13 x14 x15 x16 x17 x18 x19 x20 x21 x22 x23 x24 x25 x26 x27 x28 x29 x30 x31 x32 x33 x34 x35 x36 x37 x38 x39 x40 x41 x42 x43 x44 x45 x46 x47 Or_stepCount x49 x50 x51 Or_stepKinds Or_stepParts x54 x55 x56 x57 x58 x59 x60 x61 x62 x63 x64 x65 x66 x67 ++ t) (Dv (none) (wlX g ad x0 x1 x2 x3 x4 x5 x6 x7 x8 x9 x10 x11 x12 x13 x14 x15 x16 x17 x18 x19 x20 x21 x22 x23 x24 x25 x26 x27 x28 x29 x30 x31 x32 x33 x34 x35 x36 x37 x38 x39 x40 x41 x42 x43 x44 x45 x46 x47 o.1 x49 x50 x51 o.2.1 o.2.2 x54 x55 x56 x57 x58 x59 x60 x61 x62 x63 x64 x65 x66 x67 ++ t)) := Ct.ofR (by decide +kernel) rfl (Nat.le_of_ble_eq_true rfl) (rt_Or_addStep h ⟨rfl, rfl⟩)
set_option maxRecDepth 20000 in
set_option maxHeartbeats 4000000 in
theorem rt_Re_note {g : GG} {ad : Nat → Nat} {t : va_W} {x0 x1 x3 x4 x5 x11 x12 x18 x19 x20 x25 x26 x29 x30 x31 x37 x39 x40 x41 x47 x48 x54 x56 x58 x59 x60 x61 x63 x64 x65 x66 : Int32} {x2 x6 x7 x8 x9 x10 x13 x14 x15 x16 x17 x21 x22 x23 x33 x35 x42 x43 x44 x45 x46 x49 x50 x51 x52 x53 x62 x67 : Nat → Int32} {x32 : Int64} {x36 x38 x55 x57 : Nat → Int64} {Re_at : Int32} {Re_error : Int32} {Re_errorPlace : Int32} {To_starts : Nat → Int32} {p1 : Int32} {o : Int32 × Int32} {Q : Rs → va_W → Prop} (h : f_Re_note Re_at Re_error Re_errorPlace To_starts p1 = some o) (hq : Q (.inl (none)) (wlX g ad x0 x1 x2 x3 x4 x5 x6 x7 x8 x9 x10 x11 x12 x13 x14 x15 x16 x17 x18 x19 x20 x21 x22 x23 Re_at x25 x26 o.1 o.2 x29 x30 x31 x32 x33 To_starts x35 x36 x37 x38 x39 x40 x41 x42 x43 x44 x45 x46 x47 x48 x49 x50 x51 x52 x53 x54 x55 x56 x57 x58 x59 x60 x61 x62 x63 x64 x65 x66 x67 ++ t)) : R g mX4_note 2 0 0 0 [(0, .ref (ad 33)), (1, .int p1)] [] (wlX g ad x0 x1 x2 x3 x4 x5 x6 x7 x8 x9 x10 x11 x12 x13 x14 x15 x16 x17 x18 x19 x20 x21 x22 x23 Re_at x25 x26 Re_error Re_errorPlace x29 x30 x31 x32 x33 To_starts x35 x36 x37 x38 x39 x40 x41 x42 x43 x44 x45 x46 x47 x48 x49 x50 x51 x52 x53 x54 x55 x56 x57 x58 x59 x60 x61 x62 x63 x64 x65 x66 x67 ++ t) Q := by
  unfold f_Re_note at h
  refine r_aload_n 0 dX4_note_0 rfl ?_
  refine r_getf (v := .int Re_error) _ dX4_note_1 fl_X4_46 lX_33 rfl ?_
  refine r_if_eq (tgt := 20) dX4_note_4 (by decide) (fun hc2 => ?_) (fun hc2 => ?_)
  · have h := ip (fun z9 => z9) hc2 h
    refine r_aload_n 0 dX4_note_20 rfl ?_
    refine r_iload_n 1 dX4_note_21 rfl ?_
    refine r_putf _ dX4_note_22 fl_X4_46 lX_33 (Nat.le_of_ble_eq_true rfl) rfl rfl (sX_27 _) ?_
    refine r_aload_n 0 dX4_note_25 rfl ?_
    refine r_aload_n 0 dX4_note_26 rfl ?_
    refine r_getf (v := .ref (ad 34)) _ dX4_note_27 fl_X4_14 lX_33 rfl ?_
    refine r_getf (v := .ref (ad 37)) _ dX4_note_30 fl_X4_99 lX_34 rfl ?_
    refine r_aload_n 0 dX4_note_33 rfl ?_
    refine r_getf (v := .int Re_at) _ dX4_note_34 fl_X4_80 lX_33 rfl ?_
    refine c_V (rest := [.ref (ad 33)]) 0 0 _ dX4_note_37 kv_X4_87 (ct_Row_get lX_37 lX_38 (Nat.le_of_ble_eq_true rfl)) rfl rfl lX_37 rfl (Nat.le_of_ble_eq_true rfl) (by decide) (by decide) ?_
    refine r_putf _ dX4_note_40 fl_X4_96 lX_33 (Nat.le_of_ble_eq_true rfl) rfl rfl (sX_28 _) ?_
    refine r_vret dX4_note_43 rfl ?_
    have h := Option.some.inj (show some _ = some o from h)
    subst h
    exact hq
  · have h := iq (fun z9 => z9) hc2 h
    refine r_iload_n 1 dX4_note_7 rfl ?_
    refine r_iconst (v := (1 : Int32)) dX4_note_8 (by decide) ?_
    refine r_icmp_ne (tgt := 43) dX4_note_9 (by decide) (fun hc3 => ?_) (fun hc3 => ?_)
    · have h := iq (fun z9 => z9) hc3 h
      refine r_vret dX4_note_43 rfl ?_
      have h := Option.some.inj (show some _ = some o from h)
      subst h
      exact hq
    · have h := ip (fun z9 => z9) hc3 h
      refine r_aload_n 0 dX4_note_12 rfl ?_
      refine r_getf (v := .int Re_error) _ dX4_note_13 fl_X4_46 lX_33 rfl ?_
      refine r_iconst (v := (1 : Int32)) dX4_note_16 (by decide) ?_
      refine r_icmp_eq (tgt := 43) dX4_note_17 (by decide) (fun hc4 => ?_) (fun hc4 => ?_)
      · have h := ip (fun z9 => z9) hc4 h
        refine r_vret dX4_note_43 rfl ?_
        have h := Option.some.inj (show some _ = some o from h)
        subst h
        exact hq
      · have h := iq (fun z9 => z9) hc4 h
        refine r_aload_n 0 dX4_note_20 rfl ?_
        refine r_iload_n 1 dX4_note_21 rfl ?_
        refine r_putf _ dX4_note_22 fl_X4_46 lX_33 (Nat.le_of_ble_eq_true rfl) rfl rfl (sX_27 _) ?_
        refine r_aload_n 0 dX4_note_25 rfl ?_
        refine r_aload_n 0 dX4_note_26 rfl ?_
        refine r_getf (v := .ref (ad 34)) _ dX4_note_27 fl_X4_14 lX_33 rfl ?_
        refine r_getf (v := .ref (ad 37)) _ dX4_note_30 fl_X4_99 lX_34 rfl ?_
        refine r_aload_n 0 dX4_note_33 rfl ?_
        refine r_getf (v := .int Re_at) _ dX4_note_34 fl_X4_80 lX_33 rfl ?_
        refine c_V (rest := [.ref (ad 33)]) 0 0 _ dX4_note_37 kv_X4_87 (ct_Row_get lX_37 lX_38 (Nat.le_of_ble_eq_true rfl)) rfl rfl lX_37 rfl (Nat.le_of_ble_eq_true rfl) (by decide) (by decide) ?_
        refine r_putf _ dX4_note_40 fl_X4_96 lX_33 (Nat.le_of_ble_eq_true rfl) rfl rfl (sX_28 _) ?_
        refine r_vret dX4_note_43 rfl ?_
        have h := Option.some.inj (show some _ = some o from h)
        subst h
        exact hq
theorem ct_Re_note {g : GG} {ad : Nat → Nat} {t : va_W} {x0 x1 x3 x4 x5 x11 x12 x18 x19 x20 x25 x26 x29 x30 x31 x37 x39 x40 x41 x47 x48 x54 x56 x58 x59 x60 x61 x63 x64 x65 x66 : Int32} {x2 x6 x7 x8 x9 x10 x13 x14 x15 x16 x17 x21 x22 x23 x33 x35 x42 x43 x44 x45 x46 x49 x50 x51 x52 x53 x62 x67 : Nat → Int32} {x32 : Int64} {x36 x38 x55 x57 : Nat → Int64} {Re_at : Int32} {Re_error : Int32} {Re_errorPlace : Int32} {To_starts : Nat → Int32} {p1 : Int32} {o : Int32 × Int32} (h : f_Re_note Re_at Re_error Re_errorPlace To_starts p1 = some o) : Ct g mX4_note 2 0 0 [.ref (ad 33), .int p1] (wlX g ad x0 x1 x2 x3 x4 x5 x6 x7 x8 x9 x10 x11 x12 x13 x14 x15 x16 x17 x18 x19 x20 x21 x22 x23 Re_at x25 x26 Re_error Re_errorPlace x29 x30 x31 x32 x33 To_starts x35 x36 x37 x38 x39 x40 x41 x42 x43 x44 x45 x46 x47 x48 x49 x50 x51 x52 x53 x54 x55 x56 x57 x58 x59 x60 x61 x62 x63 x64 x65 x66 x67 ++ t) (Dv (none) (wlX g ad x0 x1 x2 x3 x4 x5 x6 x7 x8 x9 x10 x11 x12 x13 x14 x15 x16 x17 x18 x19 x20 x21 x22 x23 Re_at x25 x26 o.1 o.2 x29 x30 x31 x32 x33 To_starts x35 x36 x37 x38 x39 x40 x41 x42 x43 x44 x45 x46 x47 x48 x49 x50 x51 x52 x53 x54 x55 x56 x57 x58 x59 x60 x61 x62 x63 x64 x65 x66 x67 ++ t)) := Ct.ofR (by decide +kernel) rfl (Nat.le_of_ble_eq_true rfl) (rt_Re_note h ⟨rfl, rfl⟩)
set_option maxRecDepth 20000 in
set_option maxHeartbeats 4000000 in
theorem rt_Re_fail {g : GG} {ad : Nat → Nat} {t : va_W} {x0 x1 x3 x4 x5 x11 x12 x18 x19 x20 x26 x29 x30 x31 x37 x39 x40 x41 x47 x48 x54 x56 x58 x59 x60 x61 x63 x64 x65 x66 : Int32} {x2 x6 x7 x8 x9 x10 x13 x14 x15 x16 x17 x21 x22 x23 x33 x35 x42 x43 x44 x45 x46 x49 x50 x51 x52 x53 x62 x67 : Nat → Int32} {x32 : Int64} {x36 x38 x55 x57 : Nat → Int64} {Re_at : Int32} {Re_kind : Int32} {Re_error : Int32} {Re_errorPlace : Int32} {To_starts : Nat → Int32} {o : Int32 × Int32 × Int32} {Q : Rs → va_W → Prop} (h : f_Re_fail Re_at Re_kind Re_error Re_errorPlace To_starts = some o) (hq : Q (.inl (none)) (wlX g ad x0 x1 x2 x3 x4 x5 x6 x7 x8 x9 x10 x11 x12 x13 x14 x15 x16 x17 x18 x19 x20 x21 x22 x23 Re_at o.1 x26 o.2.1 o.2.2 x29 x30 x31 x32 x33 To_starts x35 x36 x37 x38 x39 x40 x41 x42 x43 x44 x45 x46 x47 x48 x49 x50 x51 x52 x53 x54 x55 x56 x57 x58 x59 x60 x61 x62 x63 x64 x65 x66 x67 ++ t)) : R g mX4_fail 3 0 0 0 [(0, .ref (ad 33))] [] (wlX g ad x0 x1 x2 x3 x4 x5 x6 x7 x8 x9 x10 x11 x12 x13 x14 x15 x16 x17 x18 x19 x20 x21 x22 x23 Re_at Re_kind x26 Re_error Re_errorPlace x29 x30 x31 x32 x33 To_starts x35 x36 x37 x38 x39 x40 x41 x42 x43 x44 x45 x46 x47 x48 x49 x50 x51 x52 x53 x54 x55 x56 x57 x58 x59 x60 x61 x62 x63 x64 x65 x66 x67 ++ t) Q := by
  unfold f_Re_fail at h
  refine r_aload_n 0 dX4_fail_0 rfl ?_
  refine r_iconst (v := (1 : Int32)) dX4_fail_1 (by decide) ?_
  obtain ⟨r5, hc6, h⟩ := ob (fun z9 => z9) rfl h
  refine c_Vv (rest := []) 0 0 _ dX4_fail_2 kv_X4_102 (ct_Re_note hc6) rfl rfl lX_33 rfl (Nat.le_of_ble_eq_true rfl) (by decide) (by decide) ?_
  refine r_aload_n 0 dX4_fail_5 rfl ?_
  refine r_sipush (v := (133 : Int32)) dX4_fail_6 (by decide) ?_
  refine r_putf _ dX4_fail_9 fl_X4_42 lX_33 (Nat.le_of_ble_eq_true rfl) rfl rfl (sX_25 _) ?_
  refine r_vret dX4_fail_12 rfl ?_
  have h := Option.some.inj (show some _ = some o from h)
  subst h
  exact hq
theorem ct_Re_fail {g : GG} {ad : Nat → Nat} {t : va_W} {x0 x1 x3 x4 x5 x11 x12 x18 x19 x20 x26 x29 x30 x31 x37 x39 x40 x41 x47 x48 x54 x56 x58 x59 x60 x61 x63 x64 x65 x66 : Int32} {x2 x6 x7 x8 x9 x10 x13 x14 x15 x16 x17 x21 x22 x23 x33 x35 x42 x43 x44 x45 x46 x49 x50 x51 x52 x53 x62 x67 : Nat → Int32} {x32 : Int64} {x36 x38 x55 x57 : Nat → Int64} {Re_at : Int32} {Re_kind : Int32} {Re_error : Int32} {Re_errorPlace : Int32} {To_starts : Nat → Int32} {o : Int32 × Int32 × Int32} (h : f_Re_fail Re_at Re_kind Re_error Re_errorPlace To_starts = some o) : Ct g mX4_fail 3 0 0 [.ref (ad 33)] (wlX g ad x0 x1 x2 x3 x4 x5 x6 x7 x8 x9 x10 x11 x12 x13 x14 x15 x16 x17 x18 x19 x20 x21 x22 x23 Re_at Re_kind x26 Re_error Re_errorPlace x29 x30 x31 x32 x33 To_starts x35 x36 x37 x38 x39 x40 x41 x42 x43 x44 x45 x46 x47 x48 x49 x50 x51 x52 x53 x54 x55 x56 x57 x58 x59 x60 x61 x62 x63 x64 x65 x66 x67 ++ t) (Dv (none) (wlX g ad x0 x1 x2 x3 x4 x5 x6 x7 x8 x9 x10 x11 x12 x13 x14 x15 x16 x17 x18 x19 x20 x21 x22 x23 Re_at o.1 x26 o.2.1 o.2.2 x29 x30 x31 x32 x33 To_starts x35 x36 x37 x38 x39 x40 x41 x42 x43 x44 x45 x46 x47 x48 x49 x50 x51 x52 x53 x54 x55 x56 x57 x58 x59 x60 x61 x62 x63 x64 x65 x66 x67 ++ t)) := Ct.ofR (by decide +kernel) rfl (Nat.le_of_ble_eq_true rfl) (rt_Re_fail h ⟨rfl, rfl⟩)
set_option maxRecDepth 20000 in
set_option maxHeartbeats 4000000 in
theorem rt_Re_deepen {g : GG} {ad : Nat → Nat} {t : va_W} {x0 x1 x3 x4 x5 x11 x12 x18 x19 x20 x29 x30 x31 x37 x39 x40 x41 x47 x48 x54 x56 x58 x59 x60 x61 x63 x64 x65 x66 : Int32} {x2 x6 x7 x8 x9 x10 x13 x14 x15 x16 x17 x21 x22 x23 x35 x42 x43 x44 x45 x46 x49 x50 x51 x52 x53 x62 x67 : Nat → Int32} {x32 : Int64} {x36 x38 x55 x57 : Nat → Int64} {Re_at : Int32} {Re_kind : Int32} {Re_depth : Int32} {Re_error : Int32} {Re_errorPlace : Int32} {To_kinds : Nat → Int32} {To_starts : Nat → Int32} {o : Int32 × Int32 × Int32 × Int32 × Int32 × Int32} {Q : Rs → va_W → Prop} (h : f_Re_deepen Re_at Re_kind Re_depth Re_error Re_errorPlace To_kinds To_starts = some o) (hq : Q (.inl (some (.int o.1))) (wlX g ad x0 x1 x2 x3 x4 x5 x6 x7 x8 x9 x10 x11 x12 x13 x14 x15 x16 x17 x18 x19 x20 x21 x22 x23 o.2.1 o.2.2.1 o.2.2.2.1 o.2.2.2.2.1 o.2.2.2.2.2 x29 x30 x31 x32 To_kinds To_starts x35 x36 x37 x38 x39 x40 x41 x42 x43 x44 x45 x46 x47 x48 x49 x50 x51 x52 x53 x54 x55 x56 x57 x58 x59 x60 x61 x62 x63 x64 x65 x66 x67 ++ t)) : R g mX4_deepen 4 0 0 0 [(0, .ref (ad 33))] [] (wlX g ad x0 x1 x2 x3 x4 x5 x6 x7 x8 x9 x10 x11 x12 x13 x14 x15 x16 x17 x18 x19 x20 x21 x22 x23 Re_at Re_kind Re_depth Re_error Re_errorPlace x29 x30 x31 x32 To_kinds To_starts x35 x36 x37 x38 x39 x40 x41 x42 x43 x44 x45 x46 x47 x48 x49 x50 x51 x52 x53 x54 x55 x56 x57 x58 x59 x60 x61 x62 x63 x64 x65 x66 x67 ++ t) Q := by
  unfold f_Re_deepen at h
  refine r_aload_n 0 dX4_deepen_0 rfl ?_
  refine r_getf (v := .int Re_depth) _ dX4_deepen_1 fl_X4_93 lX_33 rfl ?_
  refine r_bipush (v := (8 : Int32)) dX4_deepen_4 (by decide) ?_
  refine r_icmp_lt (tgt := 15) dX4_deepen_6 (by decide) (fun hc7 => ?_) (fun hc7 => ?_)
  · have h := ip (fun z9 => z9) hc7 h
    refine r_aload_n 0 dX4_deepen_15 rfl ?_
    refine r_dup dX4_deepen_16 rfl ?_
    refine r_getf (v := .int Re_depth) _ dX4_deepen_17 fl_X4_93 lX_33 rfl ?_
    refine r_iconst (v := (1 : Int32)) dX4_deepen_20 (by decide) ?_
    refine r_iadd dX4_deepen_21 ?_
    refine r_putf _ dX4_deepen_22 fl_X4_93 lX_33 (Nat.le_of_ble_eq_true rfl) rfl rfl (sX_26 _) ?_
    refine r_aload_n 0 dX4_deepen_25 rfl ?_
    obtain ⟨r8, hc9, h⟩ := ob (fun z9 => z9) rfl h
    refine c_Vv (rest := []) 0 0 _ dX4_deepen_26 kv_X4_105 (ct_Re_advance hc9) rfl rfl lX_33 rfl (Nat.le_of_ble_eq_true rfl) (by decide) (by decide) ?_
    refine r_iconst (v := (1 : Int32)) dX4_deepen_29 (by decide) ?_
    refine r_zret dX4_deepen_30 rfl (by decide) ?_
    have h := Option.some.inj (show some _ = some o from h)
    subst h
    exact hq
  · have h := iq (fun z9 => z9) hc7 h
    refine r_aload_n 0 dX4_deepen_9 rfl ?_
    obtain ⟨r10, hc11, h⟩ := ob (fun z9 => z9) rfl h
    refine c_Vv (rest := []) 0 0 _ dX4_deepen_10 kv_X4_59 (ct_Re_fail hc11) rfl rfl lX_33 rfl (Nat.le_of_ble_eq_true rfl) (by decide) (by decide) ?_
    refine r_iconst (v := (0 : Int32)) dX4_deepen_13 (by decide) ?_
    refine r_zret dX4_deepen_14 rfl (by decide) ?_
    have h := Option.some.inj (show some _ = some o from h)
    subst h
    exact hq
theorem ct_Re_deepen {g : GG} {ad : Nat → Nat} {t : va_W} {x0 x1 x3 x4 x5 x11 x12 x18 x19 x20 x29 x30 x31 x37 x39 x40 x41 x47 x48 x54 x56 x58 x59 x60 x61 x63 x64 x65 x66 : Int32} {x2 x6 x7 x8 x9 x10 x13 x14 x15 x16 x17 x21 x22 x23 x35 x42 x43 x44 x45 x46 x49 x50 x51 x52 x53 x62 x67 : Nat → Int32} {x32 : Int64} {x36 x38 x55 x57 : Nat → Int64} {Re_at : Int32} {Re_kind : Int32} {Re_depth : Int32} {Re_error : Int32} {Re_errorPlace : Int32} {To_kinds : Nat → Int32} {To_starts : Nat → Int32} {o : Int32 × Int32 × Int32 × Int32 × Int32 × Int32} (h : f_Re_deepen Re_at Re_kind Re_depth Re_error Re_errorPlace To_kinds To_starts = some o) : Ct g mX4_deepen 4 0 0 [.ref (ad 33)] (wlX g ad x0 x1 x2 x3 x4 x5 x6 x7 x8 x9 x10 x11 x12 x13 x14 x15 x16 x17 x18 x19 x20 x21 x22 x23 Re_at Re_kind Re_depth Re_error Re_errorPlace x29 x30 x31 x32 To_kinds To_starts x35 x36 x37 x38 x39 x40 x41 x42 x43 x44 x45 x46 x47 x48 x49 x50 x51 x52 x53 x54 x55 x56 x57 x58 x59 x60 x61 x62 x63 x64 x65 x66 x67 ++ t) (Dv (some (.int o.1)) (wlX g ad x0 x1 x2 x3 x4 x5 x6 x7 x8 x9 x10 x11 x12 x13 x14 x15 x16 x17 x18 x19 x20 x21 x22 x23 o.2.1 o.2.2.1 o.2.2.2.1 o.2.2.2.2.1 o.2.2.2.2.2 x29 x30 x31 x32 To_kinds To_starts x35 x36 x37 x38 x39 x40 x41 x42 x43 x44 x45 x46 x47 x48 x49 x50 x51 x52 x53 x54 x55 x56 x57 x58 x59 x60 x61 x62 x63 x64 x65 x66 x67 ++ t)) := Ct.ofR (by decide +kernel) rfl (Nat.le_of_ble_eq_true rfl) (rt_Re_deepen h ⟨rfl, rfl⟩)
set_option maxRecDepth 20000 in
set_option maxHeartbeats 4000000 in
theorem rt_To_wordAt {g : GG} {ad : Nat → Nat} {t : va_W} {x0 x1 x3 x4 x5 x11 x12 x18 x19 x20 x24 x25 x26 x27 x28 x29 x30 x31 x37 x39 x40 x41 x47 x48 x54 x56 x58 x59 x60 x61 x63 x64 x65 x66 : Int32} {x2 x6 x7 x8 x9 x10 x13 x14 x15 x16 x17 x21 x22 x23 x33 x34 x35 x42 x43 x44 x45 x46 x49 x50 x51 x52 x53 x62 x67 : Nat → Int32} {x32 : Int64} {x38 x55 x57 : Nat → Int64} {To_words : Nat → Int64} {p1 : Int32} {o : Int64} {Q : Rs → va_W → Prop} (h : f_To_wordAt To_words p1 = some o) (hq : Q (.inl (some (.long o))) (wlX g ad x0 x1 x2 x3 x4 x5 x6 x7 x8 x9 x10 x11 x12 x13 x14 x15 x16 x17 x18 x19 x20 x21 x22 x23 x24 x25 x26 x27 x28 x29 x30 x31 x32 x33 x34 x35 To_words x37 x38 x39 x40 x41 x42 x43 x44 x45 x46 x47 x48 x49 x50 x51 x52 x53 x54 x55 x56 x57 x58 x59 x60 x61 x62 x63 x64 x65 x66 x67 ++ t)) : R g mX7_wordAt 1 0 0 0 [(0, .ref (ad 34)), (1, .int p1)] [] (wlX g ad x0 x1 x2 x3 x4 x5 x6 x7 x8 x9 x10 x11 x12 x13 x14 x15 x16 x17 x18 x19 x20 x21 x22 x23 x24 x25 x26 x27 x28 x29 x30 x31 x32 x33 x34 x35 To_words x37 x38 x39 x40 x41 x42 x43 x44 x45 x46 x47 x48 x49 x50 x51 x52 x53 x54 x55 x56 x57 x58 x59 x60 x61 x62 x63 x64 x65 x66 x67 ++ t) Q := by
  unfold f_To_wordAt at h
  refine r_iload_n 1 dX7_wordAt_0 rfl ?_
  refine r_if_lt (tgt := 22) dX7_wordAt_1 (by decide) (fun hc12 => ?_) (fun hc12 => ?_)
  · have h := ip (fun z9 => z9) hc12 h
    refine r_lconst (v := (0 : Int64)) dX7_wordAt_22 (by decide) ?_
    refine r_lret dX7_wordAt_23 rfl ?_
    have h := Option.some.inj (show some _ = some o from h)
    subst h
    exact hq
  · have h := iq (fun z9 => z9) hc12 h
    refine r_iload_n 1 dX7_wordAt_4 rfl ?_
    refine r_aload_n 0 dX7_wordAt_5 rfl ?_
    refine r_getf (v := .ref (ad 41)) _ dX7_wordAt_6 fl_X7_29 lX_34 rfl ?_
    refine r_alenL (v := (401 : Int32)) _ dX7_wordAt_9 lX_41 (by decide) ?_
    refine r_icmp_ge (tgt := 22) dX7_wordAt_10 (by decide) (fun hc13 => ?_) (fun hc13 => ?_)
    · have h := ip (fun z9 => z9) hc13 h
      refine r_lconst (v := (0 : Int64)) dX7_wordAt_22 (by decide) ?_
      refine r_lret dX7_wordAt_23 rfl ?_
      have h := Option.some.inj (show some _ = some o from h)
      subst h
      exact hq
    · have h := iq (fun z9 => z9) hc13 h
      refine r_aload_n 0 dX7_wordAt_13 rfl ?_
      refine r_getf (v := .ref (ad 41)) _ dX7_wordAt_14 fl_X7_29 lX_34 rfl ?_
      refine r_iload_n 1 dX7_wordAt_17 rfl ?_
      obtain ⟨hb14, h⟩ := gd (fun z9 => z9) rfl h
      refine r_lald _ dX7_wordAt_18 lX_41 hb14 ?_
      refine r_goto (tgt := 23) dX7_wordAt_19 (by decide) ?_
      refine r_lret dX7_wordAt_23 rfl ?_
      have h := Option.some.inj (show some _ = some o from h)
      subst h
      exact hq
theorem ct_To_wordAt {g : GG} {ad : Nat → Nat} {t : va_W} {x0 x1 x3 x4 x5 x11 x12 x18 x19 x20 x24 x25 x26 x27 x28 x29 x30 x31 x37 x39 x40 x41 x47 x48 x54 x56 x58 x59 x60 x61 x63 x64 x65 x66 : Int32} {x2 x6 x7 x8 x9 x10 x13 x14 x15 x16 x17 x21 x22 x23 x33 x34 x35 x42 x43 x44 x45 x46 x49 x50 x51 x52 x53 x62 x67 : Nat → Int32} {x32 : Int64} {x38 x55 x57 : Nat → Int64} {To_words : Nat → Int64} {p1 : Int32} {o : Int64} (h : f_To_wordAt To_words p1 = some o) : Ct g mX7_wordAt 1 0 0 [.ref (ad 34), .int p1] (wlX g ad x0 x1 x2 x3 x4 x5 x6 x7 x8 x9 x10 x11 x12 x13 x14 x15 x16 x17 x18 x19 x20 x21 x22 x23 x24 x25 x26 x27 x28 x29 x30 x31 x32 x33 x34 x35 To_words x37 x38 x39 x40 x41 x42 x43 x44 x45 x46 x47 x48 x49 x50 x51 x52 x53 x54 x55 x56 x57 x58 x59 x60 x61 x62 x63 x64 x65 x66 x67 ++ t) (Dv (some (.long o)) (wlX g ad x0 x1 x2 x3 x4 x5 x6 x7 x8 x9 x10 x11 x12 x13 x14 x15 x16 x17 x18 x19 x20 x21 x22 x23 x24 x25 x26 x27 x28 x29 x30 x31 x32 x33 x34 x35 To_words x37 x38 x39 x40 x41 x42 x43 x44 x45 x46 x47 x48 x49 x50 x51 x52 x53 x54 x55 x56 x57 x58 x59 x60 x61 x62 x63 x64 x65 x66 x67 ++ t)) := Ct.ofR (by decide +kernel) rfl (Nat.le_of_ble_eq_true rfl) (rt_To_wordAt h ⟨rfl, rfl⟩)
set_option maxRecDepth 20000 in
set_option maxHeartbeats 4000000 in
theorem rt_Re_readKnown {g : GG} {ad : Nat → Nat} {t : va_W} {x0 x1 x3 x4 x5 x11 x12 x18 x19 x20 x26 x29 x30 x31 x37 x39 x40 x41 x47 x48 x56 x58 x59 x60 x61 x63 x64 x65 x66 : Int32} {x2 x6 x7 x8 x9 x10 x13 x14 x15 x16 x17 x21 x22 x23 x35 x42 x43 x44 x45 x46 x49 x50 x51 x52 x53 x62 x67 : Nat → Int32} {x32 : Int64} {x38 x57 : Nat → Int64} {Re_at : Int32} {Re_kind : Int32} {Re_error : Int32} {Re_errorPlace : Int32} {To_kinds : Nat → Int32} {To_starts : Nat → Int32} {To_words : Nat → Int64} {Na_count : Int32} {Na_words : Nat → Int64} {o : Int32 × Int32 × Int32 × Int32 × Int32} {Q : Rs → va_W → Prop} (h : f_Re_readKnown Re_at Re_kind Re_error Re_errorPlace To_kinds To_starts To_words Na_count Na_words = some o) (hq : Q (.inl (some (.int o.1))) (wlX g ad x0 x1 x2 x3 x4 x5 x6 x7 x8 x9 x10 x11 x12 x13 x14 x15 x16 x17 x18 x19 x20 x21 x22 x23 o.2.1 o.2.2.1 x26 o.2.2.2.1 o.2.2.2.2 x29 x30 x31 x32 To_kinds To_starts x35 To_words x37 x38 x39 x40 x41 x42 x43 x44 x45 x46 x47 x48 x49 x50 x51 x52 x53 Na_count Na_words x56 x57 x58 x59 x60 x61 x62 x63 x64 x65 x66 x67 ++ t)) : R g mX4_readKnown 4 0 0 0 [(0, .ref (ad 33)), (1, .ref (ad 67))] [] (wlX g ad x0 x1 x2 x3 x4 x5 x6 x7 x8 x9 x10 x11 x12 x13 x14 x15 x16 x17 x18 x19 x20 x21 x22 x23 Re_at Re_kind x26 Re_error Re_errorPlace x29 x30 x31 x32 To_kinds To_starts x35 To_words x37 x38 x39 x40 x41 x42 x43 x44 x45 x46 x47 x48 x49 x50 x51 x52 x53 Na_count Na_words x56 x57 x58 x59 x60 x61 x62 x63 x64 x65 x66 x67 ++ t) Q := by
  unfold f_Re_readKnown at h
  refine r_aload_n 0 dX4_readKnown_0 rfl ?_
  refine r_getf (v := .int Re_kind) _ dX4_readKnown_1 fl_X4_42 lX_33 rfl ?_
  refine r_sipush (v := (130 : Int32)) dX4_readKnown_4 (by decide) ?_
  refine r_icmp_eq (tgt := 16) dX4_readKnown_7 (by decide) (fun hc15 => ?_) (fun hc15 => ?_)
  · have h := ip (fun z9 => z9) hc15 h
    refine r_aload_n 1 dX4_readKnown_16 rfl ?_
    refine r_aload_n 0 dX4_readKnown_17 rfl ?_
    refine r_getf (v := .ref (ad 34)) _ dX4_readKnown_18 fl_X4_14 lX_33 rfl ?_
    refine r_aload_n 0 dX4_readKnown_21 rfl ?_
    refine r_getf (v := .int Re_at) _ dX4_readKnown_22 fl_X4_80 lX_33 rfl ?_
    obtain ⟨r16, hc17, h⟩ := ob (fun z9 => z9) rfl h
    refine c_V (rest := [.ref (ad 67)]) 0 0 _ dX4_readKnown_25 kv_X4_108 (ct_To_wordAt hc17) rfl rfl lX_34 rfl (Nat.le_of_ble_eq_true rfl) (by decide) (by decide) ?_
    refine c_V (rest := []) 0 0 _ dX4_readKnown_28 kv_X4_112 (ct_Na_find lX_67 lX_68 (Nat.le_of_ble_eq_true rfl)) rfl rfl lX_67 rfl (Nat.le_of_ble_eq_true rfl) (by decide) (by decide) ?_
    refine r_istore_n [(2, .int (nfind 8 Na_words Na_count r16)), (0, .ref (ad 33)), (1, .ref (ad 67))] dX4_readKnown_31 (by decide) rfl ?_
    refine r_iload_n 0 dX4_readKnown_32 rfl ?_
    refine r_if_ge (tgt := 41) dX4_readKnown_33 (by decide) (fun hc18 => ?_) (fun hc18 => ?_)
    · have h := ip (fun z9 => z9) hc18 h
      refine r_aload_n 1 dX4_readKnown_41 rfl ?_
      obtain ⟨r19, hc20, h⟩ := ob (fun z9 => z9) rfl h
      refine c_Vv (rest := []) 0 0 _ dX4_readKnown_42 kv_X4_105 (ct_Re_advance hc20) rfl rfl lX_33 rfl (Nat.le_of_ble_eq_true rfl) (by decide) (by decide) ?_
      refine r_iload_n 0 dX4_readKnown_45 rfl ?_
      refine r_iret dX4_readKnown_46 rfl ?_
      have h := Option.some.inj (show some _ = some o from h)
      subst h
      exact hq
    · have h := iq (fun z9 => z9) hc18 h
      refine r_aload_n 1 dX4_readKnown_36 rfl ?_
      refine r_iconst (v := (3 : Int32)) dX4_readKnown_37 (by decide) ?_
      obtain ⟨r21, hc22, h⟩ := ob (fun z9 => z9) rfl h
      refine c_Vv (rest := []) 0 0 _ dX4_readKnown_38 kv_X4_102 (ct_Re_note hc22) rfl rfl lX_33 rfl (Nat.le_of_ble_eq_true rfl) (by decide) (by decide) ?_
      refine r_aload_n 1 dX4_readKnown_41 rfl ?_
      obtain ⟨r23, hc24, h⟩ := ob (fun z9 => z9) rfl h
      refine c_Vv (rest := []) 0 0 _ dX4_readKnown_42 kv_X4_105 (ct_Re_advance hc24) rfl rfl lX_33 rfl (Nat.le_of_ble_eq_true rfl) (by decide) (by decide) ?_
      refine r_iload_n 0 dX4_readKnown_45 rfl ?_
      refine r_iret dX4_readKnown_46 rfl ?_
      have h := Option.some.inj (show some _ = some o from h)
      subst h
      exact hq
  · have h := iq (fun z9 => z9) hc15 h
    refine r_aload_n 0 dX4_readKnown_10 rfl ?_
    obtain ⟨r25, hc26, h⟩ := ob (fun z9 => z9) rfl h
    refine c_Vv (rest := []) 0 0 _ dX4_readKnown_11 kv_X4_59 (ct_Re_fail hc26) rfl rfl lX_33 rfl (Nat.le_of_ble_eq_true rfl) (by decide) (by decide) ?_
    refine r_iconst (v := (-1 : Int32)) dX4_readKnown_14 (by decide) ?_
    refine r_iret dX4_readKnown_15 rfl ?_
    have h := Option.some.inj (show some _ = some o from h)
    subst h
    exact hq
theorem ct_Re_readKnown {g : GG} {ad : Nat → Nat} {t : va_W} {x0 x1 x3 x4 x5 x11 x12 x18 x19 x20 x26 x29 x30 x31 x37 x39 x40 x41 x47 x48 x56 x58 x59 x60 x61 x63 x64 x65 x66 : Int32} {x2 x6 x7 x8 x9 x10 x13 x14 x15 x16 x17 x21 x22 x23 x35 x42 x43 x44 x45 x46 x49 x50 x51 x52 x53 x62 x67 : Nat → Int32} {x32 : Int64} {x38 x57 : Nat → Int64} {Re_at : Int32} {Re_kind : Int32} {Re_error : Int32} {Re_errorPlace : Int32} {To_kinds : Nat → Int32} {To_starts : Nat → Int32} {To_words : Nat → Int64} {Na_count : Int32} {Na_words : Nat → Int64} {o : Int32 × Int32 × Int32 × Int32 × Int32} (h : f_Re_readKnown Re_at Re_kind Re_error Re_errorPlace To_kinds To_starts To_words Na_count Na_words = some o) : Ct g mX4_readKnown 4 0 0 [.ref (ad 33), .ref (ad 67)] (wlX g ad x0 x1 x2 x3 x4 x5 x6 x7 x8 x9 x10 x11 x12 x13 x14 x15 x16 x17 x18 x19 x20 x21 x22 x23 Re_at Re_kind x26 Re_error Re_errorPlace x29 x30 x31 x32 To_kinds To_starts x35 To_words x37 x38 x39 x40 x41 x42 x43 x44 x45 x46 x47 x48 x49 x50 x51 x52 x53 Na_count Na_words x56 x57 x58 x59 x60 x61 x62 x63 x64 x65 x66 x67 ++ t) (Dv (some (.int o.1)) (wlX g ad x0 x1 x2 x3 x4 x5 x6 x7 x8 x9 x10 x11 x12 x13 x14 x15 x16 x17 x18 x19 x20 x21 x22 x23 o.2.1 o.2.2.1 x26 o.2.2.2.1 o.2.2.2.2 x29 x30 x31 x32 To_kinds To_starts x35 To_words x37 x38 x39 x40 x41 x42 x43 x44 x45 x46 x47 x48 x49 x50 x51 x52 x53 Na_count Na_words x56 x57 x58 x59 x60 x61 x62 x63 x64 x65 x66 x67 ++ t)) := Ct.ofR (by decide +kernel) rfl (Nat.le_of_ble_eq_true rfl) (rt_Re_readKnown h ⟨rfl, rfl⟩)
set_option maxRecDepth 20000 in
set_option maxHeartbeats 4000000 in
theorem rt_Re_readKnown_v1 {g : GG} {ad : Nat → Nat} {t : va_W} {x0 x1 x3 x4 x5 x11 x12 x18 x19 x20 x26 x29 x30 x31 x37 x39 x40 x41 x47 x48 x54 x58 x59 x60 x61 x63 x64 x65 x66 : Int32} {x2 x6 x7 x8 x9 x10 x13 x14 x15 x16 x17 x21 x22 x23 x35 x42 x43 x44 x45 x46 x49 x50 x51 x52 x53 x62 x67 : Nat → Int32} {x32 : Int64} {x38 x55 : Nat → Int64} {Re_at : Int32} {Re_kind : Int32} {Re_error : Int32} {Re_errorPlace : Int32} {To_kinds : Nat → Int32} {To_starts : Nat → Int32} {To_words : Nat → Int64} {Na_count : Int32} {Na_words : Nat → Int64} {o : Int32 × Int32 × Int32 × Int32 × Int32} {Q : Rs → va_W → Prop} (h : f_Re_readKnown_v1 Re_at Re_kind Re_error Re_errorPlace To_kinds To_starts To_words Na_count Na_words = some o) (hq : Q (.inl (some (.int o.1))) (wlX g ad x0 x1 x2 x3 x4 x5 x6 x7 x8 x9 x10 x11 x12 x13 x14 x15 x16 x17 x18 x19 x20 x21 x22 x23 o.2.1 o.2.2.1 x26 o.2.2.2.1 o.2.2.2.2 x29 x30 x31 x32 To_kinds To_starts x35 To_words x37 x38 x39 x40 x41 x42 x43 x44 x45 x46 x47 x48 x49 x50 x51 x52 x53 x54 x55 Na_count Na_words x58 x59 x60 x61 x62 x63 x64 x65 x66 x67 ++ t)) : R g mX4_readKnown 4 0 0 0 [(0, .ref (ad 33)), (1, .ref (ad 69))] [] (wlX g ad x0 x1 x2 x3 x4 x5 x6 x7 x8 x9 x10 x11 x12 x13 x14 x15 x16 x17 x18 x19 x20 x21 x22 x23 Re_at Re_kind x26 Re_error Re_errorPlace x29 x30 x31 x32 To_kinds To_starts x35 To_words x37 x38 x39 x40 x41 x42 x43 x44 x45 x46 x47 x48 x49 x50 x51 x52 x53 x54 x55 Na_count Na_words x58 x59 x60 x61 x62 x63 x64 x65 x66 x67 ++ t) Q := by
  unfold f_Re_readKnown_v1 at h
  refine r_aload_n 0 dX4_readKnown_0 rfl ?_
  refine r_getf (v := .int Re_kind) _ dX4_readKnown_1 fl_X4_42 lX_33 rfl ?_
  refine r_sipush (v := (130 : Int32)) dX4_readKnown_4 (by decide) ?_
  refine r_icmp_eq (tgt := 16) dX4_readKnown_7 (by decide) (fun hc27 => ?_) (fun hc27 => ?_)
  · have h := ip (fun z9 => z9) hc27 h
    refine r_aload_n 1 dX4_readKnown_16 rfl ?_
    refine r_aload_n 0 dX4_readKnown_17 rfl ?_
    refine r_getf (v := .ref (ad 34)) _ dX4_readKnown_18 fl_X4_14 lX_33 rfl ?_
    refine r_aload_n 0 dX4_readKnown_21 rfl ?_
    refine r_getf (v := .int Re_at) _ dX4_readKnown_22 fl_X4_80 lX_33 rfl ?_
    obtain ⟨r28, hc29, h⟩ := ob (fun z9 => z9) rfl h
    refine c_V (rest := [.ref (ad 69)]) 0 0 _ dX4_readKnown_25 kv_X4_108 (ct_To_wordAt hc29) rfl rfl lX_34 rfl (Nat.le_of_ble_eq_true rfl) (by decide) (by decide) ?_
    refine c_V (rest := []) 0 0 _ dX4_readKnown_28 kv_X4_112 (ct_Na_find lX_69 lX_70 (Nat.le_of_ble_eq_true rfl)) rfl rfl lX_69 rfl (Nat.le_of_ble_eq_true rfl) (by decide) (by decide) ?_
    refine r_istore_n [(2, .int (nfind 10 Na_words Na_count r28)), (0, .ref (ad 33)), (1, .ref (ad 69))] dX4_readKnown_31 (by decide) rfl ?_
    refine r_iload_n 0 dX4_readKnown_32 rfl ?_
    refine r_if_ge (tgt := 41) dX4_readKnown_33 (by decide) (fun hc30 => ?_) (fun hc30 => ?_)
    · have h := ip (fun z9 => z9) hc30 h
      refine r_aload_n 1 dX4_readKnown_41 rfl ?_
      obtain ⟨r31, hc32, h⟩ := ob (fun z9 => z9) rfl h
      refine c_Vv (rest := []) 0 0 _ dX4_readKnown_42 kv_X4_105 (ct_Re_advance hc32) rfl rfl lX_33 rfl (Nat.le_of_ble_eq_true rfl) (by decide) (by decide) ?_
      refine r_iload_n 0 dX4_readKnown_45 rfl ?_
      refine r_iret dX4_readKnown_46 rfl ?_
      have h := Option.some.inj (show some _ = some o from h)
      subst h
      exact hq
    · have h := iq (fun z9 => z9) hc30 h
      refine r_aload_n 1 dX4_readKnown_36 rfl ?_
      refine r_iconst (v := (3 : Int32)) dX4_readKnown_37 (by decide) ?_
      obtain ⟨r33, hc34, h⟩ := ob (fun z9 => z9) rfl h
      refine c_Vv (rest := []) 0 0 _ dX4_readKnown_38 kv_X4_102 (ct_Re_note hc34) rfl rfl lX_33 rfl (Nat.le_of_ble_eq_true rfl) (by decide) (by decide) ?_
      refine r_aload_n 1 dX4_readKnown_41 rfl ?_
      obtain ⟨r35, hc36, h⟩ := ob (fun z9 => z9) rfl h
      refine c_Vv (rest := []) 0 0 _ dX4_readKnown_42 kv_X4_105 (ct_Re_advance hc36) rfl rfl lX_33 rfl (Nat.le_of_ble_eq_true rfl) (by decide) (by decide) ?_
      refine r_iload_n 0 dX4_readKnown_45 rfl ?_
      refine r_iret dX4_readKnown_46 rfl ?_
      have h := Option.some.inj (show some _ = some o from h)
      subst h
      exact hq
  · have h := iq (fun z9 => z9) hc27 h
    refine r_aload_n 0 dX4_readKnown_10 rfl ?_
    obtain ⟨r37, hc38, h⟩ := ob (fun z9 => z9) rfl h
    refine c_Vv (rest := []) 0 0 _ dX4_readKnown_11 kv_X4_59 (ct_Re_fail hc38) rfl rfl lX_33 rfl (Nat.le_of_ble_eq_true rfl) (by decide) (by decide) ?_
    refine r_iconst (v := (-1 : Int32)) dX4_readKnown_14 (by decide) ?_
    refine r_iret dX4_readKnown_15 rfl ?_
    have h := Option.some.inj (show some _ = some o from h)
    subst h
    exact hq
theorem ct_Re_readKnown_v1 {g : GG} {ad : Nat → Nat} {t : va_W} {x0 x1 x3 x4 x5 x11 x12 x18 x19 x20 x26 x29 x30 x31 x37 x39 x40 x41 x47 x48 x54 x58 x59 x60 x61 x63 x64 x65 x66 : Int32} {x2 x6 x7 x8 x9 x10 x13 x14 x15 x16 x17 x21 x22 x23 x35 x42 x43 x44 x45 x46 x49 x50 x51 x52 x53 x62 x67 : Nat → Int32} {x32 : Int64} {x38 x55 : Nat → Int64} {Re_at : Int32} {Re_kind : Int32} {Re_error : Int32} {Re_errorPlace : Int32} {To_kinds : Nat → Int32} {To_starts : Nat → Int32} {To_words : Nat → Int64} {Na_count : Int32} {Na_words : Nat → Int64} {o : Int32 × Int32 × Int32 × Int32 × Int32} (h : f_Re_readKnown_v1 Re_at Re_kind Re_error Re_errorPlace To_kinds To_starts To_words Na_count Na_words = some o) : Ct g mX4_readKnown 4 0 0 [.ref (ad 33), .ref (ad 69)] (wlX g ad x0 x1 x2 x3 x4 x5 x6 x7 x8 x9 x10 x11 x12 x13 x14 x15 x16 x17 x18 x19 x20 x21 x22 x23 Re_at Re_kind x26 Re_error Re_errorPlace x29 x30 x31 x32 To_kinds To_starts x35 To_words x37 x38 x39 x40 x41 x42 x43 x44 x45 x46 x47 x48 x49 x50 x51 x52 x53 x54 x55 Na_count Na_words x58 x59 x60 x61 x62 x63 x64 x65 x66 x67 ++ t) (Dv (some (.int o.1)) (wlX g ad x0 x1 x2 x3 x4 x5 x6 x7 x8 x9 x10 x11 x12 x13 x14 x15 x16 x17 x18 x19 x20 x21 x22 x23 o.2.1 o.2.2.1 x26 o.2.2.2.1 o.2.2.2.2 x29 x30 x31 x32 To_kinds To_starts x35 To_words x37 x38 x39 x40 x41 x42 x43 x44 x45 x46 x47 x48 x49 x50 x51 x52 x53 x54 x55 Na_count Na_words x58 x59 x60 x61 x62 x63 x64 x65 x66 x67 ++ t)) := Ct.ofR (by decide +kernel) rfl (Nat.le_of_ble_eq_true rfl) (rt_Re_readKnown_v1 h ⟨rfl, rfl⟩)
set_option maxRecDepth 20000 in
set_option maxHeartbeats 4000000 in
theorem rt_Re_readTwoTellers {g : GG} {ad : Nat → Nat} {t : va_W} {x0 x1 x3 x4 x5 x11 x12 x18 x19 x20 x26 x29 x30 x31 x37 x39 x40 x41 x47 x54 x58 x59 x60 x61 x63 x64 x65 x66 : Int32} {x2 x6 x7 x8 x9 x10 x13 x14 x15 x16 x17 x21 x22 x23 x35 x42 x43 x44 x45 x46 x49 x50 x51 x62 x67 : Nat → Int32} {x32 : Int64} {x38 x55 : Nat → Int64} {Re_at : Int32} {Re_kind : Int32} {Re_error : Int32} {Re_errorPlace : Int32} {To_kinds : Nat → Int32} {To_starts : Nat → Int32} {To_words : Nat → Int64} {Or_stepCount : Int32} {Or_stepKinds : Nat → Int32} {Or_stepParts : Nat → Int32} {Na_count : Int32} {Na_words : Nat → Int64} {o : Int32 × Int32 × Int32 × Int32 × Int32 × (Nat → Int32) × (Nat → Int32)} {Q : Rs → va_W → Prop} (h : f_Re_readTwoTellers Re_at Re_kind Re_error Re_errorPlace To_kinds To_starts To_words Or_stepCount Or_stepKinds Or_stepParts Na_count Na_words = some o) (hq : Q (.inl (none)) (wlX g ad x0 x1 x2 x3 x4 x5 x6 x7 x8 x9 x10 x11 x12 x13 x14 x15 x16 x17 x18 x19 x20 x21 x22 x23 o.1 o.2.1 x26 o.2.2.1 o.2.2.2.1 x29 x30 x31 x32 To_kinds To_starts x35 To_words x37 x38 x39 x40 x41 x42 x43 x44 x45 x46 x47 o.2.2.2.2.1 x49 x50 x51 o.2.2.2.2.2.1 o.2.2.2.2.2.2 x54 x55 Na_count Na_words x58 x59 x60 x61 x62 x63 x64 x65 x66 x67 ++ t)) : R g mX4_readTwoTellers 5 0 0 0 [(0, .ref (ad 33))] [] (wlX g ad x0 x1 x2 x3 x4 x5 x6 x7 x8 x9 x10 x11 x12 x13 x14 x15 x16 x17 x18 x19 x20 x21 x22 x23 Re_at Re_kind x26 Re_error Re_errorPlace x29 x30 x31 x32 To_kinds To_starts x35 To_words x37 x38 x39 x40 x41 x42 x43 x44 x45 x46 x47 Or_stepCount x49 x50 x51 Or_stepKinds Or_stepParts x54 x55 Na_count Na_words x58 x59 x60 x61 x62 x63 x64 x65 x66 x67 ++ t) Q := by
  unfold f_Re_readTwoTellers at h
  refine r_aload_n 0 dX4_readTwoTellers_0 rfl ?_
  obtain ⟨r39, hc40, h⟩ := ob (fun z9 => z9) rfl h
  refine c_Vv (rest := []) 0 0 _ dX4_readTwoTellers_1 kv_X4_105 (ct_Re_advance hc40) rfl rfl lX_33 rfl (Nat.le_of_ble_eq_true rfl) (by decide) (by decide) ?_
  refine r_aload_n 0 dX4_readTwoTellers_4 rfl ?_
  refine r_aload_n 0 dX4_readTwoTellers_5 rfl ?_
  refine r_getf (v := .ref (ad 69)) _ dX4_readTwoTellers_6 fl_X4_36 lX_33 rfl ?_
  obtain ⟨r41, hc42, h⟩ := ob (fun z9 => z9) rfl h
  refine c_V (rest := []) 0 0 _ dX4_readTwoTellers_9 kv_X4_131 (ct_Re_readKnown_v1 hc42) rfl rfl lX_33 rfl (Nat.le_of_ble_eq_true rfl) (by decide) (by decide) ?_
  refine r_istore_n [(1, .int r41.1), (0, .ref (ad 33))] dX4_readTwoTellers_12 (by decide) rfl ?_
  refine r_aload_n 1 dX4_readTwoTellers_13 rfl ?_
  refine r_aload_n 1 dX4_readTwoTellers_14 rfl ?_
  refine r_getf (v := .ref (ad 69)) _ dX4_readTwoTellers_15 fl_X4_36 lX_33 rfl ?_
  obtain ⟨r43, hc44, h⟩ := ob (fun z9 => z9) rfl h
  refine c_V (rest := []) 0 0 _ dX4_readTwoTellers_18 kv_X4_131 (ct_Re_readKnown_v1 hc44) rfl rfl lX_33 rfl (Nat.le_of_ble_eq_true rfl) (by decide) (by decide) ?_
  refine r_istore_n [(2, .int r43.1), (1, .int r41.1), (0, .ref (ad 33))] dX4_readTwoTellers_21 (by decide) rfl ?_
  refine r_aload_n 2 dX4_readTwoTellers_22 rfl ?_
  refine r_getf (v := .ref (ad 44)) _ dX4_readTwoTellers_23 fl_X4_23 lX_33 rfl ?_
  refine r_getf (v := .ref (ad 56)) _ dX4_readTwoTellers_26 fl_X4_151 lX_44 rfl ?_
  refine r_sipush (v := (217 : Int32)) dX4_readTwoTellers_29 (by decide) ?_
  refine r_iload_n 1 dX4_readTwoTellers_32 rfl ?_
  refine r_iconst (v := (4 : Int32)) dX4_readTwoTellers_33 (by decide) ?_
  refine r_ishl dX4_readTwoTellers_34 ?_
  refine r_iload_n 0 dX4_readTwoTellers_35 rfl ?_
  refine r_ior dX4_readTwoTellers_36 ?_
  obtain ⟨r45, hc46, h⟩ := ob (fun z9 => z9) rfl h
  refine c_Vv (rest := []) 0 0 _ dX4_readTwoTellers_37 kv_X4_167 (ct_Or_addStep hc46) rfl rfl lX_56 rfl (Nat.le_of_ble_eq_true rfl) (by decide) (by decide) ?_
  refine r_vret dX4_readTwoTellers_40 rfl ?_
  have h := Option.some.inj (show some _ = some o from h)
  subst h
  exact hq
theorem ct_Re_readTwoTellers {g : GG} {ad : Nat → Nat} {t : va_W} {x0 x1 x3 x4 x5 x11 x12 x18 x19 x20 x26 x29 x30 x31 x37 x39 x40 x41 x47 x54 x58 x59 x60 x61 x63 x64 x65 x66 : Int32} {x2 x6 x7 x8 x9 x10 x13 x14 x15 x16 x17 x21 x22 x23 x35 x42 x43 x44 x45 x46 x49 x50 x51 x62 x67 : Nat → Int32} {x32 : Int64} {x38 x55 : Nat → Int64} {Re_at : Int32} {Re_kind : Int32} {Re_error : Int32} {Re_errorPlace : Int32} {To_kinds : Nat → Int32} {To_starts : Nat → Int32} {To_words : Nat → Int64} {Or_stepCount : Int32} {Or_stepKinds : Nat → Int32} {Or_stepParts : Nat → Int32} {Na_count : Int32} {Na_words : Nat → Int64} {o : Int32 × Int32 × Int32 × Int32 × Int32 × (Nat → Int32) × (Nat → Int32)} (h : f_Re_readTwoTellers Re_at Re_kind Re_error Re_errorPlace To_kinds To_starts To_words Or_stepCount Or_stepKinds Or_stepParts Na_count Na_words = some o) : Ct g mX4_readTwoTellers 5 0 0 [.ref (ad 33)] (wlX g ad x0 x1 x2 x3 x4 x5 x6 x7 x8 x9 x10 x11 x12 x13 x14 x15 x16 x17 x18 x19 x20 x21 x22 x23 Re_at Re_kind x26 Re_error Re_errorPlace x29 x30 x31 x32 To_kinds To_starts x35 To_words x37 x38 x39 x40 x41 x42 x43 x44 x45 x46 x47 Or_stepCount x49 x50 x51 Or_stepKinds Or_stepParts x54 x55 Na_count Na_words x58 x59 x60 x61 x62 x63 x64 x65 x66 x67 ++ t) (Dv (none) (wlX g ad x0 x1 x2 x3 x4 x5 x6 x7 x8 x9 x10 x11 x12 x13 x14 x15 x16 x17 x18 x19 x20 x21 x22 x23 o.1 o.2.1 x26 o.2.2.1 o.2.2.2.1 x29 x30 x31 x32 To_kinds To_starts x35 To_words x37 x38 x39 x40 x41 x42 x43 x44 x45 x46 x47 o.2.2.2.2.1 x49 x50 x51 o.2.2.2.2.2.1 o.2.2.2.2.2.2 x54 x55 Na_count Na_words x58 x59 x60 x61 x62 x63 x64 x65 x66 x67 ++ t)) := Ct.ofR (by decide +kernel) rfl (Nat.le_of_ble_eq_true rfl) (rt_Re_readTwoTellers h ⟨rfl, rfl⟩)
set_option maxRecDepth 20000 in
set_option maxHeartbeats 4000000 in
theorem rt_Re_expect {g : GG} {ad : Nat → Nat} {t : va_W} {x0 x1 x3 x4 x5 x11 x12 x18 x19 x20 x26 x29 x30 x31 x37 x39 x40 x41 x47 x48 x54 x56 x58 x59 x60 x61 x63 x64 x65 x66 : Int32} {x2 x6 x7 x8 x9 x10 x13 x14 x15 x16 x17 x21 x22 x23 x35 x42 x43 x44 x45 x46 x49 x50 x51 x52 x53 x62 x67 : Nat → Int32} {x32 : Int64} {x36 x38 x55 x57 : Nat → Int64} {Re_at : Int32} {Re_kind : Int32} {Re_error : Int32} {Re_errorPlace : Int32} {To_kinds : Nat → Int32} {To_starts : Nat → Int32} {p1 : Int32} {o : Int32 × Int32 × Int32 × Int32} {Q : Rs → va_W → Prop} (h : f_Re_expect Re_at Re_kind Re_error Re_errorPlace To_kinds To_starts p1 = some o) (hq : Q (.inl (none)) (wlX g ad x0 x1 x2 x3 x4 x5 x6 x7 x8 x9 x10 x11 x12 x13 x14 x15 x16 x17 x18 x19 x20 x21 x22 x23 o.1 o.2.1 x26 o.2.2.1 o.2.2.2 x29 x30 x31 x32 To_kinds To_starts x35 x36 x37 x38 x39 x40 x41 x42 x43 x44 x45 x46 x47 x48 x49 x50 x51 x52 x53 x54 x55 x56 x57 x58 x59 x60 x61 x62 x63 x64 x65 x66 x67 ++ t)) : R g mX4_expect 4 0 0 0 [(0, .ref (ad 33)), (1, .int p1)] [] (wlX g ad x0 x1 x2 x3 x4 x5 x6 x7 x8 x9 x10 x11 x12 x13 x14 x15 x16 x17 x18 x19 x20 x21 x22 x23 Re_at Re_kind x26 Re_error Re_errorPlace x29 x30 x31 x32 To_kinds To_starts x35 x36 x37 x38 x39 x40 x41 x42 x43 x44 x45 x46 x47 x48 x49 x50 x51 x52 x53 x54 x55 x56 x57 x58 x59 x60 x61 x62 x63 x64 x65 x66 x67 ++ t) Q := by
  unfold f_Re_expect at h
  refine r_aload_n 0 dX4_expect_0 rfl ?_
  refine r_getf (v := .int Re_kind) _ dX4_expect_1 fl_X4_42 lX_33 rfl ?_
  refine r_iload_n 1 dX4_expect_4 rfl ?_
  refine r_icmp_ne (tgt := 15) dX4_expect_5 (by decide) (fun hc47 => ?_) (fun hc47 => ?_)
  · have h := iq (fun z9 => z9) hc47 h
    refine r_aload_n 0 dX4_expect_15 rfl ?_
    obtain ⟨r48, hc49, h⟩ := ob (fun z9 => z9) rfl h
    refine c_Vv (rest := []) 0 0 _ dX4_expect_16 kv_X4_59 (ct_Re_fail hc49) rfl rfl lX_33 rfl (Nat.le_of_ble_eq_true rfl) (by decide) (by decide) ?_
    refine r_vret dX4_expect_19 rfl ?_
    have h := Option.some.inj (show some _ = some o from h)
    subst h
    exact hq
  · have h := ip (fun z9 => z9) hc47 h
    refine r_aload_n 0 dX4_expect_8 rfl ?_
    obtain ⟨r50, hc51, h⟩ := ob (fun z9 => z9) rfl h
    refine c_Vv (rest := []) 0 0 _ dX4_expect_9 kv_X4_105 (ct_Re_advance hc51) rfl rfl lX_33 rfl (Nat.le_of_ble_eq_true rfl) (by decide) (by decide) ?_
    refine r_goto (tgt := 19) dX4_expect_12 (by decide) ?_
    refine r_vret dX4_expect_19 rfl ?_
    have h := Option.some.inj (show some _ = some o from h)
    subst h
    exact hq
theorem ct_Re_expect {g : GG} {ad : Nat → Nat} {t : va_W} {x0 x1 x3 x4 x5 x11 x12 x18 x19 x20 x26 x29 x30 x31 x37 x39 x40 x41 x47 x48 x54 x56 x58 x59 x60 x61 x63 x64 x65 x66 : Int32} {x2 x6 x7 x8 x9 x10 x13 x14 x15 x16 x17 x21 x22 x23 x35 x42 x43 x44 x45 x46 x49 x50 x51 x52 x53 x62 x67 : Nat → Int32} {x32 : Int64} {x36 x38 x55 x57 : Nat → Int64} {Re_at : Int32} {Re_kind : Int32} {Re_error : Int32} {Re_errorPlace : Int32} {To_kinds : Nat → Int32} {To_starts : Nat → Int32} {p1 : Int32} {o : Int32 × Int32 × Int32 × Int32} (h : f_Re_expect Re_at Re_kind Re_error Re_errorPlace To_kinds To_starts p1 = some o) : Ct g mX4_expect 4 0 0 [.ref (ad 33), .int p1] (wlX g ad x0 x1 x2 x3 x4 x5 x6 x7 x8 x9 x10 x11 x12 x13 x14 x15 x16 x17 x18 x19 x20 x21 x22 x23 Re_at Re_kind x26 Re_error Re_errorPlace x29 x30 x31 x32 To_kinds To_starts x35 x36 x37 x38 x39 x40 x41 x42 x43 x44 x45 x46 x47 x48 x49 x50 x51 x52 x53 x54 x55 x56 x57 x58 x59 x60 x61 x62 x63 x64 x65 x66 x67 ++ t) (Dv (none) (wlX g ad x0 x1 x2 x3 x4 x5 x6 x7 x8 x9 x10 x11 x12 x13 x14 x15 x16 x17 x18 x19 x20 x21 x22 x23 o.1 o.2.1 x26 o.2.2.1 o.2.2.2 x29 x30 x31 x32 To_kinds To_starts x35 x36 x37 x38 x39 x40 x41 x42 x43 x44 x45 x46 x47 x48 x49 x50 x51 x52 x53 x54 x55 x56 x57 x58 x59 x60 x61 x62 x63 x64 x65 x66 x67 ++ t)) := Ct.ofR (by decide +kernel) rfl (Nat.le_of_ble_eq_true rfl) (rt_Re_expect h ⟨rfl, rfl⟩)
set_option maxRecDepth 20000 in
set_option maxHeartbeats 4000000 in
theorem rt_Re_readTest {g : GG} {ad : Nat → Nat} {t : va_W} {x0 x1 x3 x4 x5 x11 x12 x18 x19 x20 x29 x30 x31 x37 x39 x40 x41 x47 x58 x59 x60 x61 x63 x64 x65 x66 : Int32} {x2 x6 x7 x8 x9 x10 x13 x14 x15 x16 x17 x21 x22 x23 x42 x43 x44 x45 x46 x49 x50 x51 x62 x67 : Nat → Int32} {x32 : Int64} {x38 : Nat → Int64} {N : Nat} {Re_at : Int32} {Re_kind : Int32} {Re_depth : Int32} {Re_error : Int32} {Re_errorPlace : Int32} {To_kinds : Nat → Int32} {To_starts : Nat → Int32} {To_numbers : Nat → Int32} {To_words : Nat → Int64} {Or_stepCount : Int32} {Or_stepKinds : Nat → Int32} {Or_stepParts : Nat → Int32} {Na_count : Int32} {Na_words : Nat → Int64} {Na_count_2 : Int32} {Na_words_2 : Nat → Int64} {D : Nat} {rec : Nat → Int32 → Int32 → (Int32 × Int32 × Int32 × Int32 × Int32 × Int32 × (Nat → Int32) × (Nat → Int32)) → Option (Int32 × Int32 × Int32 × Int32 × Int32 × Int32 × (Nat → Int32) × (Nat → Int32))} (ih_0 : (∀ {w0 : Int32} {w1 : Int32} {w2 : Int32} {w3 : Int32} {w4 : Int32} {w5 : Int32} {w6 : Nat → Int32} {w7 : Nat → Int32} {o : Int32 × Int32 × Int32 × Int32 × Int32 × Int32 × (Nat → Int32) × (Nat → Int32)} {t : va_W}, rec 0 0 0 (w0, w1, w2, w3, w4, w5, w6, w7) = some o → Ct g mX4_readTest (7 + D) 0 0 [.ref (ad 33)] (wlX g ad x0 x1 x2 x3 x4 x5 x6 x7 x8 x9 x10 x11 x12 x13 x14 x15 x16 x17 x18 x19 x20 x21 x22 x23 w0 w1 w2 w3 w4 x29 x30 x31 x32 To_kinds To_starts To_numbers To_words x37 x38 x39 x40 x41 x42 x43 x44 x45 x46 x47 w5 x49 x50 x51 w6 w7 Na_count Na_words Na_count_2 Na_words_2 x58 x59 x60 x61 x62 x63 x64 x65 x66 x67 ++ t) (Dv (none) (wlX g ad x0 x1 x2 x3 x4 x5 x6 x7 x8 x9 x10 x11 x12 x13 x14 x15 x16 x17 x18 x19 x20 x21 x22 x23 o.1 o.2.1 o.2.2.1 o.2.2.2.1 o.2.2.2.2.1 x29 x30 x31 x32 To_kinds To_starts To_numbers To_words x37 x38 x39 x40 x41 x42 x43 x44 x45 x46 x47 o.2.2.2.2.2.1 x49 x50 x51 o.2.2.2.2.2.2.1 o.2.2.2.2.2.2.2 Na_count Na_words Na_count_2 Na_words_2 x58 x59 x60 x61 x62 x63 x64 x65 x66 x67 ++ t)))) (ih_1 : (∀ {w0 : Int32} {w1 : Int32} {w2 : Int32} {w3 : Int32} {w4 : Int32} {w5 : Int32} {w6 : Nat → Int32} {w7 : Nat → Int32} {o : Int32 × Int32 × Int32 × Int32 × Int32 × Int32 × (Nat → Int32) × (Nat → Int32)} {t : va_W}, rec 1 0 0 (w0, w1, w2, w3, w4, w5, w6, w7) = some o → Ct g mX4_readBoth (7 + D) 0 0 [.ref (ad 33)] (wlX g ad x0 x1 x2 x3 x4 x5 x6 x7 x8 x9 x10 x11 x12 x13 x14 x15 x16 x17 x18 x19 x20 x21 x22 x23 w0 w1 w2 w3 w4 x29 x30 x31 x32 To_kinds To_starts To_numbers To_words x37 x38 x39 x40 x41 x42 x43 x44 x45 x46 x47 w5 x49 x50 x51 w6 w7 Na_count Na_words Na_count_2 Na_words_2 x58 x59 x60 x61 x62 x63 x64 x65 x66 x67 ++ t) (Dv (none) (wlX g ad x0 x1 x2 x3 x4 x5 x6 x7 x8 x9 x10 x11 x12 x13 x14 x15 x16 x17 x18 x19 x20 x21 x22 x23 o.1 o.2.1 o.2.2.1 o.2.2.2.1 o.2.2.2.2.1 x29 x30 x31 x32 To_kinds To_starts To_numbers To_words x37 x38 x39 x40 x41 x42 x43 x44 x45 x46 x47 o.2.2.2.2.2.1 x49 x50 x51 o.2.2.2.2.2.2.1 o.2.2.2.2.2.2.2 Na_count Na_words Na_count_2 Na_words_2 x58 x59 x60 x61 x62 x63 x64 x65 x66 x67 ++ t)))) (ih_2 : (∀ {w0 : Int32} {w1 : Int32} {w2 : Int32} {w3 : Int32} {w4 : Int32} {w5 : Int32} {w6 : Nat → Int32} {w7 : Nat → Int32} {o : Int32 × Int32 × Int32 × Int32 × Int32 × Int32 × (Nat → Int32) × (Nat → Int32)} {t : va_W}, rec 2 0 0 (w0, w1, w2, w3, w4, w5, w6, w7) = some o → Ct g mX4_readSingle (7 + D) 0 0 [.ref (ad 33)] (wlX g ad x0 x1 x2 x3 x4 x5 x6 x7 x8 x9 x10 x11 x12 x13 x14 x15 x16 x17 x18 x19 x20 x21 x22 x23 w0 w1 w2 w3 w4 x29 x30 x31 x32 To_kinds To_starts To_numbers To_words x37 x38 x39 x40 x41 x42 x43 x44 x45 x46 x47 w5 x49 x50 x51 w6 w7 Na_count Na_words Na_count_2 Na_words_2 x58 x59 x60 x61 x62 x63 x64 x65 x66 x67 ++ t) (Dv (none) (wlX g ad x0 x1 x2 x3 x4 x5 x6 x7 x8 x9 x10 x11 x12 x13 x14 x15 x16 x17 x18 x19 x20 x21 x22 x23 o.1 o.2.1 o.2.2.1 o.2.2.2.1 o.2.2.2.2.1 x29 x30 x31 x32 To_kinds To_starts To_numbers To_words x37 x38 x39 x40 x41 x42 x43 x44 x45 x46 x47 o.2.2.2.2.2.1 x49 x50 x51 o.2.2.2.2.2.2.1 o.2.2.2.2.2.2.2 Na_count Na_words Na_count_2 Na_words_2 x58 x59 x60 x61 x62 x63 x64 x65 x66 x67 ++ t)))) (ih_3 : (∀ {w0 : Int32} {w1 : Int32} {w2 : Int32} {w3 : Int32} {w4 : Int32} {w5 : Int32} {w6 : Nat → Int32} {w7 : Nat → Int32} {o : Int32 × Int32 × Int32 × Int32 × Int32 × Int32 × (Nat → Int32) × (Nat → Int32)} {t : va_W}, rec 3 0 0 (w0, w1, w2, w3, w4, w5, w6, w7) = some o → Ct g mX4_readCompared (7 + D) 0 0 [.ref (ad 33)] (wlX g ad x0 x1 x2 x3 x4 x5 x6 x7 x8 x9 x10 x11 x12 x13 x14 x15 x16 x17 x18 x19 x20 x21 x22 x23 w0 w1 w2 w3 w4 x29 x30 x31 x32 To_kinds To_starts To_numbers To_words x37 x38 x39 x40 x41 x42 x43 x44 x45 x46 x47 w5 x49 x50 x51 w6 w7 Na_count Na_words Na_count_2 Na_words_2 x58 x59 x60 x61 x62 x63 x64 x65 x66 x67 ++ t) (Dv (none) (wlX g ad x0 x1 x2 x3 x4 x5 x6 x7 x8 x9 x10 x11 x12 x13 x14 x15 x16 x17 x18 x19 x20 x21 x22 x23 o.1 o.2.1 o.2.2.1 o.2.2.2.1 o.2.2.2.2.1 x29 x30 x31 x32 To_kinds To_starts To_numbers To_words x37 x38 x39 x40 x41 x42 x43 x44 x45 x46 x47 o.2.2.2.2.2.1 x49 x50 x51 o.2.2.2.2.2.2.1 o.2.2.2.2.2.2.2 Na_count Na_words Na_count_2 Na_words_2 x58 x59 x60 x61 x62 x63 x64 x65 x66 x67 ++ t)))) (ih_4 : (∀ {w0 : Int32} {w1 : Int32} {w2 : Int32} {w3 : Int32} {w4 : Int32} {w5 : Int32} {w6 : Nat → Int32} {w7 : Nat → Int32} {o : Int32 × Int32 × Int32 × Int32 × Int32 × Int32 × (Nat → Int32) × (Nat → Int32)} {t : va_W}, rec 4 0 0 (w0, w1, w2, w3, w4, w5, w6, w7) = some o → Ct g mX4_readSum (7 + D) 0 0 [.ref (ad 33)] (wlX g ad x0 x1 x2 x3 x4 x5 x6 x7 x8 x9 x10 x11 x12 x13 x14 x15 x16 x17 x18 x19 x20 x21 x22 x23 w0 w1 w2 w3 w4 x29 x30 x31 x32 To_kinds To_starts To_numbers To_words x37 x38 x39 x40 x41 x42 x43 x44 x45 x46 x47 w5 x49 x50 x51 w6 w7 Na_count Na_words Na_count_2 Na_words_2 x58 x59 x60 x61 x62 x63 x64 x65 x66 x67 ++ t) (Dv (none) (wlX g ad x0 x1 x2 x3 x4 x5 x6 x7 x8 x9 x10 x11 x12 x13 x14 x15 x16 x17 x18 x19 x20 x21 x22 x23 o.1 o.2.1 o.2.2.1 o.2.2.2.1 o.2.2.2.2.1 x29 x30 x31 x32 To_kinds To_starts To_numbers To_words x37 x38 x39 x40 x41 x42 x43 x44 x45 x46 x47 o.2.2.2.2.2.1 x49 x50 x51 o.2.2.2.2.2.2.1 o.2.2.2.2.2.2.2 Na_count Na_words Na_count_2 Na_words_2 x58 x59 x60 x61 x62 x63 x64 x65 x66 x67 ++ t)))) (ih_5 : (∀ {w0 : Int32} {w1 : Int32} {w2 : Int32} {w3 : Int32} {w4 : Int32} {w5 : Int32} {w6 : Nat → Int32} {w7 : Nat → Int32} {o : Int32 × Int32 × Int32 × Int32 × Int32 × Int32 × (Nat → Int32) × (Nat → Int32)} {t : va_W}, rec 5 0 0 (w0, w1, w2, w3, w4, w5, w6, w7) = some o → Ct g mX4_readProduct (7 + D) 0 0 [.ref (ad 33)] (wlX g ad x0 x1 x2 x3 x4 x5 x6 x7 x8 x9 x10 x11 x12 x13 x14 x15 x16 x17 x18 x19 x20 x21 x22 x23 w0 w1 w2 w3 w4 x29 x30 x31 x32 To_kinds To_starts To_numbers To_words x37 x38 x39 x40 x41 x42 x43 x44 x45 x46 x47 w5 x49 x50 x51 w6 w7 Na_count Na_words Na_count_2 Na_words_2 x58 x59 x60 x61 x62 x63 x64 x65 x66 x67 ++ t) (Dv (none) (wlX g ad x0 x1 x2 x3 x4 x5 x6 x7 x8 x9 x10 x11 x12 x13 x14 x15 x16 x17 x18 x19 x20 x21 x22 x23 o.1 o.2.1 o.2.2.1 o.2.2.2.1 o.2.2.2.2.1 x29 x30 x31 x32 To_kinds To_starts To_numbers To_words x37 x38 x39 x40 x41 x42 x43 x44 x45 x46 x47 o.2.2.2.2.2.1 x49 x50 x51 o.2.2.2.2.2.2.1 o.2.2.2.2.2.2.2 Na_count Na_words Na_count_2 Na_words_2 x58 x59 x60 x61 x62 x63 x64 x65 x66 x67 ++ t)))) (ih_6 : (∀ {w0 : Int32} {w1 : Int32} {w2 : Int32} {w3 : Int32} {w4 : Int32} {w5 : Int32} {w6 : Nat → Int32} {w7 : Nat → Int32} {o : Int32 × Int32 × Int32 × Int32 × Int32 × Int32 × (Nat → Int32) × (Nat → Int32)} {t : va_W}, rec 6 0 0 (w0, w1, w2, w3, w4, w5, w6, w7) = some o → Ct g mX4_readValue (7 + D) 0 0 [.ref (ad 33)] (wlX g ad x0 x1 x2 x3 x4 x5 x6 x7 x8 x9 x10 x11 x12 x13 x14 x15 x16 x17 x18 x19 x20 x21 x22 x23 w0 w1 w2 w3 w4 x29 x30 x31 x32 To_kinds To_starts To_numbers To_words x37 x38 x39 x40 x41 x42 x43 x44 x45 x46 x47 w5 x49 x50 x51 w6 w7 Na_count Na_words Na_count_2 Na_words_2 x58 x59 x60 x61 x62 x63 x64 x65 x66 x67 ++ t) (Dv (none) (wlX g ad x0 x1 x2 x3 x4 x5 x6 x7 x8 x9 x10 x11 x12 x13 x14 x15 x16 x17 x18 x19 x20 x21 x22 x23 o.1 o.2.1 o.2.2.1 o.2.2.2.1 o.2.2.2.2.1 x29 x30 x31 x32 To_kinds To_starts To_numbers To_words x37 x38 x39 x40 x41 x42 x43 x44 x45 x46 x47 o.2.2.2.2.2.1 x49 x50 x51 o.2.2.2.2.2.2.1 o.2.2.2.2.2.2.2 Na_count Na_words Na_count_2 Na_words_2 x58 x59 x60 x61 x62 x63 x64 x65 x66 x67 ++ t)))) (ih_7 : (∀ {w0 : Int32} {w1 : Int32} {w2 : Int32} {w3 : Int32} {w4 : Int32} {w5 : Int32} {w6 : Nat → Int32} {w7 : Nat → Int32} {o : Int32 × Int32 × Int32 × Int32 × Int32 × Int32 × (Nat → Int32) × (Nat → Int32)} {t : va_W}, rec 7 0 0 (w0, w1, w2, w3, w4, w5, w6, w7) = some o → Ct g mX4_readTwoSums (7 + D) 0 0 [.ref (ad 33)] (wlX g ad x0 x1 x2 x3 x4 x5 x6 x7 x8 x9 x10 x11 x12 x13 x14 x15 x16 x17 x18 x19 x20 x21 x22 x23 w0 w1 w2 w3 w4 x29 x30 x31 x32 To_kinds To_starts To_numbers To_words x37 x38 x39 x40 x41 x42 x43 x44 x45 x46 x47 w5 x49 x50 x51 w6 w7 Na_count Na_words Na_count_2 Na_words_2 x58 x59 x60 x61 x62 x63 x64 x65 x66 x67 ++ t) (Dv (none) (wlX g ad x0 x1 x2 x3 x4 x5 x6 x7 x8 x9 x10 x11 x12 x13 x14 x15 x16 x17 x18 x19 x20 x21 x22 x23 o.1 o.2.1 o.2.2.1 o.2.2.2.1 o.2.2.2.2.1 x29 x30 x31 x32 To_kinds To_starts To_numbers To_words x37 x38 x39 x40 x41 x42 x43 x44 x45 x46 x47 o.2.2.2.2.2.1 x49 x50 x51 o.2.2.2.2.2.2.1 o.2.2.2.2.2.2.2 Na_count Na_words Na_count_2 Na_words_2 x58 x59 x60 x61 x62 x63 x64 x65 x66 x67 ++ t)))) {o : Int32 × Int32 × Int32 × Int32 × Int32 × Int32 × (Nat → Int32) × (Nat → Int32)} {Q : Rs → va_W → Prop} (h : f_Re_readTest N rec Re_at Re_kind Re_depth Re_error Re_errorPlace To_kinds To_starts To_numbers To_words Or_stepCount Or_stepKinds Or_stepParts Na_count Na_words Na_count_2 Na_words_2 = some o) (hq : Q (.inl (none)) (wlX g ad x0 x1 x2 x3 x4 x5 x6 x7 x8 x9 x10 x11 x12 x13 x14 x15 x16 x17 x18 x19 x20 x21 x22 x23 o.1 o.2.1 o.2.2.1 o.2.2.2.1 o.2.2.2.2.1 x29 x30 x31 x32 To_kinds To_starts To_numbers To_words x37 x38 x39 x40 x41 x42 x43 x44 x45 x46 x47 o.2.2.2.2.2.1 x49 x50 x51 o.2.2.2.2.2.2.1 o.2.2.2.2.2.2.2 Na_count Na_words Na_count_2 Na_words_2 x58 x59 x60 x61 x62 x63 x64 x65 x66 x67 ++ t)) : R g mX4_readTest (7 + (D + 1)) 0 0 0 [(0, .ref (ad 33))] [] (wlX g ad x0 x1 x2 x3 x4 x5 x6 x7 x8 x9 x10 x11 x12 x13 x14 x15 x16 x17 x18 x19 x20 x21 x22 x23 Re_at Re_kind Re_depth Re_error Re_errorPlace x29 x30 x31 x32 To_kinds To_starts To_numbers To_words x37 x38 x39 x40 x41 x42 x43 x44 x45 x46 x47 Or_stepCount x49 x50 x51 Or_stepKinds Or_stepParts Na_count Na_words Na_count_2 Na_words_2 x58 x59 x60 x61 x62 x63 x64 x65 x66 x67 ++ t) Q := by
  unfold f_Re_readTest at h
  refine r_aload_n 0 dX4_readTest_0 rfl ?_
  obtain ⟨r52, hc53, h⟩ := ob (fun z9 => z9) rfl h
  refine c_Vv (rest := []) 0 0 _ dX4_readTest_1 kv_X4_164 (ih_1 hc53) rfl rfl lX_33 rfl (Nat.le_of_ble_eq_true rfl) (Nat.le_refl _) (by decide) ?_
  refine r_iconst (v := (0 : Int32)) dX4_readTest_4 (by decide) ?_
  refine r_istore_n [(1, .int (0 : Int32)), (0, .ref (ad 33))] dX4_readTest_5 (by decide) rfl ?_
  refine r_ls [1, 0] (ls2 := [(0, .ref (ad 33)), (1, .int (0 : Int32))]) rfl ?_
  have L1 : ∀ (n1 : Nat) (l1_1 : Int32) (Re_at_1 : Int32) (Re_kind_1 : Int32) (Re_depth_1 : Int32) (Re_error_1 : Int32) (Re_errorPlace_1 : Int32) (Or_stepCount_1 : Int32) (Or_stepKinds_1 : Nat → Int32) (Or_stepParts_1 : Nat → Int32), (fun z9 => z9) (lpS (f_Re_readTest_L6 To_kinds rec) none n1 (l1_1, Re_at_1, Re_kind_1, Re_depth_1, Re_error_1, Re_errorPlace_1, Or_stepCount_1, Or_stepKinds_1, Or_stepParts_1)) = some o → R g mX4_readTest (7 + (D + 1)) 0 0 6 [(0, .ref (ad 33)), (1, .int l1_1)] [] (wlX g ad x0 x1 x2 x3 x4 x5 x6 x7 x8 x9 x10 x11 x12 x13 x14 x15 x16 x17 x18 x19 x20 x21 x22 x23 Re_at_1 Re_kind_1 Re_depth_1 Re_error_1 Re_errorPlace_1 x29 x30 x31 x32 To_kinds To_starts To_numbers To_words x37 x38 x39 x40 x41 x42 x43 x44 x45 x46 x47 Or_stepCount_1 x49 x50 x51 Or_stepKinds_1 Or_stepParts_1 Na_count Na_words Na_count_2 Na_words_2 x58 x59 x60 x61 x62 x63 x64 x65 x66 x67 ++ t) Q := by
    intro n1
    induction n1 with
    | zero => intro l1_1 Re_at_1 Re_kind_1 Re_depth_1 Re_error_1 Re_errorPlace_1 Or_stepCount_1 Or_stepKinds_1 Or_stepParts_1 h; exact nomatch (show (none : Option _) = some _ from h)
    | succ n1 ih1 =>
      intro l1_1 Re_at_1 Re_kind_1 Re_depth_1 Re_error_1 Re_errorPlace_1 Or_stepCount_1 Or_stepKinds_1 Or_stepParts_1 h
      have h : (fun z9 => (lC (f_Re_readTest_L6 To_kinds rec) none n1 z9)) (f_Re_readTest_L6 To_kinds rec (l1_1, Re_at_1, Re_kind_1, Re_depth_1, Re_error_1, Re_errorPlace_1, Or_stepCount_1, Or_stepKinds_1, Or_stepParts_1)) = some o := h
      unfold f_Re_readTest_L6 at h
      try dsimp only at h
      refine r_iload_n 1 dX4_readTest_6 rfl ?_
      refine r_sipush (v := (400 : Int32)) dX4_readTest_7 (by decide) ?_
      refine r_icmp_ge (tgt := 51) dX4_readTest_10 (by decide) (fun hc54 => ?_) (fun hc54 => ?_)
      · have h := ip (fun z9 => (lC (f_Re_readTest_L6 To_kinds rec) none n1 z9)) hc54 h
        refine r_vret dX4_readTest_51 rfl ?_
        have h := Option.some.inj (show some _ = some o from h)
        subst h
        exact hq
      · have h := iq (fun z9 => (lC (f_Re_readTest_L6 To_kinds rec) none n1 z9)) hc54 h
        refine r_aload_n 0 dX4_readTest_13 rfl ?_
        refine r_getf (v := .int Re_kind_1) _ dX4_readTest_14 fl_X4_42 lX_33 rfl ?_
        refine r_sipush (v := (222 : Int32)) dX4_readTest_17 (by decide) ?_
        refine r_icmp_ne (tgt := 51) dX4_readTest_20 (by decide) (fun hc55 => ?_) (fun hc55 => ?_)
        · have h := iq (fun z9 => (lC (f_Re_readTest_L6 To_kinds rec) none n1 z9)) hc55 h
          refine r_vret dX4_readTest_51 rfl ?_
          have h := Option.some.inj (show some _ = some o from h)
          subst h
          exact hq
        · have h := ip (fun z9 => (lC (f_Re_readTest_L6 To_kinds rec) none n1 z9)) hc55 h
          refine r_aload_n 0 dX4_readTest_23 rfl ?_
          obtain ⟨r56, hc57, h⟩ := ob (fun z9 => (lC (f_Re_readTest_L6 To_kinds rec) none n1 z9)) rfl h
          refine c_Vv (rest := []) 0 0 _ dX4_readTest_24 kv_X4_105 (ct_Re_advance hc57) rfl rfl lX_33 rfl (Nat.le_of_ble_eq_true rfl) (dl (by decide)) (by decide) ?_
          refine r_aload_n 0 dX4_readTest_27 rfl ?_
          obtain ⟨r58, hc59, h⟩ := ob (fun z9 => (lC (f_Re_readTest_L6 To_kinds rec) none n1 z9)) rfl h
          refine c_Vv (rest := []) 0 0 _ dX4_readTest_28 kv_X4_164 (ih_1 hc59) rfl rfl lX_33 rfl (Nat.le_of_ble_eq_true rfl) (Nat.le_refl _) (by decide) ?_
          refine r_aload_n 0 dX4_readTest_31 rfl ?_
          refine r_getf (v := .ref (ad 44)) _ dX4_readTest_32 fl_X4_23 lX_33 rfl ?_
          refine r_getf (v := .ref (ad 56)) _ dX4_readTest_35 fl_X4_151 lX_44 rfl ?_
          refine r_sipush (v := (222 : Int32)) dX4_readTest_38 (by decide) ?_
          refine r_iconst (v := (0 : Int32)) dX4_readTest_41 (by decide) ?_
          obtain ⟨r60, hc61, h⟩ := ob (fun z9 => (lC (f_Re_readTest_L6 To_kinds rec) none n1 z9)) rfl h
          refine c_Vv (rest := []) 0 0 _ dX4_readTest_42 kv_X4_167 (ct_Or_addStep hc61) rfl rfl lX_56 rfl (Nat.le_of_ble_eq_true rfl) (dl (by decide)) (by decide) ?_
          refine r_iinc (v2 := (l1_1 + (1 : Int32))) 1 [(1, .int (l1_1 + (1 : Int32))), (0, .ref (ad 33))] dX4_readTest_45 rfl rfl (by decide) rfl ?_
          refine r_goto (tgt := 6) dX4_readTest_48 (by decide) ?_
          refine r_ls [1, 0] (ls2 := [(0, .ref (ad 33)), (1, .int (l1_1 + (1 : Int32)))]) rfl ?_
          exact ih1 (l1_1 + (1 : Int32)) r58.1 r58.2.1 r58.2.2.1 r58.2.2.2.1 r58.2.2.2.2.1 r60.1 r60.2.1 r60.2.2 h
  exact L1 _ (0 : Int32) r52.1 r52.2.1 r52.2.2.1 r52.2.2.2.1 r52.2.2.2.2.1 r52.2.2.2.2.2.1 r52.2.2.2.2.2.2.1 r52.2.2.2.2.2.2.2 h
set_option maxRecDepth 20000 in
set_option maxHeartbeats 4000000 in
theorem rt_Re_readBoth {g : GG} {ad : Nat → Nat} {t : va_W} {x0 x1 x3 x4 x5 x11 x12 x18 x19 x20 x29 x30 x31 x37 x39 x40 x41 x47 x58 x59 x60 x61 x63 x64 x65 x66 : Int32} {x2 x6 x7 x8 x9 x10 x13 x14 x15 x16 x17 x21 x22 x23 x42 x43 x44 x45 x46 x49 x50 x51 x62 x67 : Nat → Int32} {x32 : Int64} {x38 : Nat → Int64} {N : Nat} {Re_at : Int32} {Re_kind : Int32} {Re_depth : Int32} {Re_error : Int32} {Re_errorPlace : Int32} {To_kinds : Nat → Int32} {To_starts : Nat → Int32} {To_numbers : Nat → Int32} {To_words : Nat → Int64} {Or_stepCount : Int32} {Or_stepKinds : Nat → Int32} {Or_stepParts : Nat → Int32} {Na_count : Int32} {Na_words : Nat → Int64} {Na_count_2 : Int32} {Na_words_2 : Nat → Int64} {D : Nat} {rec : Nat → Int32 → Int32 → (Int32 × Int32 × Int32 × Int32 × Int32 × Int32 × (Nat → Int32) × (Nat → Int32)) → Option (Int32 × Int32 × Int32 × Int32 × Int32 × Int32 × (Nat → Int32) × (Nat → Int32))} (ih_0 : (∀ {w0 : Int32} {w1 : Int32} {w2 : Int32} {w3 : Int32} {w4 : Int32} {w5 : Int32} {w6 : Nat → Int32} {w7 : Nat → Int32} {o : Int32 × Int32 × Int32 × Int32 × Int32 × Int32 × (Nat → Int32) × (Nat → Int32)} {t : va_W}, rec 0 0 0 (w0, w1, w2, w3, w4, w5, w6, w7) = some o → Ct g mX4_readTest (7 + D) 0 0 [.ref (ad 33)] (wlX g ad x0 x1 x2 x3 x4 x5 x6 x7 x8 x9 x10 x11 x12 x13 x14 x15 x16 x17 x18 x19 x20 x21 x22 x23 w0 w1 w2 w3 w4 x29 x30 x31 x32 To_kinds To_starts To_numbers To_words x37 x38 x39 x40 x41 x42 x43 x44 x45 x46 x47 w5 x49 x50 x51 w6 w7 Na_count Na_words Na_count_2 Na_words_2 x58 x59 x60 x61 x62 x63 x64 x65 x66 x67 ++ t) (Dv (none) (wlX g ad x0 x1 x2 x3 x4 x5 x6 x7 x8 x9 x10 x11 x12 x13 x14 x15 x16 x17 x18 x19 x20 x21 x22 x23 o.1 o.2.1 o.2.2.1 o.2.2.2.1 o.2.2.2.2.1 x29 x30 x31 x32 To_kinds To_starts To_numbers To_words x37 x38 x39 x40 x41 x42 x43 x44 x45 x46 x47 o.2.2.2.2.2.1 x49 x50 x51 o.2.2.2.2.2.2.1 o.2.2.2.2.2.2.2 Na_count Na_words Na_count_2 Na_words_2 x58 x59 x60 x61 x62 x63 x64 x65 x66 x67 ++ t)))) (ih_1 : (∀ {w0 : Int32} {w1 : Int32} {w2 : Int32} {w3 : Int32} {w4 : Int32} {w5 : Int32} {w6 : Nat → Int32} {w7 : Nat → Int32} {o : Int32 × Int32 × Int32 × Int32 × Int32 × Int32 × (Nat → Int32) × (Nat → Int32)} {t : va_W}, rec 1 0 0 (w0, w1, w2, w3, w4, w5, w6, w7) = some o → Ct g mX4_readBoth (7 + D) 0 0 [.ref (ad 33)] (wlX g ad x0 x1 x2 x3 x4 x5 x6 x7 x8 x9 x10 x11 x12 x13 x14 x15 x16 x17 x18 x19 x20 x21 x22 x23 w0 w1 w2 w3 w4 x29 x30 x31 x32 To_kinds To_starts To_numbers To_words x37 x38 x39 x40 x41 x42 x43 x44 x45 x46 x47 w5 x49 x50 x51 w6 w7 Na_count Na_words Na_count_2 Na_words_2 x58 x59 x60 x61 x62 x63 x64 x65 x66 x67 ++ t) (Dv (none) (wlX g ad x0 x1 x2 x3 x4 x5 x6 x7 x8 x9 x10 x11 x12 x13 x14 x15 x16 x17 x18 x19 x20 x21 x22 x23 o.1 o.2.1 o.2.2.1 o.2.2.2.1 o.2.2.2.2.1 x29 x30 x31 x32 To_kinds To_starts To_numbers To_words x37 x38 x39 x40 x41 x42 x43 x44 x45 x46 x47 o.2.2.2.2.2.1 x49 x50 x51 o.2.2.2.2.2.2.1 o.2.2.2.2.2.2.2 Na_count Na_words Na_count_2 Na_words_2 x58 x59 x60 x61 x62 x63 x64 x65 x66 x67 ++ t)))) (ih_2 : (∀ {w0 : Int32} {w1 : Int32} {w2 : Int32} {w3 : Int32} {w4 : Int32} {w5 : Int32} {w6 : Nat → Int32} {w7 : Nat → Int32} {o : Int32 × Int32 × Int32 × Int32 × Int32 × Int32 × (Nat → Int32) × (Nat → Int32)} {t : va_W}, rec 2 0 0 (w0, w1, w2, w3, w4, w5, w6, w7) = some o → Ct g mX4_readSingle (7 + D) 0 0 [.ref (ad 33)] (wlX g ad x0 x1 x2 x3 x4 x5 x6 x7 x8 x9 x10 x11 x12 x13 x14 x15 x16 x17 x18 x19 x20 x21 x22 x23 w0 w1 w2 w3 w4 x29 x30 x31 x32 To_kinds To_starts To_numbers To_words x37 x38 x39 x40 x41 x42 x43 x44 x45 x46 x47 w5 x49 x50 x51 w6 w7 Na_count Na_words Na_count_2 Na_words_2 x58 x59 x60 x61 x62 x63 x64 x65 x66 x67 ++ t) (Dv (none) (wlX g ad x0 x1 x2 x3 x4 x5 x6 x7 x8 x9 x10 x11 x12 x13 x14 x15 x16 x17 x18 x19 x20 x21 x22 x23 o.1 o.2.1 o.2.2.1 o.2.2.2.1 o.2.2.2.2.1 x29 x30 x31 x32 To_kinds To_starts To_numbers To_words x37 x38 x39 x40 x41 x42 x43 x44 x45 x46 x47 o.2.2.2.2.2.1 x49 x50 x51 o.2.2.2.2.2.2.1 o.2.2.2.2.2.2.2 Na_count Na_words Na_count_2 Na_words_2 x58 x59 x60 x61 x62 x63 x64 x65 x66 x67 ++ t)))) (ih_3 : (∀ {w0 : Int32} {w1 : Int32} {w2 : Int32} {w3 : Int32} {w4 : Int32} {w5 : Int32} {w6 : Nat → Int32} {w7 : Nat → Int32} {o : Int32 × Int32 × Int32 × Int32 × Int32 × Int32 × (Nat → Int32) × (Nat → Int32)} {t : va_W}, rec 3 0 0 (w0, w1, w2, w3, w4, w5, w6, w7) = some o → Ct g mX4_readCompared (7 + D) 0 0 [.ref (ad 33)] (wlX g ad x0 x1 x2 x3 x4 x5 x6 x7 x8 x9 x10 x11 x12 x13 x14 x15 x16 x17 x18 x19 x20 x21 x22 x23 w0 w1 w2 w3 w4 x29 x30 x31 x32 To_kinds To_starts To_numbers To_words x37 x38 x39 x40 x41 x42 x43 x44 x45 x46 x47 w5 x49 x50 x51 w6 w7 Na_count Na_words Na_count_2 Na_words_2 x58 x59 x60 x61 x62 x63 x64 x65 x66 x67 ++ t) (Dv (none) (wlX g ad x0 x1 x2 x3 x4 x5 x6 x7 x8 x9 x10 x11 x12 x13 x14 x15 x16 x17 x18 x19 x20 x21 x22 x23 o.1 o.2.1 o.2.2.1 o.2.2.2.1 o.2.2.2.2.1 x29 x30 x31 x32 To_kinds To_starts To_numbers To_words x37 x38 x39 x40 x41 x42 x43 x44 x45 x46 x47 o.2.2.2.2.2.1 x49 x50 x51 o.2.2.2.2.2.2.1 o.2.2.2.2.2.2.2 Na_count Na_words Na_count_2 Na_words_2 x58 x59 x60 x61 x62 x63 x64 x65 x66 x67 ++ t)))) (ih_4 : (∀ {w0 : Int32} {w1 : Int32} {w2 : Int32} {w3 : Int32} {w4 : Int32} {w5 : Int32} {w6 : Nat → Int32} {w7 : Nat → Int32} {o : Int32 × Int32 × Int32 × Int32 × Int32 × Int32 × (Nat → Int32) × (Nat → Int32)} {t : va_W}, rec 4 0 0 (w0, w1, w2, w3, w4, w5, w6, w7) = some o → Ct g mX4_readSum (7 + D) 0 0 [.ref (ad 33)] (wlX g ad x0 x1 x2 x3 x4 x5 x6 x7 x8 x9 x10 x11 x12 x13 x14 x15 x16 x17 x18 x19 x20 x21 x22 x23 w0 w1 w2 w3 w4 x29 x30 x31 x32 To_kinds To_starts To_numbers To_words x37 x38 x39 x40 x41 x42 x43 x44 x45 x46 x47 w5 x49 x50 x51 w6 w7 Na_count Na_words Na_count_2 Na_words_2 x58 x59 x60 x61 x62 x63 x64 x65 x66 x67 ++ t) (Dv (none) (wlX g ad x0 x1 x2 x3 x4 x5 x6 x7 x8 x9 x10 x11 x12 x13 x14 x15 x16 x17 x18 x19 x20 x21 x22 x23 o.1 o.2.1 o.2.2.1 o.2.2.2.1 o.2.2.2.2.1 x29 x30 x31 x32 To_kinds To_starts To_numbers To_words x37 x38 x39 x40 x41 x42 x43 x44 x45 x46 x47 o.2.2.2.2.2.1 x49 x50 x51 o.2.2.2.2.2.2.1 o.2.2.2.2.2.2.2 Na_count Na_words Na_count_2 Na_words_2 x58 x59 x60 x61 x62 x63 x64 x65 x66 x67 ++ t)))) (ih_5 : (∀ {w0 : Int32} {w1 : Int32} {w2 : Int32} {w3 : Int32} {w4 : Int32} {w5 : Int32} {w6 : Nat → Int32} {w7 : Nat → Int32} {o : Int32 × Int32 × Int32 × Int32 × Int32 × Int32 × (Nat → Int32) × (Nat → Int32)} {t : va_W}, rec 5 0 0 (w0, w1, w2, w3, w4, w5, w6, w7) = some o → Ct g mX4_readProduct (7 + D) 0 0 [.ref (ad 33)] (wlX g ad x0 x1 x2 x3 x4 x5 x6 x7 x8 x9 x10 x11 x12 x13 x14 x15 x16 x17 x18 x19 x20 x21 x22 x23 w0 w1 w2 w3 w4 x29 x30 x31 x32 To_kinds To_starts To_numbers To_words x37 x38 x39 x40 x41 x42 x43 x44 x45 x46 x47 w5 x49 x50 x51 w6 w7 Na_count Na_words Na_count_2 Na_words_2 x58 x59 x60 x61 x62 x63 x64 x65 x66 x67 ++ t) (Dv (none) (wlX g ad x0 x1 x2 x3 x4 x5 x6 x7 x8 x9 x10 x11 x12 x13 x14 x15 x16 x17 x18 x19 x20 x21 x22 x23 o.1 o.2.1 o.2.2.1 o.2.2.2.1 o.2.2.2.2.1 x29 x30 x31 x32 To_kinds To_starts To_numbers To_words x37 x38 x39 x40 x41 x42 x43 x44 x45 x46 x47 o.2.2.2.2.2.1 x49 x50 x51 o.2.2.2.2.2.2.1 o.2.2.2.2.2.2.2 Na_count Na_words Na_count_2 Na_words_2 x58 x59 x60 x61 x62 x63 x64 x65 x66 x67 ++ t)))) (ih_6 : (∀ {w0 : Int32} {w1 : Int32} {w2 : Int32} {w3 : Int32} {w4 : Int32} {w5 : Int32} {w6 : Nat → Int32} {w7 : Nat → Int32} {o : Int32 × Int32 × Int32 × Int32 × Int32 × Int32 × (Nat → Int32) × (Nat → Int32)} {t : va_W}, rec 6 0 0 (w0, w1, w2, w3, w4, w5, w6, w7) = some o → Ct g mX4_readValue (7 + D) 0 0 [.ref (ad 33)] (wlX g ad x0 x1 x2 x3 x4 x5 x6 x7 x8 x9 x10 x11 x12 x13 x14 x15 x16 x17 x18 x19 x20 x21 x22 x23 w0 w1 w2 w3 w4 x29 x30 x31 x32 To_kinds To_starts To_numbers To_words x37 x38 x39 x40 x41 x42 x43 x44 x45 x46 x47 w5 x49 x50 x51 w6 w7 Na_count Na_words Na_count_2 Na_words_2 x58 x59 x60 x61 x62 x63 x64 x65 x66 x67 ++ t) (Dv (none) (wlX g ad x0 x1 x2 x3 x4 x5 x6 x7 x8 x9 x10 x11 x12 x13 x14 x15 x16 x17 x18 x19 x20 x21 x22 x23 o.1 o.2.1 o.2.2.1 o.2.2.2.1 o.2.2.2.2.1 x29 x30 x31 x32 To_kinds To_starts To_numbers To_words x37 x38 x39 x40 x41 x42 x43 x44 x45 x46 x47 o.2.2.2.2.2.1 x49 x50 x51 o.2.2.2.2.2.2.1 o.2.2.2.2.2.2.2 Na_count Na_words Na_count_2 Na_words_2 x58 x59 x60 x61 x62 x63 x64 x65 x66 x67 ++ t)))) (ih_7 : (∀ {w0 : Int32} {w1 : Int32} {w2 : Int32} {w3 : Int32} {w4 : Int32} {w5 : Int32} {w6 : Nat → Int32} {w7 : Nat → Int32} {o : Int32 × Int32 × Int32 × Int32 × Int32 × Int32 × (Nat → Int32) × (Nat → Int32)} {t : va_W}, rec 7 0 0 (w0, w1, w2, w3, w4, w5, w6, w7) = some o → Ct g mX4_readTwoSums (7 + D) 0 0 [.ref (ad 33)] (wlX g ad x0 x1 x2 x3 x4 x5 x6 x7 x8 x9 x10 x11 x12 x13 x14 x15 x16 x17 x18 x19 x20 x21 x22 x23 w0 w1 w2 w3 w4 x29 x30 x31 x32 To_kinds To_starts To_numbers To_words x37 x38 x39 x40 x41 x42 x43 x44 x45 x46 x47 w5 x49 x50 x51 w6 w7 Na_count Na_words Na_count_2 Na_words_2 x58 x59 x60 x61 x62 x63 x64 x65 x66 x67 ++ t) (Dv (none) (wlX g ad x0 x1 x2 x3 x4 x5 x6 x7 x8 x9 x10 x11 x12 x13 x14 x15 x16 x17 x18 x19 x20 x21 x22 x23 o.1 o.2.1 o.2.2.1 o.2.2.2.1 o.2.2.2.2.1 x29 x30 x31 x32 To_kinds To_starts To_numbers To_words x37 x38 x39 x40 x41 x42 x43 x44 x45 x46 x47 o.2.2.2.2.2.1 x49 x50 x51 o.2.2.2.2.2.2.1 o.2.2.2.2.2.2.2 Na_count Na_words Na_count_2 Na_words_2 x58 x59 x60 x61 x62 x63 x64 x65 x66 x67 ++ t)))) {o : Int32 × Int32 × Int32 × Int32 × Int32 × Int32 × (Nat → Int32) × (Nat → Int32)} {Q : Rs → va_W → Prop} (h : f_Re_readBoth N rec Re_at Re_kind Re_depth Re_error Re_errorPlace To_kinds To_starts To_numbers To_words Or_stepCount Or_stepKinds Or_stepParts Na_count Na_words Na_count_2 Na_words_2 = some o) (hq : Q (.inl (none)) (wlX g ad x0 x1 x2 x3 x4 x5 x6 x7 x8 x9 x10 x11 x12 x13 x14 x15 x16 x17 x18 x19 x20 x21 x22 x23 o.1 o.2.1 o.2.2.1 o.2.2.2.1 o.2.2.2.2.1 x29 x30 x31 x32 To_kinds To_starts To_numbers To_words x37 x38 x39 x40 x41 x42 x43 x44 x45 x46 x47 o.2.2.2.2.2.1 x49 x50 x51 o.2.2.2.2.2.2.1 o.2.2.2.2.2.2.2 Na_count Na_words Na_count_2 Na_words_2 x58 x59 x60 x61 x62 x63 x64 x65 x66 x67 ++ t)) : R g mX4_readBoth (7 + (D + 1)) 0 0 0 [(0, .ref (ad 33))] [] (wlX g ad x0 x1 x2 x3 x4 x5 x6 x7 x8 x9 x10 x11 x12 x13 x14 x15 x16 x17 x18 x19 x20 x21 x22 x23 Re_at Re_kind Re_depth Re_error Re_errorPlace x29 x30 x31 x32 To_kinds To_starts To_numbers To_words x37 x38 x39 x40 x41 x42 x43 x44 x45 x46 x47 Or_stepCount x49 x50 x51 Or_stepKinds Or_stepParts Na_count Na_words Na_count_2 Na_words_2 x58 x59 x60 x61 x62 x63 x64 x65 x66 x67 ++ t) Q := by
  unfold f_Re_readBoth at h
  refine r_aload_n 0 dX4_readBoth_0 rfl ?_
  obtain ⟨r62, hc63, h⟩ := ob (fun z9 => z9) rfl h
  refine c_Vv (rest := []) 0 0 _ dX4_readBoth_1 kv_X4_170 (ih_2 hc63) rfl rfl lX_33 rfl (Nat.le_of_ble_eq_true rfl) (Nat.le_refl _) (by decide) ?_
  refine r_iconst (v := (0 : Int32)) dX4_readBoth_4 (by decide) ?_
  refine r_istore_n [(1, .int (0 : Int32)), (0, .ref (ad 33))] dX4_readBoth_5 (by decide) rfl ?_
  refine r_ls [1, 0] (ls2 := [(0, .ref (ad 33)), (1, .int (0 : Int32))]) rfl ?_
  have L1 : ∀ (n1 : Nat) (l1_1 : Int32) (Re_at_1 : Int32) (Re_kind_1 : Int32) (Re_depth_1 : Int32) (Re_error_1 : Int32) (Re_errorPlace_1 : Int32) (Or_stepCount_1 : Int32) (Or_stepKinds_1 : Nat → Int32) (Or_stepParts_1 : Nat → Int32), (fun z9 => z9) (lpS (f_Re_readBoth_L6 To_kinds rec) none n1 (l1_1, Re_at_1, Re_kind_1, Re_depth_1, Re_error_1, Re_errorPlace_1, Or_stepCount_1, Or_stepKinds_1, Or_stepParts_1)) = some o → R g mX4_readBoth (7 + (D + 1)) 0 0 6 [(0, .ref (ad 33)), (1, .int l1_1)] [] (wlX g ad x0 x1 x2 x3 x4 x5 x6 x7 x8 x9 x10 x11 x12 x13 x14 x15 x16 x17 x18 x19 x20 x21 x22 x23 Re_at_1 Re_kind_1 Re_depth_1 Re_error_1 Re_errorPlace_1 x29 x30 x31 x32 To_kinds To_starts To_numbers To_words x37 x38 x39 x40 x41 x42 x43 x44 x45 x46 x47 Or_stepCount_1 x49 x50 x51 Or_stepKinds_1 Or_stepParts_1 Na_count Na_words Na_count_2 Na_words_2 x58 x59 x60 x61 x62 x63 x64 x65 x66 x67 ++ t) Q := by
    intro n1
    induction n1 with
    | zero => intro l1_1 Re_at_1 Re_kind_1 Re_depth_1 Re_error_1 Re_errorPlace_1 Or_stepCount_1 Or_stepKinds_1 Or_stepParts_1 h; exact nomatch (show (none : Option _) = some _ from h)
    | succ n1 ih1 =>
      intro l1_1 Re_at_1 Re_kind_1 Re_depth_1 Re_error_1 Re_errorPlace_1 Or_stepCount_1 Or_stepKinds_1 Or_stepParts_1 h
      have h : (fun z9 => (lC (f_Re_readBoth_L6 To_kinds rec) none n1 z9)) (f_Re_readBoth_L6 To_kinds rec (l1_1, Re_at_1, Re_kind_1, Re_depth_1, Re_error_1, Re_errorPlace_1, Or_stepCount_1, Or_stepKinds_1, Or_stepParts_1)) = some o := h
      unfold f_Re_readBoth_L6 at h
      try dsimp only at h
      refine r_iload_n 1 dX4_readBoth_6 rfl ?_
      refine r_sipush (v := (400 : Int32)) dX4_readBoth_7 (by decide) ?_
      refine r_icmp_ge (tgt := 51) dX4_readBoth_10 (by decide) (fun hc64 => ?_) (fun hc64 => ?_)
      · have h := ip (fun z9 => (lC (f_Re_readBoth_L6 To_kinds rec) none n1 z9)) hc64 h
        refine r_vret dX4_readBoth_51 rfl ?_
        have h := Option.some.inj (show some _ = some o from h)
        subst h
        exact hq
      · have h := iq (fun z9 => (lC (f_Re_readBoth_L6 To_kinds rec) none n1 z9)) hc64 h
        refine r_aload_n 0 dX4_readBoth_13 rfl ?_
        refine r_getf (v := .int Re_kind_1) _ dX4_readBoth_14 fl_X4_42 lX_33 rfl ?_
        refine r_sipush (v := (221 : Int32)) dX4_readBoth_17 (by decide) ?_
        refine r_icmp_ne (tgt := 51) dX4_readBoth_20 (by decide) (fun hc65 => ?_) (fun hc65 => ?_)
        · have h := iq (fun z9 => (lC (f_Re_readBoth_L6 To_kinds rec) none n1 z9)) hc65 h
          refine r_vret dX4_readBoth_51 rfl ?_
          have h := Option.some.inj (show some _ = some o from h)
          subst h
          exact hq
        · have h := ip (fun z9 => (lC (f_Re_readBoth_L6 To_kinds rec) none n1 z9)) hc65 h
          refine r_aload_n 0 dX4_readBoth_23 rfl ?_
          obtain ⟨r66, hc67, h⟩ := ob (fun z9 => (lC (f_Re_readBoth_L6 To_kinds rec) none n1 z9)) rfl h
          refine c_Vv (rest := []) 0 0 _ dX4_readBoth_24 kv_X4_105 (ct_Re_advance hc67) rfl rfl lX_33 rfl (Nat.le_of_ble_eq_true rfl) (dl (by decide)) (by decide) ?_
          refine r_aload_n 0 dX4_readBoth_27 rfl ?_
          obtain ⟨r68, hc69, h⟩ := ob (fun z9 => (lC (f_Re_readBoth_L6 To_kinds rec) none n1 z9)) rfl h
          refine c_Vv (rest := []) 0 0 _ dX4_readBoth_28 kv_X4_170 (ih_2 hc69) rfl rfl lX_33 rfl (Nat.le_of_ble_eq_true rfl) (Nat.le_refl _) (by decide) ?_
          refine r_aload_n 0 dX4_readBoth_31 rfl ?_
          refine r_getf (v := .ref (ad 44)) _ dX4_readBoth_32 fl_X4_23 lX_33 rfl ?_
          refine r_getf (v := .ref (ad 56)) _ dX4_readBoth_35 fl_X4_151 lX_44 rfl ?_
          refine r_sipush (v := (221 : Int32)) dX4_readBoth_38 (by decide) ?_
          refine r_iconst (v := (0 : Int32)) dX4_readBoth_41 (by decide) ?_
          obtain ⟨r70, hc71, h⟩ := ob (fun z9 => (lC (f_Re_readBoth_L6 To_kinds rec) none n1 z9)) rfl h
          refine c_Vv (rest := []) 0 0 _ dX4_readBoth_42 kv_X4_167 (ct_Or_addStep hc71) rfl rfl lX_56 rfl (Nat.le_of_ble_eq_true rfl) (dl (by decide)) (by decide) ?_
          refine r_iinc (v2 := (l1_1 + (1 : Int32))) 1 [(1, .int (l1_1 + (1 : Int32))), (0, .ref (ad 33))] dX4_readBoth_45 rfl rfl (by decide) rfl ?_
          refine r_goto (tgt := 6) dX4_readBoth_48 (by decide) ?_
          refine r_ls [1, 0] (ls2 := [(0, .ref (ad 33)), (1, .int (l1_1 + (1 : Int32)))]) rfl ?_
          exact ih1 (l1_1 + (1 : Int32)) r68.1 r68.2.1 r68.2.2.1 r68.2.2.2.1 r68.2.2.2.2.1 r70.1 r70.2.1 r70.2.2 h
  exact L1 _ (0 : Int32) r62.1 r62.2.1 r62.2.2.1 r62.2.2.2.1 r62.2.2.2.2.1 r62.2.2.2.2.2.1 r62.2.2.2.2.2.2.1 r62.2.2.2.2.2.2.2 h
set_option maxRecDepth 20000 in
set_option maxHeartbeats 4000000 in
theorem rt_Re_readSingle {g : GG} {ad : Nat → Nat} {t : va_W} {x0 x1 x3 x4 x5 x11 x12 x18 x19 x20 x29 x30 x31 x37 x39 x40 x41 x47 x58 x59 x60 x61 x63 x64 x65 x66 : Int32} {x2 x6 x7 x8 x9 x10 x13 x14 x15 x16 x17 x21 x22 x23 x42 x43 x44 x45 x46 x49 x50 x51 x62 x67 : Nat → Int32} {x32 : Int64} {x38 : Nat → Int64} {N : Nat} {Re_at : Int32} {Re_kind : Int32} {Re_depth : Int32} {Re_error : Int32} {Re_errorPlace : Int32} {To_kinds : Nat → Int32} {To_starts : Nat → Int32} {To_numbers : Nat → Int32} {To_words : Nat → Int64} {Or_stepCount : Int32} {Or_stepKinds : Nat → Int32} {Or_stepParts : Nat → Int32} {Na_count : Int32} {Na_words : Nat → Int64} {Na_count_2 : Int32} {Na_words_2 : Nat → Int64} {D : Nat} {rec : Nat → Int32 → Int32 → (Int32 × Int32 × Int32 × Int32 × Int32 × Int32 × (Nat → Int32) × (Nat → Int32)) → Option (Int32 × Int32 × Int32 × Int32 × Int32 × Int32 × (Nat → Int32) × (Nat → Int32))} (ih_0 : (∀ {w0 : Int32} {w1 : Int32} {w2 : Int32} {w3 : Int32} {w4 : Int32} {w5 : Int32} {w6 : Nat → Int32} {w7 : Nat → Int32} {o : Int32 × Int32 × Int32 × Int32 × Int32 × Int32 × (Nat → Int32) × (Nat → Int32)} {t : va_W}, rec 0 0 0 (w0, w1, w2, w3, w4, w5, w6, w7) = some o → Ct g mX4_readTest (7 + D) 0 0 [.ref (ad 33)] (wlX g ad x0 x1 x2 x3 x4 x5 x6 x7 x8 x9 x10 x11 x12 x13 x14 x15 x16 x17 x18 x19 x20 x21 x22 x23 w0 w1 w2 w3 w4 x29 x30 x31 x32 To_kinds To_starts To_numbers To_words x37 x38 x39 x40 x41 x42 x43 x44 x45 x46 x47 w5 x49 x50 x51 w6 w7 Na_count Na_words Na_count_2 Na_words_2 x58 x59 x60 x61 x62 x63 x64 x65 x66 x67 ++ t) (Dv (none) (wlX g ad x0 x1 x2 x3 x4 x5 x6 x7 x8 x9 x10 x11 x12 x13 x14 x15 x16 x17 x18 x19 x20 x21 x22 x23 o.1 o.2.1 o.2.2.1 o.2.2.2.1 o.2.2.2.2.1 x29 x30 x31 x32 To_kinds To_starts To_numbers To_words x37 x38 x39 x40 x41 x42 x43 x44 x45 x46 x47 o.2.2.2.2.2.1 x49 x50 x51 o.2.2.2.2.2.2.1 o.2.2.2.2.2.2.2 Na_count Na_words Na_count_2 Na_words_2 x58 x59 x60 x61 x62 x63 x64 x65 x66 x67 ++ t)))) (ih_1 : (∀ {w0 : Int32} {w1 : Int32} {w2 : Int32} {w3 : Int32} {w4 : Int32} {w5 : Int32} {w6 : Nat → Int32} {w7 : Nat → Int32} {o : Int32 × Int32 × Int32 × Int32 × Int32 × Int32 × (Nat → Int32) × (Nat → Int32)} {t : va_W}, rec 1 0 0 (w0, w1, w2, w3, w4, w5, w6, w7) = some o → Ct g mX4_readBoth (7 + D) 0 0 [.ref (ad 33)] (wlX g ad x0 x1 x2 x3 x4 x5 x6 x7 x8 x9 x10 x11 x12 x13 x14 x15 x16 x17 x18 x19 x20 x21 x22 x23 w0 w1 w2 w3 w4 x29 x30 x31 x32 To_kinds To_starts To_numbers To_words x37 x38 x39 x40 x41 x42 x43 x44 x45 x46 x47 w5 x49 x50 x51 w6 w7 Na_count Na_words Na_count_2 Na_words_2 x58 x59 x60 x61 x62 x63 x64 x65 x66 x67 ++ t) (Dv (none) (wlX g ad x0 x1 x2 x3 x4 x5 x6 x7 x8 x9 x10 x11 x12 x13 x14 x15 x16 x17 x18 x19 x20 x21 x22 x23 o.1 o.2.1 o.2.2.1 o.2.2.2.1 o.2.2.2.2.1 x29 x30 x31 x32 To_kinds To_starts To_numbers To_words x37 x38 x39 x40 x41 x42 x43 x44 x45 x46 x47 o.2.2.2.2.2.1 x49 x50 x51 o.2.2.2.2.2.2.1 o.2.2.2.2.2.2.2 Na_count Na_words Na_count_2 Na_words_2 x58 x59 x60 x61 x62 x63 x64 x65 x66 x67 ++ t)))) (ih_2 : (∀ {w0 : Int32} {w1 : Int32} {w2 : Int32} {w3 : Int32} {w4 : Int32} {w5 : Int32} {w6 : Nat → Int32} {w7 : Nat → Int32} {o : Int32 × Int32 × Int32 × Int32 × Int32 × Int32 × (Nat → Int32) × (Nat → Int32)} {t : va_W}, rec 2 0 0 (w0, w1, w2, w3, w4, w5, w6, w7) = some o → Ct g mX4_readSingle (7 + D) 0 0 [.ref (ad 33)] (wlX g ad x0 x1 x2 x3 x4 x5 x6 x7 x8 x9 x10 x11 x12 x13 x14 x15 x16 x17 x18 x19 x20 x21 x22 x23 w0 w1 w2 w3 w4 x29 x30 x31 x32 To_kinds To_starts To_numbers To_words x37 x38 x39 x40 x41 x42 x43 x44 x45 x46 x47 w5 x49 x50 x51 w6 w7 Na_count Na_words Na_count_2 Na_words_2 x58 x59 x60 x61 x62 x63 x64 x65 x66 x67 ++ t) (Dv (none) (wlX g ad x0 x1 x2 x3 x4 x5 x6 x7 x8 x9 x10 x11 x12 x13 x14 x15 x16 x17 x18 x19 x20 x21 x22 x23 o.1 o.2.1 o.2.2.1 o.2.2.2.1 o.2.2.2.2.1 x29 x30 x31 x32 To_kinds To_starts To_numbers To_words x37 x38 x39 x40 x41 x42 x43 x44 x45 x46 x47 o.2.2.2.2.2.1 x49 x50 x51 o.2.2.2.2.2.2.1 o.2.2.2.2.2.2.2 Na_count Na_words Na_count_2 Na_words_2 x58 x59 x60 x61 x62 x63 x64 x65 x66 x67 ++ t)))) (ih_3 : (∀ {w0 : Int32} {w1 : Int32} {w2 : Int32} {w3 : Int32} {w4 : Int32} {w5 : Int32} {w6 : Nat → Int32} {w7 : Nat → Int32} {o : Int32 × Int32 × Int32 × Int32 × Int32 × Int32 × (Nat → Int32) × (Nat → Int32)} {t : va_W}, rec 3 0 0 (w0, w1, w2, w3, w4, w5, w6, w7) = some o → Ct g mX4_readCompared (7 + D) 0 0 [.ref (ad 33)] (wlX g ad x0 x1 x2 x3 x4 x5 x6 x7 x8 x9 x10 x11 x12 x13 x14 x15 x16 x17 x18 x19 x20 x21 x22 x23 w0 w1 w2 w3 w4 x29 x30 x31 x32 To_kinds To_starts To_numbers To_words x37 x38 x39 x40 x41 x42 x43 x44 x45 x46 x47 w5 x49 x50 x51 w6 w7 Na_count Na_words Na_count_2 Na_words_2 x58 x59 x60 x61 x62 x63 x64 x65 x66 x67 ++ t) (Dv (none) (wlX g ad x0 x1 x2 x3 x4 x5 x6 x7 x8 x9 x10 x11 x12 x13 x14 x15 x16 x17 x18 x19 x20 x21 x22 x23 o.1 o.2.1 o.2.2.1 o.2.2.2.1 o.2.2.2.2.1 x29 x30 x31 x32 To_kinds To_starts To_numbers To_words x37 x38 x39 x40 x41 x42 x43 x44 x45 x46 x47 o.2.2.2.2.2.1 x49 x50 x51 o.2.2.2.2.2.2.1 o.2.2.2.2.2.2.2 Na_count Na_words Na_count_2 Na_words_2 x58 x59 x60 x61 x62 x63 x64 x65 x66 x67 ++ t)))) (ih_4 : (∀ {w0 : Int32} {w1 : Int32} {w2 : Int32} {w3 : Int32} {w4 : Int32} {w5 : Int32} {w6 : Nat → Int32} {w7 : Nat → Int32} {o : Int32 × Int32 × Int32 × Int32 × Int32 × Int32 × (Nat → Int32) × (Nat → Int32)} {t : va_W}, rec 4 0 0 (w0, w1, w2, w3, w4, w5, w6, w7) = some o → Ct g mX4_readSum (7 + D) 0 0 [.ref (ad 33)] (wlX g ad x0 x1 x2 x3 x4 x5 x6 x7 x8 x9 x10 x11 x12 x13 x14 x15 x16 x17 x18 x19 x20 x21 x22 x23 w0 w1 w2 w3 w4 x29 x30 x31 x32 To_kinds To_starts To_numbers To_words x37 x38 x39 x40 x41 x42 x43 x44 x45 x46 x47 w5 x49 x50 x51 w6 w7 Na_count Na_words Na_count_2 Na_words_2 x58 x59 x60 x61 x62 x63 x64 x65 x66 x67 ++ t) (Dv (none) (wlX g ad x0 x1 x2 x3 x4 x5 x6 x7 x8 x9 x10 x11 x12 x13 x14 x15 x16 x17 x18 x19 x20 x21 x22 x23 o.1 o.2.1 o.2.2.1 o.2.2.2.1 o.2.2.2.2.1 x29 x30 x31 x32 To_kinds To_starts To_numbers To_words x37 x38 x39 x40 x41 x42 x43 x44 x45 x46 x47 o.2.2.2.2.2.1 x49 x50 x51 o.2.2.2.2.2.2.1 o.2.2.2.2.2.2.2 Na_count Na_words Na_count_2 Na_words_2 x58 x59 x60 x61 x62 x63 x64 x65 x66 x67 ++ t)))) (ih_5 : (∀ {w0 : Int32} {w1 : Int32} {w2 : Int32} {w3 : Int32} {w4 : Int32} {w5 : Int32} {w6 : Nat → Int32} {w7 : Nat → Int32} {o : Int32 × Int32 × Int32 × Int32 × Int32 × Int32 × (Nat → Int32) × (Nat → Int32)} {t : va_W}, rec 5 0 0 (w0, w1, w2, w3, w4, w5, w6, w7) = some o → Ct g mX4_readProduct (7 + D) 0 0 [.ref (ad 33)] (wlX g ad x0 x1 x2 x3 x4 x5 x6 x7 x8 x9 x10 x11 x12 x13 x14 x15 x16 x17 x18 x19 x20 x21 x22 x23 w0 w1 w2 w3 w4 x29 x30 x31 x32 To_kinds To_starts To_numbers To_words x37 x38 x39 x40 x41 x42 x43 x44 x45 x46 x47 w5 x49 x50 x51 w6 w7 Na_count Na_words Na_count_2 Na_words_2 x58 x59 x60 x61 x62 x63 x64 x65 x66 x67 ++ t) (Dv (none) (wlX g ad x0 x1 x2 x3 x4 x5 x6 x7 x8 x9 x10 x11 x12 x13 x14 x15 x16 x17 x18 x19 x20 x21 x22 x23 o.1 o.2.1 o.2.2.1 o.2.2.2.1 o.2.2.2.2.1 x29 x30 x31 x32 To_kinds To_starts To_numbers To_words x37 x38 x39 x40 x41 x42 x43 x44 x45 x46 x47 o.2.2.2.2.2.1 x49 x50 x51 o.2.2.2.2.2.2.1 o.2.2.2.2.2.2.2 Na_count Na_words Na_count_2 Na_words_2 x58 x59 x60 x61 x62 x63 x64 x65 x66 x67 ++ t)))) (ih_6 : (∀ {w0 : Int32} {w1 : Int32} {w2 : Int32} {w3 : Int32} {w4 : Int32} {w5 : Int32} {w6 : Nat → Int32} {w7 : Nat → Int32} {o : Int32 × Int32 × Int32 × Int32 × Int32 × Int32 × (Nat → Int32) × (Nat → Int32)} {t : va_W}, rec 6 0 0 (w0, w1, w2, w3, w4, w5, w6, w7) = some o → Ct g mX4_readValue (7 + D) 0 0 [.ref (ad 33)] (wlX g ad x0 x1 x2 x3 x4 x5 x6 x7 x8 x9 x10 x11 x12 x13 x14 x15 x16 x17 x18 x19 x20 x21 x22 x23 w0 w1 w2 w3 w4 x29 x30 x31 x32 To_kinds To_starts To_numbers To_words x37 x38 x39 x40 x41 x42 x43 x44 x45 x46 x47 w5 x49 x50 x51 w6 w7 Na_count Na_words Na_count_2 Na_words_2 x58 x59 x60 x61 x62 x63 x64 x65 x66 x67 ++ t) (Dv (none) (wlX g ad x0 x1 x2 x3 x4 x5 x6 x7 x8 x9 x10 x11 x12 x13 x14 x15 x16 x17 x18 x19 x20 x21 x22 x23 o.1 o.2.1 o.2.2.1 o.2.2.2.1 o.2.2.2.2.1 x29 x30 x31 x32 To_kinds To_starts To_numbers To_words x37 x38 x39 x40 x41 x42 x43 x44 x45 x46 x47 o.2.2.2.2.2.1 x49 x50 x51 o.2.2.2.2.2.2.1 o.2.2.2.2.2.2.2 Na_count Na_words Na_count_2 Na_words_2 x58 x59 x60 x61 x62 x63 x64 x65 x66 x67 ++ t)))) (ih_7 : (∀ {w0 : Int32} {w1 : Int32} {w2 : Int32} {w3 : Int32} {w4 : Int32} {w5 : Int32} {w6 : Nat → Int32} {w7 : Nat → Int32} {o : Int32 × Int32 × Int32 × Int32 × Int32 × Int32 × (Nat → Int32) × (Nat → Int32)} {t : va_W}, rec 7 0 0 (w0, w1, w2, w3, w4, w5, w6, w7) = some o → Ct g mX4_readTwoSums (7 + D) 0 0 [.ref (ad 33)] (wlX g ad x0 x1 x2 x3 x4 x5 x6 x7 x8 x9 x10 x11 x12 x13 x14 x15 x16 x17 x18 x19 x20 x21 x22 x23 w0 w1 w2 w3 w4 x29 x30 x31 x32 To_kinds To_starts To_numbers To_words x37 x38 x39 x40 x41 x42 x43 x44 x45 x46 x47 w5 x49 x50 x51 w6 w7 Na_count Na_words Na_count_2 Na_words_2 x58 x59 x60 x61 x62 x63 x64 x65 x66 x67 ++ t) (Dv (none) (wlX g ad x0 x1 x2 x3 x4 x5 x6 x7 x8 x9 x10 x11 x12 x13 x14 x15 x16 x17 x18 x19 x20 x21 x22 x23 o.1 o.2.1 o.2.2.1 o.2.2.2.1 o.2.2.2.2.1 x29 x30 x31 x32 To_kinds To_starts To_numbers To_words x37 x38 x39 x40 x41 x42 x43 x44 x45 x46 x47 o.2.2.2.2.2.1 x49 x50 x51 o.2.2.2.2.2.2.1 o.2.2.2.2.2.2.2 Na_count Na_words Na_count_2 Na_words_2 x58 x59 x60 x61 x62 x63 x64 x65 x66 x67 ++ t)))) {o : Int32 × Int32 × Int32 × Int32 × Int32 × Int32 × (Nat → Int32) × (Nat → Int32)} {Q : Rs → va_W → Prop} (h : f_Re_readSingle N rec Re_at Re_kind Re_depth Re_error Re_errorPlace To_kinds To_starts To_numbers To_words Or_stepCount Or_stepKinds Or_stepParts Na_count Na_words Na_count_2 Na_words_2 = some o) (hq : Q (.inl (none)) (wlX g ad x0 x1 x2 x3 x4 x5 x6 x7 x8 x9 x10 x11 x12 x13 x14 x15 x16 x17 x18 x19 x20 x21 x22 x23 o.1 o.2.1 o.2.2.1 o.2.2.2.1 o.2.2.2.2.1 x29 x30 x31 x32 To_kinds To_starts To_numbers To_words x37 x38 x39 x40 x41 x42 x43 x44 x45 x46 x47 o.2.2.2.2.2.1 x49 x50 x51 o.2.2.2.2.2.2.1 o.2.2.2.2.2.2.2 Na_count Na_words Na_count_2 Na_words_2 x58 x59 x60 x61 x62 x63 x64 x65 x66 x67 ++ t)) : R g mX4_readSingle (7 + (D + 1)) 0 0 0 [(0, .ref (ad 33))] [] (wlX g ad x0 x1 x2 x3 x4 x5 x6 x7 x8 x9 x10 x11 x12 x13 x14 x15 x16 x17 x18 x19 x20 x21 x22 x23 Re_at Re_kind Re_depth Re_error Re_errorPlace x29 x30 x31 x32 To_kinds To_starts To_numbers To_words x37 x38 x39 x40 x41 x42 x43 x44 x45 x46 x47 Or_stepCount x49 x50 x51 Or_stepKinds Or_stepParts Na_count Na_words Na_count_2 Na_words_2 x58 x59 x60 x61 x62 x63 x64 x65 x66 x67 ++ t) Q := by
  unfold f_Re_readSingle at h
  refine r_aload_n 0 dX4_readSingle_0 rfl ?_
  refine r_getf (v := .int Re_kind) _ dX4_readSingle_1 fl_X4_42 lX_33 rfl ?_
  refine r_istore_n [(1, .int Re_kind), (0, .ref (ad 33))] dX4_readSingle_4 (by decide) rfl ?_
  refine r_iload_n 0 dX4_readSingle_5 rfl ?_
  by_cases hc72 : Re_kind = (91 : Int32)
  · have h := ip (fun z9 => z9) hc72 h
    refine r_lookup (tgt := 102) dX4_readSingle_6 (by decide) (lo_hit (v := (91 : Int32)) (by decide) hc72) (by decide) ?_
    refine r_aload_n 1 dX4_readSingle_102 rfl ?_
    obtain ⟨r78, hc79, h⟩ := ob (fun z9 => z9) rfl h
    refine c_V (rest := []) 0 0 _ dX4_readSingle_103 kv_X4_173 (ct_Re_deepen hc79) rfl rfl lX_33 rfl (Nat.le_of_ble_eq_true rfl) (dl (by decide)) (by decide) ?_
    refine r_if_eq (tgt := 201) dX4_readSingle_106 (by decide) (fun hc80 => ?_) (fun hc80 => ?_)
    · have h := ip (fun z9 => z9) hc80 h
      refine r_vret dX4_readSingle_201 rfl ?_
      have h := Option.some.inj (show some _ = some o from h)
      subst h
      exact hq
    · have h := iq (fun z9 => z9) hc80 h
      refine r_aload_n 1 dX4_readSingle_109 rfl ?_
      obtain ⟨r81, hc82, h⟩ := ob (fun z9 => z9) rfl h
      refine c_Vv (rest := []) 0 0 _ dX4_readSingle_110 kv_X4_158 (ih_0 hc82) rfl rfl lX_33 rfl (Nat.le_of_ble_eq_true rfl) (Nat.le_refl _) (by decide) ?_
      refine r_aload_n 1 dX4_readSingle_113 rfl ?_
      refine r_dup dX4_readSingle_114 rfl ?_
      refine r_getf (v := .int r81.2.2.1) _ dX4_readSingle_115 fl_X4_93 lX_33 rfl ?_
      refine r_iconst (v := (1 : Int32)) dX4_readSingle_118 (by decide) ?_
      refine r_isub dX4_readSingle_119 ?_
      refine r_putf _ dX4_readSingle_120 fl_X4_93 lX_33 (Nat.le_of_ble_eq_true rfl) rfl rfl (sX_26 _) ?_
      refine r_aload_n 1 dX4_readSingle_123 rfl ?_
      refine r_bipush (v := (93 : Int32)) dX4_readSingle_124 (by decide) ?_
      obtain ⟨r83, hc84, h⟩ := ob (fun z9 => z9) rfl h
      refine c_Vv (rest := []) 0 0 _ dX4_readSingle_126 kv_X4_62 (ct_Re_expect hc84) rfl rfl lX_33 rfl (Nat.le_of_ble_eq_true rfl) (dl (by decide)) (by decide) ?_
      refine r_goto (tgt := 201) dX4_readSingle_129 (by decide) ?_
      refine r_vret dX4_readSingle_201 rfl ?_
      have h := Option.some.inj (show some _ = some o from h)
      subst h
      exact hq
  have h := iq (fun z9 => z9) hc72 h
  by_cases hc73 : Re_kind = (213 : Int32)
  · have h := ip (fun z9 => z9) hc73 h
    refine r_lookup (tgt := 139) dX4_readSingle_6 (by decide) (lo_cons (v := (91 : Int32)) (by decide) hc72 (lo_hit (v := (213 : Int32)) (by decide) hc73)) (by decide) ?_
    refine r_aload_n 1 dX4_readSingle_139 rfl ?_
    obtain ⟨r85, hc86, h⟩ := ob (fun z9 => z9) rfl h
    refine c_Vv (rest := []) 0 0 _ dX4_readSingle_140 kv_X4_105 (ct_Re_advance hc86) rfl rfl lX_33 rfl (Nat.le_of_ble_eq_true rfl) (dl (by decide)) (by decide) ?_
    refine r_aload_n 1 dX4_readSingle_143 rfl ?_
    refine r_getf (v := .ref (ad 44)) _ dX4_readSingle_144 fl_X4_23 lX_33 rfl ?_
    refine r_getf (v := .ref (ad 56)) _ dX4_readSingle_147 fl_X4_151 lX_44 rfl ?_
    refine r_iload_n 0 dX4_readSingle_150 rfl ?_
    refine r_aload_n 1 dX4_readSingle_151 rfl ?_
    refine r_aload_n 1 dX4_readSingle_152 rfl ?_
    refine r_getf (v := .ref (ad 69)) _ dX4_readSingle_153 fl_X4_36 lX_33 rfl ?_
    obtain ⟨r87, hc88, h⟩ := ob (fun z9 => z9) rfl h
    refine c_V (rest := [.int Re_kind, .ref (ad 56)]) 0 0 _ dX4_readSingle_156 kv_X4_131 (ct_Re_readKnown_v1 hc88) rfl rfl lX_33 rfl (Nat.le_of_ble_eq_true rfl) (dl (by decide)) (by decide) ?_
    obtain ⟨r89, hc90, h⟩ := ob (fun z9 => z9) rfl h
    refine c_Vv (rest := []) 0 0 _ dX4_readSingle_159 kv_X4_167 (ct_Or_addStep hc90) rfl rfl lX_56 rfl (Nat.le_of_ble_eq_true rfl) (dl (by decide)) (by decide) ?_
    refine r_goto (tgt := 201) dX4_readSingle_162 (by decide) ?_
    refine r_vret dX4_readSingle_201 rfl ?_
    have h := Option.some.inj (show some _ = some o from h)
    subst h
    exact hq
  have h := iq (fun z9 => z9) hc73 h
  by_cases hc74 : Re_kind = (217 : Int32)
  · have h := ip (fun z9 => z9) hc74 h
    refine r_lookup (tgt := 132) dX4_readSingle_6 (by decide) (lo_cons (v := (91 : Int32)) (by decide) hc72 (lo_cons (v := (213 : Int32)) (by decide) hc73 (lo_hit (v := (217 : Int32)) (by decide) hc74))) (by decide) ?_
    refine r_aload_n 1 dX4_readSingle_132 rfl ?_
    obtain ⟨r91, hc92, h⟩ := ob (fun z9 => z9) rfl h
    refine c_Vv (rest := []) 0 0 _ dX4_readSingle_133 kv_X4_176 (ct_Re_readTwoTellers hc92) rfl rfl lX_33 rfl (Nat.le_of_ble_eq_true rfl) (dl (by decide)) (by decide) ?_
    refine r_goto (tgt := 201) dX4_readSingle_136 (by decide) ?_
    refine r_vret dX4_readSingle_201 rfl ?_
    have h := Option.some.inj (show some _ = some o from h)
    subst h
    exact hq
  have h := iq (fun z9 => z9) hc74 h
  by_cases hc75 : Re_kind = (218 : Int32)
  · have h := ip (fun z9 => z9) hc75 h
    refine r_lookup (tgt := 139) dX4_readSingle_6 (by decide) (lo_cons (v := (91 : Int32)) (by decide) hc72 (lo_cons (v := (213 : Int32)) (by decide) hc73 (lo_cons (v := (217 : Int32)) (by decide) hc74 (lo_hit (v := (218 : Int32)) (by decide) hc75)))) (by decide) ?_
    refine r_aload_n 1 dX4_readSingle_139 rfl ?_
    obtain ⟨r93, hc94, h⟩ := ob (fun z9 => z9) rfl h
    refine c_Vv (rest := []) 0 0 _ dX4_readSingle_140 kv_X4_105 (ct_Re_advance hc94) rfl rfl lX_33 rfl (Nat.le_of_ble_eq_true rfl) (dl (by decide)) (by decide) ?_
    refine r_aload_n 1 dX4_readSingle_143 rfl ?_
    refine r_getf (v := .ref (ad 44)) _ dX4_readSingle_144 fl_X4_23 lX_33 rfl ?_
    refine r_getf (v := .ref (ad 56)) _ dX4_readSingle_147 fl_X4_151 lX_44 rfl ?_
    refine r_iload_n 0 dX4_readSingle_150 rfl ?_
    refine r_aload_n 1 dX4_readSingle_151 rfl ?_
    refine r_aload_n 1 dX4_readSingle_152 rfl ?_
    refine r_getf (v := .ref (ad 69)) _ dX4_readSingle_153 fl_X4_36 lX_33 rfl ?_
    obtain ⟨r95, hc96, h⟩ := ob (fun z9 => z9) rfl h
    refine c_V (rest := [.int Re_kind, .ref (ad 56)]) 0 0 _ dX4_readSingle_156 kv_X4_131 (ct_Re_readKnown_v1 hc96) rfl rfl lX_33 rfl (Nat.le_of_ble_eq_true rfl) (dl (by decide)) (by decide) ?_
    obtain ⟨r97, hc98, h⟩ := ob (fun z9 => z9) rfl h
    refine c_Vv (rest := []) 0 0 _ dX4_readSingle_159 kv_X4_167 (ct_Or_addStep hc98) rfl rfl lX_56 rfl (Nat.le_of_ble_eq_true rfl) (dl (by decide)) (by decide) ?_
    refine r_goto (tgt := 201) dX4_readSingle_162 (by decide) ?_
    refine r_vret dX4_readSingle_201 rfl ?_
    have h := Option.some.inj (show some _ = some o from h)
    subst h
    exact hq
  have h := iq (fun z9 => z9) hc75 h
  by_cases hc76 : Re_kind = (219 : Int32)
  · have h := ip (fun z9 => z9) hc76 h
    refine r_lookup (tgt := 165) dX4_readSingle_6 (by decide) (lo_cons (v := (91 : Int32)) (by decide) hc72 (lo_cons (v := (213 : Int32)) (by decide) hc73 (lo_cons (v := (217 : Int32)) (by decide) hc74 (lo_cons (v := (218 : Int32)) (by decide) hc75 (lo_hit (v := (219 : Int32)) (by decide) hc76))))) (by decide) ?_
    refine r_aload_n 1 dX4_readSingle_165 rfl ?_
    obtain ⟨r99, hc100, h⟩ := ob (fun z9 => z9) rfl h
    refine c_Vv (rest := []) 0 0 _ dX4_readSingle_166 kv_X4_105 (ct_Re_advance hc100) rfl rfl lX_33 rfl (Nat.le_of_ble_eq_true rfl) (dl (by decide)) (by decide) ?_
    refine r_aload_n 1 dX4_readSingle_169 rfl ?_
    refine r_getf (v := .ref (ad 44)) _ dX4_readSingle_170 fl_X4_23 lX_33 rfl ?_
    refine r_getf (v := .ref (ad 56)) _ dX4_readSingle_173 fl_X4_151 lX_44 rfl ?_
    refine r_sipush (v := (219 : Int32)) dX4_readSingle_176 (by decide) ?_
    refine r_aload_n 1 dX4_readSingle_179 rfl ?_
    refine r_aload_n 1 dX4_readSingle_180 rfl ?_
    refine r_getf (v := .ref (ad 67)) _ dX4_readSingle_181 fl_X4_32 lX_33 rfl ?_
    obtain ⟨r101, hc102, h⟩ := ob (fun z9 => z9) rfl h
    refine c_V (rest := [.int (219 : Int32), .ref (ad 56)]) 0 0 _ dX4_readSingle_184 kv_X4_131 (ct_Re_readKnown hc102) rfl rfl lX_33 rfl (Nat.le_of_ble_eq_true rfl) (dl (by decide)) (by decide) ?_
    obtain ⟨r103, hc104, h⟩ := ob (fun z9 => z9) rfl h
    refine c_Vv (rest := []) 0 0 _ dX4_readSingle_187 kv_X4_167 (ct_Or_addStep hc104) rfl rfl lX_56 rfl (Nat.le_of_ble_eq_true rfl) (dl (by decide)) (by decide) ?_
    refine r_goto (tgt := 201) dX4_readSingle_190 (by decide) ?_
    refine r_vret dX4_readSingle_201 rfl ?_
    have h := Option.some.inj (show some _ = some o from h)
    subst h
    exact hq
  have h := iq (fun z9 => z9) hc76 h
  by_cases hc77 : Re_kind = (220 : Int32)
  · have h := ip (fun z9 => z9) hc77 h
    refine r_lookup (tgt := 64) dX4_readSingle_6 (by decide) (lo_cons (v := (91 : Int32)) (by decide) hc72 (lo_cons (v := (213 : Int32)) (by decide) hc73 (lo_cons (v := (217 : Int32)) (by decide) hc74 (lo_cons (v := (218 : Int32)) (by decide) hc75 (lo_cons (v := (219 : Int32)) (by decide) hc76 (lo_hit (v := (220 : Int32)) (by decide) hc77)))))) (by decide) ?_
    refine r_aload_n 1 dX4_readSingle_64 rfl ?_
    obtain ⟨r105, hc106, h⟩ := ob (fun z9 => z9) rfl h
    refine c_V (rest := []) 0 0 _ dX4_readSingle_65 kv_X4_173 (ct_Re_deepen hc106) rfl rfl lX_33 rfl (Nat.le_of_ble_eq_true rfl) (dl (by decide)) (by decide) ?_
    refine r_if_eq (tgt := 201) dX4_readSingle_68 (by decide) (fun hc107 => ?_) (fun hc107 => ?_)
    · have h := ip (fun z9 => z9) hc107 h
      refine r_vret dX4_readSingle_201 rfl ?_
      have h := Option.some.inj (show some _ = some o from h)
      subst h
      exact hq
    · have h := iq (fun z9 => z9) hc107 h
      refine r_aload_n 1 dX4_readSingle_71 rfl ?_
      obtain ⟨r108, hc109, h⟩ := ob (fun z9 => z9) rfl h
      refine c_Vv (rest := []) 0 0 _ dX4_readSingle_72 kv_X4_170 (ih_2 hc109) rfl rfl lX_33 rfl (Nat.le_of_ble_eq_true rfl) (Nat.le_refl _) (by decide) ?_
      refine r_aload_n 1 dX4_readSingle_75 rfl ?_
      refine r_dup dX4_readSingle_76 rfl ?_
      refine r_getf (v := .int r108.2.2.1) _ dX4_readSingle_77 fl_X4_93 lX_33 rfl ?_
      refine r_iconst (v := (1 : Int32)) dX4_readSingle_80 (by decide) ?_
      refine r_isub dX4_readSingle_81 ?_
      refine r_putf _ dX4_readSingle_82 fl_X4_93 lX_33 (Nat.le_of_ble_eq_true rfl) rfl rfl (sX_26 _) ?_
      refine r_aload_n 1 dX4_readSingle_85 rfl ?_
      refine r_getf (v := .ref (ad 44)) _ dX4_readSingle_86 fl_X4_23 lX_33 rfl ?_
      refine r_getf (v := .ref (ad 56)) _ dX4_readSingle_89 fl_X4_151 lX_44 rfl ?_
      refine r_sipush (v := (220 : Int32)) dX4_readSingle_92 (by decide) ?_
      refine r_iconst (v := (0 : Int32)) dX4_readSingle_95 (by decide) ?_
      obtain ⟨r110, hc111, h⟩ := ob (fun z9 => z9) rfl h
      refine c_Vv (rest := []) 0 0 _ dX4_readSingle_96 kv_X4_167 (ct_Or_addStep hc111) rfl rfl lX_56 rfl (Nat.le_of_ble_eq_true rfl) (dl (by decide)) (by decide) ?_
      refine r_goto (tgt := 201) dX4_readSingle_99 (by decide) ?_
      refine r_vret dX4_readSingle_201 rfl ?_
      have h := Option.some.inj (show some _ = some o from h)
      subst h
      exact hq
  have h := iq (fun z9 => z9) hc77 h
  refine r_lookup (tgt := 193) (off := 187) dX4_readSingle_6 (by decide) (lo_cons (v := (91 : Int32)) (by decide) hc72 (lo_cons (v := (213 : Int32)) (by decide) hc73 (lo_cons (v := (217 : Int32)) (by decide) hc74 (lo_cons (v := (218 : Int32)) (by decide) hc75 (lo_cons (v := (219 : Int32)) (by decide) hc76 (lo_cons (v := (220 : Int32)) (by decide) hc77 rfl)))))) (by decide) ?_
  refine r_aload_n 1 dX4_readSingle_193 rfl ?_
  obtain ⟨r112, hc113, h⟩ := ob (fun z9 => z9) rfl h
  refine c_Vv (rest := []) 0 0 _ dX4_readSingle_194 kv_X4_179 (ih_4 hc113) rfl rfl lX_33 rfl (Nat.le_of_ble_eq_true rfl) (Nat.le_refl _) (by decide) ?_
  refine r_aload_n 1 dX4_readSingle_197 rfl ?_
  obtain ⟨r114, hc115, h⟩ := ob (fun z9 => z9) rfl h
  refine c_Vv (rest := []) 0 0 _ dX4_readSingle_198 kv_X4_182 (ih_3 hc115) rfl rfl lX_33 rfl (Nat.le_of_ble_eq_true rfl) (Nat.le_refl _) (by decide) ?_
  refine r_vret dX4_readSingle_201 rfl ?_
  have h := Option.some.inj (show some _ = some o from h)
  subst h
  exact hq
set_option maxRecDepth 20000 in
set_option maxHeartbeats 4000000 in
theorem rt_Re_readCompared {g : GG} {ad : Nat → Nat} {t : va_W} {x0 x1 x3 x4 x5 x11 x12 x18 x19 x20 x29 x30 x31 x37 x39 x40 x41 x47 x58 x59 x60 x61 x63 x64 x65 x66 : Int32} {x2 x6 x7 x8 x9 x10 x13 x14 x15 x16 x17 x21 x22 x23 x42 x43 x44 x45 x46 x49 x50 x51 x62 x67 : Nat → Int32} {x32 : Int64} {x38 : Nat → Int64} {N : Nat} {Re_at : Int32} {Re_kind : Int32} {Re_depth : Int32} {Re_error : Int32} {Re_errorPlace : Int32} {To_kinds : Nat → Int32} {To_starts : Nat → Int32} {To_numbers : Nat → Int32} {To_words : Nat → Int64} {Or_stepCount : Int32} {Or_stepKinds : Nat → Int32} {Or_stepParts : Nat → Int32} {Na_count : Int32} {Na_words : Nat → Int64} {Na_count_2 : Int32} {Na_words_2 : Nat → Int64} {D : Nat} {rec : Nat → Int32 → Int32 → (Int32 × Int32 × Int32 × Int32 × Int32 × Int32 × (Nat → Int32) × (Nat → Int32)) → Option (Int32 × Int32 × Int32 × Int32 × Int32 × Int32 × (Nat → Int32) × (Nat → Int32))} (ih_0 : (∀ {w0 : Int32} {w1 : Int32} {w2 : Int32} {w3 : Int32} {w4 : Int32} {w5 : Int32} {w6 : Nat → Int32} {w7 : Nat → Int32} {o : Int32 × Int32 × Int32 × Int32 × Int32 × Int32 × (Nat → Int32) × (Nat → Int32)} {t : va_W}, rec 0 0 0 (w0, w1, w2, w3, w4, w5, w6, w7) = some o → Ct g mX4_readTest (7 + D) 0 0 [.ref (ad 33)] (wlX g ad x0 x1 x2 x3 x4 x5 x6 x7 x8 x9 x10 x11 x12 x13 x14 x15 x16 x17 x18 x19 x20 x21 x22 x23 w0 w1 w2 w3 w4 x29 x30 x31 x32 To_kinds To_starts To_numbers To_words x37 x38 x39 x40 x41 x42 x43 x44 x45 x46 x47 w5 x49 x50 x51 w6 w7 Na_count Na_words Na_count_2 Na_words_2 x58 x59 x60 x61 x62 x63 x64 x65 x66 x67 ++ t) (Dv (none) (wlX g ad x0 x1 x2 x3 x4 x5 x6 x7 x8 x9 x10 x11 x12 x13 x14 x15 x16 x17 x18 x19 x20 x21 x22 x23 o.1 o.2.1 o.2.2.1 o.2.2.2.1 o.2.2.2.2.1 x29 x30 x31 x32 To_kinds To_starts To_numbers To_words x37 x38 x39 x40 x41 x42 x43 x44 x45 x46 x47 o.2.2.2.2.2.1 x49 x50 x51 o.2.2.2.2.2.2.1 o.2.2.2.2.2.2.2 Na_count Na_words Na_count_2 Na_words_2 x58 x59 x60 x61 x62 x63 x64 x65 x66 x67 ++ t)))) (ih_1 : (∀ {w0 : Int32} {w1 : Int32} {w2 : Int32} {w3 : Int32} {w4 : Int32} {w5 : Int32} {w6 : Nat → Int32} {w7 : Nat → Int32} {o : Int32 × Int32 × Int32 × Int32 × Int32 × Int32 × (Nat → Int32) × (Nat → Int32)} {t : va_W}, rec 1 0 0 (w0, w1, w2, w3, w4, w5, w6, w7) = some o → Ct g mX4_readBoth (7 + D) 0 0 [.ref (ad 33)] (wlX g ad x0 x1 x2 x3 x4 x5 x6 x7 x8 x9 x10 x11 x12 x13 x14 x15 x16 x17 x18 x19 x20 x21 x22 x23 w0 w1 w2 w3 w4 x29 x30 x31 x32 To_kinds To_starts To_numbers To_words x37 x38 x39 x40 x41 x42 x43 x44 x45 x46 x47 w5 x49 x50 x51 w6 w7 Na_count Na_words Na_count_2 Na_words_2 x58 x59 x60 x61 x62 x63 x64 x65 x66 x67 ++ t) (Dv (none) (wlX g ad x0 x1 x2 x3 x4 x5 x6 x7 x8 x9 x10 x11 x12 x13 x14 x15 x16 x17 x18 x19 x20 x21 x22 x23 o.1 o.2.1 o.2.2.1 o.2.2.2.1 o.2.2.2.2.1 x29 x30 x31 x32 To_kinds To_starts To_numbers To_words x37 x38 x39 x40 x41 x42 x43 x44 x45 x46 x47 o.2.2.2.2.2.1 x49 x50 x51 o.2.2.2.2.2.2.1 o.2.2.2.2.2.2.2 Na_count Na_words Na_count_2 Na_words_2 x58 x59 x60 x61 x62 x63 x64 x65 x66 x67 ++ t)))) (ih_2 : (∀ {w0 : Int32} {w1 : Int32} {w2 : Int32} {w3 : Int32} {w4 : Int32} {w5 : Int32} {w6 : Nat → Int32} {w7 : Nat → Int32} {o : Int32 × Int32 × Int32 × Int32 × Int32 × Int32 × (Nat → Int32) × (Nat → Int32)} {t : va_W}, rec 2 0 0 (w0, w1, w2, w3, w4, w5, w6, w7) = some o → Ct g mX4_readSingle (7 + D) 0 0 [.ref (ad 33)] (wlX g ad x0 x1 x2 x3 x4 x5 x6 x7 x8 x9 x10 x11 x12 x13 x14 x15 x16 x17 x18 x19 x20 x21 x22 x23 w0 w1 w2 w3 w4 x29 x30 x31 x32 To_kinds To_starts To_numbers To_words x37 x38 x39 x40 x41 x42 x43 x44 x45 x46 x47 w5 x49 x50 x51 w6 w7 Na_count Na_words Na_count_2 Na_words_2 x58 x59 x60 x61 x62 x63 x64 x65 x66 x67 ++ t) (Dv (none) (wlX g ad x0 x1 x2 x3 x4 x5 x6 x7 x8 x9 x10 x11 x12 x13 x14 x15 x16 x17 x18 x19 x20 x21 x22 x23 o.1 o.2.1 o.2.2.1 o.2.2.2.1 o.2.2.2.2.1 x29 x30 x31 x32 To_kinds To_starts To_numbers To_words x37 x38 x39 x40 x41 x42 x43 x44 x45 x46 x47 o.2.2.2.2.2.1 x49 x50 x51 o.2.2.2.2.2.2.1 o.2.2.2.2.2.2.2 Na_count Na_words Na_count_2 Na_words_2 x58 x59 x60 x61 x62 x63 x64 x65 x66 x67 ++ t)))) (ih_3 : (∀ {w0 : Int32} {w1 : Int32} {w2 : Int32} {w3 : Int32} {w4 : Int32} {w5 : Int32} {w6 : Nat → Int32} {w7 : Nat → Int32} {o : Int32 × Int32 × Int32 × Int32 × Int32 × Int32 × (Nat → Int32) × (Nat → Int32)} {t : va_W}, rec 3 0 0 (w0, w1, w2, w3, w4, w5, w6, w7) = some o → Ct g mX4_readCompared (7 + D) 0 0 [.ref (ad 33)] (wlX g ad x0 x1 x2 x3 x4 x5 x6 x7 x8 x9 x10 x11 x12 x13 x14 x15 x16 x17 x18 x19 x20 x21 x22 x23 w0 w1 w2 w3 w4 x29 x30 x31 x32 To_kinds To_starts To_numbers To_words x37 x38 x39 x40 x41 x42 x43 x44 x45 x46 x47 w5 x49 x50 x51 w6 w7 Na_count Na_words Na_count_2 Na_words_2 x58 x59 x60 x61 x62 x63 x64 x65 x66 x67 ++ t) (Dv (none) (wlX g ad x0 x1 x2 x3 x4 x5 x6 x7 x8 x9 x10 x11 x12 x13 x14 x15 x16 x17 x18 x19 x20 x21 x22 x23 o.1 o.2.1 o.2.2.1 o.2.2.2.1 o.2.2.2.2.1 x29 x30 x31 x32 To_kinds To_starts To_numbers To_words x37 x38 x39 x40 x41 x42 x43 x44 x45 x46 x47 o.2.2.2.2.2.1 x49 x50 x51 o.2.2.2.2.2.2.1 o.2.2.2.2.2.2.2 Na_count Na_words Na_count_2 Na_words_2 x58 x59 x60 x61 x62 x63 x64 x65 x66 x67 ++ t)))) (ih_4 : (∀ {w0 : Int32} {w1 : Int32} {w2 : Int32} {w3 : Int32} {w4 : Int32} {w5 : Int32} {w6 : Nat → Int32} {w7 : Nat → Int32} {o : Int32 × Int32 × Int32 × Int32 × Int32 × Int32 × (Nat → Int32) × (Nat → Int32)} {t : va_W}, rec 4 0 0 (w0, w1, w2, w3, w4, w5, w6, w7) = some o → Ct g mX4_readSum (7 + D) 0 0 [.ref (ad 33)] (wlX g ad x0 x1 x2 x3 x4 x5 x6 x7 x8 x9 x10 x11 x12 x13 x14 x15 x16 x17 x18 x19 x20 x21 x22 x23 w0 w1 w2 w3 w4 x29 x30 x31 x32 To_kinds To_starts To_numbers To_words x37 x38 x39 x40 x41 x42 x43 x44 x45 x46 x47 w5 x49 x50 x51 w6 w7 Na_count Na_words Na_count_2 Na_words_2 x58 x59 x60 x61 x62 x63 x64 x65 x66 x67 ++ t) (Dv (none) (wlX g ad x0 x1 x2 x3 x4 x5 x6 x7 x8 x9 x10 x11 x12 x13 x14 x15 x16 x17 x18 x19 x20 x21 x22 x23 o.1 o.2.1 o.2.2.1 o.2.2.2.1 o.2.2.2.2.1 x29 x30 x31 x32 To_kinds To_starts To_numbers To_words x37 x38 x39 x40 x41 x42 x43 x44 x45 x46 x47 o.2.2.2.2.2.1 x49 x50 x51 o.2.2.2.2.2.2.1 o.2.2.2.2.2.2.2 Na_count Na_words Na_count_2 Na_words_2 x58 x59 x60 x61 x62 x63 x64 x65 x66 x67 ++ t)))) (ih_5 : (∀ {w0 : Int32} {w1 : Int32} {w2 : Int32} {w3 : Int32} {w4 : Int32} {w5 : Int32} {w6 : Nat → Int32} {w7 : Nat → Int32} {o : Int32 × Int32 × Int32 × Int32 × Int32 × Int32 × (Nat → Int32) × (Nat → Int32)} {t : va_W}, rec 5 0 0 (w0, w1, w2, w3, w4, w5, w6, w7) = some o → Ct g mX4_readProduct (7 + D) 0 0 [.ref (ad 33)] (wlX g ad x0 x1 x2 x3 x4 x5 x6 x7 x8 x9 x10 x11 x12 x13 x14 x15 x16 x17 x18 x19 x20 x21 x22 x23 w0 w1 w2 w3 w4 x29 x30 x31 x32 To_kinds To_starts To_numbers To_words x37 x38 x39 x40 x41 x42 x43 x44 x45 x46 x47 w5 x49 x50 x51 w6 w7 Na_count Na_words Na_count_2 Na_words_2 x58 x59 x60 x61 x62 x63 x64 x65 x66 x67 ++ t) (Dv (none) (wlX g ad x0 x1 x2 x3 x4 x5 x6 x7 x8 x9 x10 x11 x12 x13 x14 x15 x16 x17 x18 x19 x20 x21 x22 x23 o.1 o.2.1 o.2.2.1 o.2.2.2.1 o.2.2.2.2.1 x29 x30 x31 x32 To_kinds To_starts To_numbers To_words x37 x38 x39 x40 x41 x42 x43 x44 x45 x46 x47 o.2.2.2.2.2.1 x49 x50 x51 o.2.2.2.2.2.2.1 o.2.2.2.2.2.2.2 Na_count Na_words Na_count_2 Na_words_2 x58 x59 x60 x61 x62 x63 x64 x65 x66 x67 ++ t)))) (ih_6 : (∀ {w0 : Int32} {w1 : Int32} {w2 : Int32} {w3 : Int32} {w4 : Int32} {w5 : Int32} {w6 : Nat → Int32} {w7 : Nat → Int32} {o : Int32 × Int32 × Int32 × Int32 × Int32 × Int32 × (Nat → Int32) × (Nat → Int32)} {t : va_W}, rec 6 0 0 (w0, w1, w2, w3, w4, w5, w6, w7) = some o → Ct g mX4_readValue (7 + D) 0 0 [.ref (ad 33)] (wlX g ad x0 x1 x2 x3 x4 x5 x6 x7 x8 x9 x10 x11 x12 x13 x14 x15 x16 x17 x18 x19 x20 x21 x22 x23 w0 w1 w2 w3 w4 x29 x30 x31 x32 To_kinds To_starts To_numbers To_words x37 x38 x39 x40 x41 x42 x43 x44 x45 x46 x47 w5 x49 x50 x51 w6 w7 Na_count Na_words Na_count_2 Na_words_2 x58 x59 x60 x61 x62 x63 x64 x65 x66 x67 ++ t) (Dv (none) (wlX g ad x0 x1 x2 x3 x4 x5 x6 x7 x8 x9 x10 x11 x12 x13 x14 x15 x16 x17 x18 x19 x20 x21 x22 x23 o.1 o.2.1 o.2.2.1 o.2.2.2.1 o.2.2.2.2.1 x29 x30 x31 x32 To_kinds To_starts To_numbers To_words x37 x38 x39 x40 x41 x42 x43 x44 x45 x46 x47 o.2.2.2.2.2.1 x49 x50 x51 o.2.2.2.2.2.2.1 o.2.2.2.2.2.2.2 Na_count Na_words Na_count_2 Na_words_2 x58 x59 x60 x61 x62 x63 x64 x65 x66 x67 ++ t)))) (ih_7 : (∀ {w0 : Int32} {w1 : Int32} {w2 : Int32} {w3 : Int32} {w4 : Int32} {w5 : Int32} {w6 : Nat → Int32} {w7 : Nat → Int32} {o : Int32 × Int32 × Int32 × Int32 × Int32 × Int32 × (Nat → Int32) × (Nat → Int32)} {t : va_W}, rec 7 0 0 (w0, w1, w2, w3, w4, w5, w6, w7) = some o → Ct g mX4_readTwoSums (7 + D) 0 0 [.ref (ad 33)] (wlX g ad x0 x1 x2 x3 x4 x5 x6 x7 x8 x9 x10 x11 x12 x13 x14 x15 x16 x17 x18 x19 x20 x21 x22 x23 w0 w1 w2 w3 w4 x29 x30 x31 x32 To_kinds To_starts To_numbers To_words x37 x38 x39 x40 x41 x42 x43 x44 x45 x46 x47 w5 x49 x50 x51 w6 w7 Na_count Na_words Na_count_2 Na_words_2 x58 x59 x60 x61 x62 x63 x64 x65 x66 x67 ++ t) (Dv (none) (wlX g ad x0 x1 x2 x3 x4 x5 x6 x7 x8 x9 x10 x11 x12 x13 x14 x15 x16 x17 x18 x19 x20 x21 x22 x23 o.1 o.2.1 o.2.2.1 o.2.2.2.1 o.2.2.2.2.1 x29 x30 x31 x32 To_kinds To_starts To_numbers To_words x37 x38 x39 x40 x41 x42 x43 x44 x45 x46 x47 o.2.2.2.2.2.1 x49 x50 x51 o.2.2.2.2.2.2.1 o.2.2.2.2.2.2.2 Na_count Na_words Na_count_2 Na_words_2 x58 x59 x60 x61 x62 x63 x64 x65 x66 x67 ++ t)))) {o : Int32 × Int32 × Int32 × Int32 × Int32 × Int32 × (Nat → Int32) × (Nat → Int32)} {Q : Rs → va_W → Prop} (h : f_Re_readCompared N rec Re_at Re_kind Re_depth Re_error Re_errorPlace To_kinds To_starts To_numbers To_words Or_stepCount Or_stepKinds Or_stepParts Na_count Na_words Na_count_2 Na_words_2 = some o) (hq : Q (.inl (none)) (wlX g ad x0 x1 x2 x3 x4 x5 x6 x7 x8 x9 x10 x11 x12 x13 x14 x15 x16 x17 x18 x19 x20 x21 x22 x23 o.1 o.2.1 o.2.2.1 o.2.2.2.1 o.2.2.2.2.1 x29 x30 x31 x32 To_kinds To_starts To_numbers To_words x37 x38 x39 x40 x41 x42 x43 x44 x45 x46 x47 o.2.2.2.2.2.1 x49 x50 x51 o.2.2.2.2.2.2.1 o.2.2.2.2.2.2.2 Na_count Na_words Na_count_2 Na_words_2 x58 x59 x60 x61 x62 x63 x64 x65 x66 x67 ++ t)) : R g mX4_readCompared (7 + (D + 1)) 0 0 0 [(0, .ref (ad 33))] [] (wlX g ad x0 x1 x2 x3 x4 x5 x6 x7 x8 x9 x10 x11 x12 x13 x14 x15 x16 x17 x18 x19 x20 x21 x22 x23 Re_at Re_kind Re_depth Re_error Re_errorPlace x29 x30 x31 x32 To_kinds To_starts To_numbers To_words x37 x38 x39 x40 x41 x42 x43 x44 x45 x46 x47 Or_stepCount x49 x50 x51 Or_stepKinds Or_stepParts Na_count Na_words Na_count_2 Na_words_2 x58 x59 x60 x61 x62 x63 x64 x65 x66 x67 ++ t) Q := by
  unfold f_Re_readCompared at h
  refine r_aload_n 0 dX4_readCompared_0 rfl ?_
  refine r_getf (v := .int Re_kind) _ dX4_readCompared_1 fl_X4_42 lX_33 rfl ?_
  refine r_istore_n [(1, .int Re_kind), (0, .ref (ad 33))] dX4_readCompared_4 (by decide) rfl ?_
  refine r_iload_n 0 dX4_readCompared_5 rfl ?_
  refine r_bipush (v := (60 : Int32)) dX4_readCompared_6 (by decide) ?_
  refine r_icmp_eq (tgt := 42) dX4_readCompared_8 (by decide) (fun hc116 => ?_) (fun hc116 => ?_)
  · have h := ip (fun z9 => z9) hc116 h
    refine r_aload_n 1 dX4_readCompared_42 rfl ?_
    obtain ⟨r117, hc118, h⟩ := ob (fun z9 => z9) rfl h
    refine c_Vv (rest := []) 0 0 _ dX4_readCompared_43 kv_X4_105 (ct_Re_advance hc118) rfl rfl lX_33 rfl (Nat.le_of_ble_eq_true rfl) (dl (by decide)) (by decide) ?_
    refine r_aload_n 1 dX4_readCompared_46 rfl ?_
    obtain ⟨r119, hc120, h⟩ := ob (fun z9 => z9) rfl h
    refine c_Vv (rest := []) 0 0 _ dX4_readCompared_47 kv_X4_179 (ih_4 hc120) rfl rfl lX_33 rfl (Nat.le_of_ble_eq_true rfl) (Nat.le_refl _) (by decide) ?_
    refine r_aload_n 1 dX4_readCompared_50 rfl ?_
    refine r_getf (v := .ref (ad 44)) _ dX4_readCompared_51 fl_X4_23 lX_33 rfl ?_
    refine r_getf (v := .ref (ad 56)) _ dX4_readCompared_54 fl_X4_151 lX_44 rfl ?_
    refine r_iload_n 0 dX4_readCompared_57 rfl ?_
    refine r_iconst (v := (0 : Int32)) dX4_readCompared_58 (by decide) ?_
    obtain ⟨r121, hc122, h⟩ := ob (fun z9 => z9) rfl h
    refine c_Vv (rest := []) 0 0 _ dX4_readCompared_59 kv_X4_167 (ct_Or_addStep hc122) rfl rfl lX_56 rfl (Nat.le_of_ble_eq_true rfl) (dl (by decide)) (by decide) ?_
    refine r_vret dX4_readCompared_62 rfl ?_
    have h := Option.some.inj (show some _ = some o from h)
    subst h
    exact hq
  · have h := iq (fun z9 => z9) hc116 h
    refine r_iload_n 0 dX4_readCompared_11 rfl ?_
    refine r_bipush (v := (62 : Int32)) dX4_readCompared_12 (by decide) ?_
    refine r_icmp_eq (tgt := 42) dX4_readCompared_14 (by decide) (fun hc123 => ?_) (fun hc123 => ?_)
    · have h := ip (fun z9 => z9) hc123 h
      refine r_aload_n 1 dX4_readCompared_42 rfl ?_
      obtain ⟨r124, hc125, h⟩ := ob (fun z9 => z9) rfl h
      refine c_Vv (rest := []) 0 0 _ dX4_readCompared_43 kv_X4_105 (ct_Re_advance hc125) rfl rfl lX_33 rfl (Nat.le_of_ble_eq_true rfl) (dl (by decide)) (by decide) ?_
      refine r_aload_n 1 dX4_readCompared_46 rfl ?_
      obtain ⟨r126, hc127, h⟩ := ob (fun z9 => z9) rfl h
      refine c_Vv (rest := []) 0 0 _ dX4_readCompared_47 kv_X4_179 (ih_4 hc127) rfl rfl lX_33 rfl (Nat.le_of_ble_eq_true rfl) (Nat.le_refl _) (by decide) ?_
      refine r_aload_n 1 dX4_readCompared_50 rfl ?_
      refine r_getf (v := .ref (ad 44)) _ dX4_readCompared_51 fl_X4_23 lX_33 rfl ?_
      refine r_getf (v := .ref (ad 56)) _ dX4_readCompared_54 fl_X4_151 lX_44 rfl ?_
      refine r_iload_n 0 dX4_readCompared_57 rfl ?_
      refine r_iconst (v := (0 : Int32)) dX4_readCompared_58 (by decide) ?_
      obtain ⟨r128, hc129, h⟩ := ob (fun z9 => z9) rfl h
      refine c_Vv (rest := []) 0 0 _ dX4_readCompared_59 kv_X4_167 (ct_Or_addStep hc129) rfl rfl lX_56 rfl (Nat.le_of_ble_eq_true rfl) (dl (by decide)) (by decide) ?_
      refine r_vret dX4_readCompared_62 rfl ?_
      have h := Option.some.inj (show some _ = some o from h)
      subst h
      exact hq
    · have h := iq (fun z9 => z9) hc123 h
      refine r_iload_n 0 dX4_readCompared_17 rfl ?_
      refine r_bipush (v := (61 : Int32)) dX4_readCompared_18 (by decide) ?_
      refine r_icmp_eq (tgt := 42) dX4_readCompared_20 (by decide) (fun hc130 => ?_) (fun hc130 => ?_)
      · have h := ip (fun z9 => z9) hc130 h
        refine r_aload_n 1 dX4_readCompared_42 rfl ?_
        obtain ⟨r131, hc132, h⟩ := ob (fun z9 => z9) rfl h
        refine c_Vv (rest := []) 0 0 _ dX4_readCompared_43 kv_X4_105 (ct_Re_advance hc132) rfl rfl lX_33 rfl (Nat.le_of_ble_eq_true rfl) (dl (by decide)) (by decide) ?_
        refine r_aload_n 1 dX4_readCompared_46 rfl ?_
        obtain ⟨r133, hc134, h⟩ := ob (fun z9 => z9) rfl h
        refine c_Vv (rest := []) 0 0 _ dX4_readCompared_47 kv_X4_179 (ih_4 hc134) rfl rfl lX_33 rfl (Nat.le_of_ble_eq_true rfl) (Nat.le_refl _) (by decide) ?_
        refine r_aload_n 1 dX4_readCompared_50 rfl ?_
        refine r_getf (v := .ref (ad 44)) _ dX4_readCompared_51 fl_X4_23 lX_33 rfl ?_
        refine r_getf (v := .ref (ad 56)) _ dX4_readCompared_54 fl_X4_151 lX_44 rfl ?_
        refine r_iload_n 0 dX4_readCompared_57 rfl ?_
        refine r_iconst (v := (0 : Int32)) dX4_readCompared_58 (by decide) ?_
        obtain ⟨r135, hc136, h⟩ := ob (fun z9 => z9) rfl h
        refine c_Vv (rest := []) 0 0 _ dX4_readCompared_59 kv_X4_167 (ct_Or_addStep hc136) rfl rfl lX_56 rfl (Nat.le_of_ble_eq_true rfl) (dl (by decide)) (by decide) ?_
        refine r_vret dX4_readCompared_62 rfl ?_
        have h := Option.some.inj (show some _ = some o from h)
        subst h
        exact hq
      · have h := iq (fun z9 => z9) hc130 h
        refine r_iload_n 0 dX4_readCompared_23 rfl ?_
        refine r_sipush (v := (128 : Int32)) dX4_readCompared_24 (by decide) ?_
        refine r_icmp_eq (tgt := 42) dX4_readCompared_27 (by decide) (fun hc137 => ?_) (fun hc137 => ?_)
        · have h := ip (fun z9 => z9) hc137 h
          refine r_aload_n 1 dX4_readCompared_42 rfl ?_
          obtain ⟨r138, hc139, h⟩ := ob (fun z9 => z9) rfl h
          refine c_Vv (rest := []) 0 0 _ dX4_readCompared_43 kv_X4_105 (ct_Re_advance hc139) rfl rfl lX_33 rfl (Nat.le_of_ble_eq_true rfl) (dl (by decide)) (by decide) ?_
          refine r_aload_n 1 dX4_readCompared_46 rfl ?_
          obtain ⟨r140, hc141, h⟩ := ob (fun z9 => z9) rfl h
          refine c_Vv (rest := []) 0 0 _ dX4_readCompared_47 kv_X4_179 (ih_4 hc141) rfl rfl lX_33 rfl (Nat.le_of_ble_eq_true rfl) (Nat.le_refl _) (by decide) ?_
          refine r_aload_n 1 dX4_readCompared_50 rfl ?_
          refine r_getf (v := .ref (ad 44)) _ dX4_readCompared_51 fl_X4_23 lX_33 rfl ?_
          refine r_getf (v := .ref (ad 56)) _ dX4_readCompared_54 fl_X4_151 lX_44 rfl ?_
          refine r_iload_n 0 dX4_readCompared_57 rfl ?_
          refine r_iconst (v := (0 : Int32)) dX4_readCompared_58 (by decide) ?_
          obtain ⟨r142, hc143, h⟩ := ob (fun z9 => z9) rfl h
          refine c_Vv (rest := []) 0 0 _ dX4_readCompared_59 kv_X4_167 (ct_Or_addStep hc143) rfl rfl lX_56 rfl (Nat.le_of_ble_eq_true rfl) (dl (by decide)) (by decide) ?_
          refine r_vret dX4_readCompared_62 rfl ?_
          have h := Option.some.inj (show some _ = some o from h)
          subst h
          exact hq
        · have h := iq (fun z9 => z9) hc137 h
          refine r_iload_n 0 dX4_readCompared_30 rfl ?_
          refine r_sipush (v := (129 : Int32)) dX4_readCompared_31 (by decide) ?_
          refine r_icmp_eq (tgt := 42) dX4_readCompared_34 (by decide) (fun hc144 => ?_) (fun hc144 => ?_)
          · have h := ip (fun z9 => z9) hc144 h
            refine r_aload_n 1 dX4_readCompared_42 rfl ?_
            obtain ⟨r145, hc146, h⟩ := ob (fun z9 => z9) rfl h
            refine c_Vv (rest := []) 0 0 _ dX4_readCompared_43 kv_X4_105 (ct_Re_advance hc146) rfl rfl lX_33 rfl (Nat.le_of_ble_eq_true rfl) (dl (by decide)) (by decide) ?_
            refine r_aload_n 1 dX4_readCompared_46 rfl ?_
            obtain ⟨r147, hc148, h⟩ := ob (fun z9 => z9) rfl h
            refine c_Vv (rest := []) 0 0 _ dX4_readCompared_47 kv_X4_179 (ih_4 hc148) rfl rfl lX_33 rfl (Nat.le_of_ble_eq_true rfl) (Nat.le_refl _) (by decide) ?_
            refine r_aload_n 1 dX4_readCompared_50 rfl ?_
            refine r_getf (v := .ref (ad 44)) _ dX4_readCompared_51 fl_X4_23 lX_33 rfl ?_
            refine r_getf (v := .ref (ad 56)) _ dX4_readCompared_54 fl_X4_151 lX_44 rfl ?_
            refine r_iload_n 0 dX4_readCompared_57 rfl ?_
            refine r_iconst (v := (0 : Int32)) dX4_readCompared_58 (by decide) ?_
            obtain ⟨r149, hc150, h⟩ := ob (fun z9 => z9) rfl h
            refine c_Vv (rest := []) 0 0 _ dX4_readCompared_59 kv_X4_167 (ct_Or_addStep hc150) rfl rfl lX_56 rfl (Nat.le_of_ble_eq_true rfl) (dl (by decide)) (by decide) ?_
            refine r_vret dX4_readCompared_62 rfl ?_
            have h := Option.some.inj (show some _ = some o from h)
            subst h
            exact hq
          · have h := iq (fun z9 => z9) hc144 h
            refine r_aload_n 1 dX4_readCompared_37 rfl ?_
            obtain ⟨r151, hc152, h⟩ := ob (fun z9 => z9) rfl h
            refine c_Vv (rest := []) 0 0 _ dX4_readCompared_38 kv_X4_59 (ct_Re_fail hc152) rfl rfl lX_33 rfl (Nat.le_of_ble_eq_true rfl) (dl (by decide)) (by decide) ?_
            refine r_vret dX4_readCompared_41 rfl ?_
            have h := Option.some.inj (show some _ = some o from h)
            subst h
            exact hq
set_option maxRecDepth 20000 in
set_option maxHeartbeats 4000000 in
theorem rt_Re_readSum {g : GG} {ad : Nat → Nat} {t : va_W} {x0 x1 x3 x4 x5 x11 x12 x18 x19 x20 x29 x30 x31 x37 x39 x40 x41 x47 x58 x59 x60 x61 x63 x64 x65 x66 : Int32} {x2 x6 x7 x8 x9 x10 x13 x14 x15 x16 x17 x21 x22 x23 x42 x43 x44 x45 x46 x49 x50 x51 x62 x67 : Nat → Int32} {x32 : Int64} {x38 : Nat → Int64} {N : Nat} {Re_at : Int32} {Re_kind : Int32} {Re_depth : Int32} {Re_error : Int32} {Re_errorPlace : Int32} {To_kinds : Nat → Int32} {To_starts : Nat → Int32} {To_numbers : Nat → Int32} {To_words : Nat → Int64} {Or_stepCount : Int32} {Or_stepKinds : Nat → Int32} {Or_stepParts : Nat → Int32} {Na_count : Int32} {Na_words : Nat → Int64} {Na_count_2 : Int32} {Na_words_2 : Nat → Int64} {D : Nat} {rec : Nat → Int32 → Int32 → (Int32 × Int32 × Int32 × Int32 × Int32 × Int32 × (Nat → Int32) × (Nat → Int32)) → Option (Int32 × Int32 × Int32 × Int32 × Int32 × Int32 × (Nat → Int32) × (Nat → Int32))} (ih_0 : (∀ {w0 : Int32} {w1 : Int32} {w2 : Int32} {w3 : Int32} {w4 : Int32} {w5 : Int32} {w6 : Nat → Int32} {w7 : Nat → Int32} {o : Int32 × Int32 × Int32 × Int32 × Int32 × Int32 × (Nat → Int32) × (Nat → Int32)} {t : va_W}, rec 0 0 0 (w0, w1, w2, w3, w4, w5, w6, w7) = some o → Ct g mX4_readTest (7 + D) 0 0 [.ref (ad 33)] (wlX g ad x0 x1 x2 x3 x4 x5 x6 x7 x8 x9 x10 x11 x12 x13 x14 x15 x16 x17 x18 x19 x20 x21 x22 x23 w0 w1 w2 w3 w4 x29 x30 x31 x32 To_kinds To_starts To_numbers To_words x37 x38 x39 x40 x41 x42 x43 x44 x45 x46 x47 w5 x49 x50 x51 w6 w7 Na_count Na_words Na_count_2 Na_words_2 x58 x59 x60 x61 x62 x63 x64 x65 x66 x67 ++ t) (Dv (none) (wlX g ad x0 x1 x2 x3 x4 x5 x6 x7 x8 x9 x10 x11 x12 x13 x14 x15 x16 x17 x18 x19 x20 x21 x22 x23 o.1 o.2.1 o.2.2.1 o.2.2.2.1 o.2.2.2.2.1 x29 x30 x31 x32 To_kinds To_starts To_numbers To_words x37 x38 x39 x40 x41 x42 x43 x44 x45 x46 x47 o.2.2.2.2.2.1 x49 x50 x51 o.2.2.2.2.2.2.1 o.2.2.2.2.2.2.2 Na_count Na_words Na_count_2 Na_words_2 x58 x59 x60 x61 x62 x63 x64 x65 x66 x67 ++ t)))) (ih_1 : (∀ {w0 : Int32} {w1 : Int32} {w2 : Int32} {w3 : Int32} {w4 : Int32} {w5 : Int32} {w6 : Nat → Int32} {w7 : Nat → Int32} {o : Int32 × Int32 × Int32 × Int32 × Int32 × Int32 × (Nat → Int32) × (Nat → Int32)} {t : va_W}, rec 1 0 0 (w0, w1, w2, w3, w4, w5, w6, w7) = some o → Ct g mX4_readBoth (7 + D) 0 0 [.ref (ad 33)] (wlX g ad x0 x1 x2 x3 x4 x5 x6 x7 x8 x9 x10 x11 x12 x13 x14 x15 x16 x17 x18 x19 x20 x21 x22 x23 w0 w1 w2 w3 w4 x29 x30 x31 x32 To_kinds To_starts To_numbers To_words x37 x38 x39 x40 x41 x42 x43 x44 x45 x46 x47 w5 x49 x50 x51 w6 w7 Na_count Na_words Na_count_2 Na_words_2 x58 x59 x60 x61 x62 x63 x64 x65 x66 x67 ++ t) (Dv (none) (wlX g ad x0 x1 x2 x3 x4 x5 x6 x7 x8 x9 x10 x11 x12 x13 x14 x15 x16 x17 x18 x19 x20 x21 x22 x23 o.1 o.2.1 o.2.2.1 o.2.2.2.1 o.2.2.2.2.1 x29 x30 x31 x32 To_kinds To_starts To_numbers To_words x37 x38 x39 x40 x41 x42 x43 x44 x45 x46 x47 o.2.2.2.2.2.1 x49 x50 x51 o.2.2.2.2.2.2.1 o.2.2.2.2.2.2.2 Na_count Na_words Na_count_2 Na_words_2 x58 x59 x60 x61 x62 x63 x64 x65 x66 x67 ++ t)))) (ih_2 : (∀ {w0 : Int32} {w1 : Int32} {w2 : Int32} {w3 : Int32} {w4 : Int32} {w5 : Int32} {w6 : Nat → Int32} {w7 : Nat → Int32} {o : Int32 × Int32 × Int32 × Int32 × Int32 × Int32 × (Nat → Int32) × (Nat → Int32)} {t : va_W}, rec 2 0 0 (w0, w1, w2, w3, w4, w5, w6, w7) = some o → Ct g mX4_readSingle (7 + D) 0 0 [.ref (ad 33)] (wlX g ad x0 x1 x2 x3 x4 x5 x6 x7 x8 x9 x10 x11 x12 x13 x14 x15 x16 x17 x18 x19 x20 x21 x22 x23 w0 w1 w2 w3 w4 x29 x30 x31 x32 To_kinds To_starts To_numbers To_words x37 x38 x39 x40 x41 x42 x43 x44 x45 x46 x47 w5 x49 x50 x51 w6 w7 Na_count Na_words Na_count_2 Na_words_2 x58 x59 x60 x61 x62 x63 x64 x65 x66 x67 ++ t) (Dv (none) (wlX g ad x0 x1 x2 x3 x4 x5 x6 x7 x8 x9 x10 x11 x12 x13 x14 x15 x16 x17 x18 x19 x20 x21 x22 x23 o.1 o.2.1 o.2.2.1 o.2.2.2.1 o.2.2.2.2.1 x29 x30 x31 x32 To_kinds To_starts To_numbers To_words x37 x38 x39 x40 x41 x42 x43 x44 x45 x46 x47 o.2.2.2.2.2.1 x49 x50 x51 o.2.2.2.2.2.2.1 o.2.2.2.2.2.2.2 Na_count Na_words Na_count_2 Na_words_2 x58 x59 x60 x61 x62 x63 x64 x65 x66 x67 ++ t)))) (ih_3 : (∀ {w0 : Int32} {w1 : Int32} {w2 : Int32} {w3 : Int32} {w4 : Int32} {w5 : Int32} {w6 : Nat → Int32} {w7 : Nat → Int32} {o : Int32 × Int32 × Int32 × Int32 × Int32 × Int32 × (Nat → Int32) × (Nat → Int32)} {t : va_W}, rec 3 0 0 (w0, w1, w2, w3, w4, w5, w6, w7) = some o → Ct g mX4_readCompared (7 + D) 0 0 [.ref (ad 33)] (wlX g ad x0 x1 x2 x3 x4 x5 x6 x7 x8 x9 x10 x11 x12 x13 x14 x15 x16 x17 x18 x19 x20 x21 x22 x23 w0 w1 w2 w3 w4 x29 x30 x31 x32 To_kinds To_starts To_numbers To_words x37 x38 x39 x40 x41 x42 x43 x44 x45 x46 x47 w5 x49 x50 x51 w6 w7 Na_count Na_words Na_count_2 Na_words_2 x58 x59 x60 x61 x62 x63 x64 x65 x66 x67 ++ t) (Dv (none) (wlX g ad x0 x1 x2 x3 x4 x5 x6 x7 x8 x9 x10 x11 x12 x13 x14 x15 x16 x17 x18 x19 x20 x21 x22 x23 o.1 o.2.1 o.2.2.1 o.2.2.2.1 o.2.2.2.2.1 x29 x30 x31 x32 To_kinds To_starts To_numbers To_words x37 x38 x39 x40 x41 x42 x43 x44 x45 x46 x47 o.2.2.2.2.2.1 x49 x50 x51 o.2.2.2.2.2.2.1 o.2.2.2.2.2.2.2 Na_count Na_words Na_count_2 Na_words_2 x58 x59 x60 x61 x62 x63 x64 x65 x66 x67 ++ t)))) (ih_4 : (∀ {w0 : Int32} {w1 : Int32} {w2 : Int32} {w3 : Int32} {w4 : Int32} {w5 : Int32} {w6 : Nat → Int32} {w7 : Nat → Int32} {o : Int32 × Int32 × Int32 × Int32 × Int32 × Int32 × (Nat → Int32) × (Nat → Int32)} {t : va_W}, rec 4 0 0 (w0, w1, w2, w3, w4, w5, w6, w7) = some o → Ct g mX4_readSum (7 + D) 0 0 [.ref (ad 33)] (wlX g ad x0 x1 x2 x3 x4 x5 x6 x7 x8 x9 x10 x11 x12 x13 x14 x15 x16 x17 x18 x19 x20 x21 x22 x23 w0 w1 w2 w3 w4 x29 x30 x31 x32 To_kinds To_starts To_numbers To_words x37 x38 x39 x40 x41 x42 x43 x44 x45 x46 x47 w5 x49 x50 x51 w6 w7 Na_count Na_words Na_count_2 Na_words_2 x58 x59 x60 x61 x62 x63 x64 x65 x66 x67 ++ t) (Dv (none) (wlX g ad x0 x1 x2 x3 x4 x5 x6 x7 x8 x9 x10 x11 x12 x13 x14 x15 x16 x17 x18 x19 x20 x21 x22 x23 o.1 o.2.1 o.2.2.1 o.2.2.2.1 o.2.2.2.2.1 x29 x30 x31 x32 To_kinds To_starts To_numbers To_words x37 x38 x39 x40 x41 x42 x43 x44 x45 x46 x47 o.2.2.2.2.2.1 x49 x50 x51 o.2.2.2.2.2.2.1 o.2.2.2.2.2.2.2 Na_count Na_words Na_count_2 Na_words_2 x58 x59 x60 x61 x62 x63 x64 x65 x66 x67 ++ t)))) (ih_5 : (∀ {w0 : Int32} {w1 : Int32} {w2 : Int32} {w3 : Int32} {w4 : Int32} {w5 : Int32} {w6 : Nat → Int32} {w7 : Nat → Int32} {o : Int32 × Int32 × Int32 × Int32 × Int32 × Int32 × (Nat → Int32) × (Nat → Int32)} {t : va_W}, rec 5 0 0 (w0, w1, w2, w3, w4, w5, w6, w7) = some o → Ct g mX4_readProduct (7 + D) 0 0 [.ref (ad 33)] (wlX g ad x0 x1 x2 x3 x4 x5 x6 x7 x8 x9 x10 x11 x12 x13 x14 x15 x16 x17 x18 x19 x20 x21 x22 x23 w0 w1 w2 w3 w4 x29 x30 x31 x32 To_kinds To_starts To_numbers To_words x37 x38 x39 x40 x41 x42 x43 x44 x45 x46 x47 w5 x49 x50 x51 w6 w7 Na_count Na_words Na_count_2 Na_words_2 x58 x59 x60 x61 x62 x63 x64 x65 x66 x67 ++ t) (Dv (none) (wlX g ad x0 x1 x2 x3 x4 x5 x6 x7 x8 x9 x10 x11 x12 x13 x14 x15 x16 x17 x18 x19 x20 x21 x22 x23 o.1 o.2.1 o.2.2.1 o.2.2.2.1 o.2.2.2.2.1 x29 x30 x31 x32 To_kinds To_starts To_numbers To_words x37 x38 x39 x40 x41 x42 x43 x44 x45 x46 x47 o.2.2.2.2.2.1 x49 x50 x51 o.2.2.2.2.2.2.1 o.2.2.2.2.2.2.2 Na_count Na_words Na_count_2 Na_words_2 x58 x59 x60 x61 x62 x63 x64 x65 x66 x67 ++ t)))) (ih_6 : (∀ {w0 : Int32} {w1 : Int32} {w2 : Int32} {w3 : Int32} {w4 : Int32} {w5 : Int32} {w6 : Nat → Int32} {w7 : Nat → Int32} {o : Int32 × Int32 × Int32 × Int32 × Int32 × Int32 × (Nat → Int32) × (Nat → Int32)} {t : va_W}, rec 6 0 0 (w0, w1, w2, w3, w4, w5, w6, w7) = some o → Ct g mX4_readValue (7 + D) 0 0 [.ref (ad 33)] (wlX g ad x0 x1 x2 x3 x4 x5 x6 x7 x8 x9 x10 x11 x12 x13 x14 x15 x16 x17 x18 x19 x20 x21 x22 x23 w0 w1 w2 w3 w4 x29 x30 x31 x32 To_kinds To_starts To_numbers To_words x37 x38 x39 x40 x41 x42 x43 x44 x45 x46 x47 w5 x49 x50 x51 w6 w7 Na_count Na_words Na_count_2 Na_words_2 x58 x59 x60 x61 x62 x63 x64 x65 x66 x67 ++ t) (Dv (none) (wlX g ad x0 x1 x2 x3 x4 x5 x6 x7 x8 x9 x10 x11 x12 x13 x14 x15 x16 x17 x18 x19 x20 x21 x22 x23 o.1 o.2.1 o.2.2.1 o.2.2.2.1 o.2.2.2.2.1 x29 x30 x31 x32 To_kinds To_starts To_numbers To_words x37 x38 x39 x40 x41 x42 x43 x44 x45 x46 x47 o.2.2.2.2.2.1 x49 x50 x51 o.2.2.2.2.2.2.1 o.2.2.2.2.2.2.2 Na_count Na_words Na_count_2 Na_words_2 x58 x59 x60 x61 x62 x63 x64 x65 x66 x67 ++ t)))) (ih_7 : (∀ {w0 : Int32} {w1 : Int32} {w2 : Int32} {w3 : Int32} {w4 : Int32} {w5 : Int32} {w6 : Nat → Int32} {w7 : Nat → Int32} {o : Int32 × Int32 × Int32 × Int32 × Int32 × Int32 × (Nat → Int32) × (Nat → Int32)} {t : va_W}, rec 7 0 0 (w0, w1, w2, w3, w4, w5, w6, w7) = some o → Ct g mX4_readTwoSums (7 + D) 0 0 [.ref (ad 33)] (wlX g ad x0 x1 x2 x3 x4 x5 x6 x7 x8 x9 x10 x11 x12 x13 x14 x15 x16 x17 x18 x19 x20 x21 x22 x23 w0 w1 w2 w3 w4 x29 x30 x31 x32 To_kinds To_starts To_numbers To_words x37 x38 x39 x40 x41 x42 x43 x44 x45 x46 x47 w5 x49 x50 x51 w6 w7 Na_count Na_words Na_count_2 Na_words_2 x58 x59 x60 x61 x62 x63 x64 x65 x66 x67 ++ t) (Dv (none) (wlX g ad x0 x1 x2 x3 x4 x5 x6 x7 x8 x9 x10 x11 x12 x13 x14 x15 x16 x17 x18 x19 x20 x21 x22 x23 o.1 o.2.1 o.2.2.1 o.2.2.2.1 o.2.2.2.2.1 x29 x30 x31 x32 To_kinds To_starts To_numbers To_words x37 x38 x39 x40 x41 x42 x43 x44 x45 x46 x47 o.2.2.2.2.2.1 x49 x50 x51 o.2.2.2.2.2.2.1 o.2.2.2.2.2.2.2 Na_count Na_words Na_count_2 Na_words_2 x58 x59 x60 x61 x62 x63 x64 x65 x66 x67 ++ t)))) {o : Int32 × Int32 × Int32 × Int32 × Int32 × Int32 × (Nat → Int32) × (Nat → Int32)} {Q : Rs → va_W → Prop} (h : f_Re_readSum N rec Re_at Re_kind Re_depth Re_error Re_errorPlace To_kinds To_starts To_numbers To_words Or_stepCount Or_stepKinds Or_stepParts Na_count Na_words Na_count_2 Na_words_2 = some o) (hq : Q (.inl (none)) (wlX g ad x0 x1 x2 x3 x4 x5 x6 x7 x8 x9 x10 x11 x12 x13 x14 x15 x16 x17 x18 x19 x20 x21 x22 x23 o.1 o.2.1 o.2.2.1 o.2.2.2.1 o.2.2.2.2.1 x29 x30 x31 x32 To_kinds To_starts To_numbers To_words x37 x38 x39 x40 x41 x42 x43 x44 x45 x46 x47 o.2.2.2.2.2.1 x49 x50 x51 o.2.2.2.2.2.2.1 o.2.2.2.2.2.2.2 Na_count Na_words Na_count_2 Na_words_2 x58 x59 x60 x61 x62 x63 x64 x65 x66 x67 ++ t)) : R g mX4_readSum (7 + (D + 1)) 0 0 0 [(0, .ref (ad 33))] [] (wlX g ad x0 x1 x2 x3 x4 x5 x6 x7 x8 x9 x10 x11 x12 x13 x14 x15 x16 x17 x18 x19 x20 x21 x22 x23 Re_at Re_kind Re_depth Re_error Re_errorPlace x29 x30 x31 x32 To_kinds To_starts To_numbers To_words x37 x38 x39 x40 x41 x42 x43 x44 x45 x46 x47 Or_stepCount x49 x50 x51 Or_stepKinds Or_stepParts Na_count Na_words Na_count_2 Na_words_2 x58 x59 x60 x61 x62 x63 x64 x65 x66 x67 ++ t) Q := by
  unfold f_Re_readSum at h
  refine r_aload_n 0 dX4_readSum_0 rfl ?_
  obtain ⟨r153, hc154, h⟩ := ob (fun z9 => z9) rfl h
  refine c_Vv (rest := []) 0 0 _ dX4_readSum_1 kv_X4_185 (ih_5 hc154) rfl rfl lX_33 rfl (Nat.le_of_ble_eq_true rfl) (Nat.le_refl _) (by decide) ?_
  refine r_iconst (v := (0 : Int32)) dX4_readSum_4 (by decide) ?_
  refine r_istore_n [(1, .int (0 : Int32)), (0, .ref (ad 33))] dX4_readSum_5 (by decide) rfl ?_
  refine r_ls [1, 0] (ls2 := [(0, .ref (ad 33)), (1, .int (0 : Int32))]) rfl ?_
  have L1 : ∀ (n1 : Nat) (l1_1 : Int32) (Re_at_1 : Int32) (Re_kind_1 : Int32) (Re_depth_1 : Int32) (Re_error_1 : Int32) (Re_errorPlace_1 : Int32) (Or_stepCount_1 : Int32) (Or_stepKinds_1 : Nat → Int32) (Or_stepParts_1 : Nat → Int32), (fun z9 => z9) (lpS (f_Re_readSum_L6 To_kinds rec) none n1 (l1_1, Re_at_1, Re_kind_1, Re_depth_1, Re_error_1, Re_errorPlace_1, Or_stepCount_1, Or_stepKinds_1, Or_stepParts_1)) = some o → R g mX4_readSum (7 + (D + 1)) 0 0 6 [(0, .ref (ad 33)), (1, .int l1_1)] [] (wlX g ad x0 x1 x2 x3 x4 x5 x6 x7 x8 x9 x10 x11 x12 x13 x14 x15 x16 x17 x18 x19 x20 x21 x22 x23 Re_at_1 Re_kind_1 Re_depth_1 Re_error_1 Re_errorPlace_1 x29 x30 x31 x32 To_kinds To_starts To_numbers To_words x37 x38 x39 x40 x41 x42 x43 x44 x45 x46 x47 Or_stepCount_1 x49 x50 x51 Or_stepKinds_1 Or_stepParts_1 Na_count Na_words Na_count_2 Na_words_2 x58 x59 x60 x61 x62 x63 x64 x65 x66 x67 ++ t) Q := by
    intro n1
    induction n1 with
    | zero => intro l1_1 Re_at_1 Re_kind_1 Re_depth_1 Re_error_1 Re_errorPlace_1 Or_stepCount_1 Or_stepKinds_1 Or_stepParts_1 h; exact nomatch (show (none : Option _) = some _ from h)
    | succ n1 ih1 =>
      intro l1_1 Re_at_1 Re_kind_1 Re_depth_1 Re_error_1 Re_errorPlace_1 Or_stepCount_1 Or_stepKinds_1 Or_stepParts_1 h
      have h : (fun z9 => (lC (f_Re_readSum_L6 To_kinds rec) none n1 z9)) (f_Re_readSum_L6 To_kinds rec (l1_1, Re_at_1, Re_kind_1, Re_depth_1, Re_error_1, Re_errorPlace_1, Or_stepCount_1, Or_stepKinds_1, Or_stepParts_1)) = some o := h
      unfold f_Re_readSum_L6 at h
      try dsimp only at h
      refine r_iload_n 1 dX4_readSum_6 rfl ?_
      refine r_sipush (v := (400 : Int32)) dX4_readSum_7 (by decide) ?_
      refine r_icmp_ge (tgt := 62) dX4_readSum_10 (by decide) (fun hc155 => ?_) (fun hc155 => ?_)
      · have h := ip (fun z9 => (lC (f_Re_readSum_L6 To_kinds rec) none n1 z9)) hc155 h
        refine r_vret dX4_readSum_62 rfl ?_
        have h := Option.some.inj (show some _ = some o from h)
        subst h
        exact hq
      · have h := iq (fun z9 => (lC (f_Re_readSum_L6 To_kinds rec) none n1 z9)) hc155 h
        refine r_aload_n 0 dX4_readSum_13 rfl ?_
        refine r_getf (v := .int Re_kind_1) _ dX4_readSum_14 fl_X4_42 lX_33 rfl ?_
        refine r_bipush (v := (43 : Int32)) dX4_readSum_17 (by decide) ?_
        refine r_icmp_eq (tgt := 31) dX4_readSum_19 (by decide) (fun hc156 => ?_) (fun hc156 => ?_)
        · have h := ip (fun z9 => (lC (f_Re_readSum_L6 To_kinds rec) none n1 z9)) hc156 h
          refine r_aload_n 0 dX4_readSum_31 rfl ?_
          refine r_getf (v := .int Re_kind_1) _ dX4_readSum_32 fl_X4_42 lX_33 rfl ?_
          refine r_istore_n [(2, .int Re_kind_1), (0, .ref (ad 33)), (1, .int l1_1)] dX4_readSum_35 (by decide) rfl ?_
          refine r_aload_n 1 dX4_readSum_36 rfl ?_
          obtain ⟨r157, hc158, h⟩ := ob (fun z9 => (lC (f_Re_readSum_L6 To_kinds rec) none n1 z9)) rfl h
          refine c_Vv (rest := []) 0 0 _ dX4_readSum_37 kv_X4_105 (ct_Re_advance hc158) rfl rfl lX_33 rfl (Nat.le_of_ble_eq_true rfl) (dl (by decide)) (by decide) ?_
          refine r_aload_n 1 dX4_readSum_40 rfl ?_
          obtain ⟨r159, hc160, h⟩ := ob (fun z9 => (lC (f_Re_readSum_L6 To_kinds rec) none n1 z9)) rfl h
          refine c_Vv (rest := []) 0 0 _ dX4_readSum_41 kv_X4_185 (ih_5 hc160) rfl rfl lX_33 rfl (Nat.le_of_ble_eq_true rfl) (Nat.le_refl _) (by decide) ?_
          refine r_aload_n 1 dX4_readSum_44 rfl ?_
          refine r_getf (v := .ref (ad 44)) _ dX4_readSum_45 fl_X4_23 lX_33 rfl ?_
          refine r_getf (v := .ref (ad 56)) _ dX4_readSum_48 fl_X4_151 lX_44 rfl ?_
          refine r_iload_n 0 dX4_readSum_51 rfl ?_
          refine r_iconst (v := (0 : Int32)) dX4_readSum_52 (by decide) ?_
          obtain ⟨r161, hc162, h⟩ := ob (fun z9 => (lC (f_Re_readSum_L6 To_kinds rec) none n1 z9)) rfl h
          refine c_Vv (rest := []) 0 0 _ dX4_readSum_53 kv_X4_167 (ct_Or_addStep hc162) rfl rfl lX_56 rfl (Nat.le_of_ble_eq_true rfl) (dl (by decide)) (by decide) ?_
          refine r_iinc (v2 := (l1_1 + (1 : Int32))) 2 [(1, .int (l1_1 + (1 : Int32))), (2, .int Re_kind_1), (0, .ref (ad 33))] dX4_readSum_56 rfl rfl (by decide) rfl ?_
          refine r_goto (tgt := 6) dX4_readSum_59 (by decide) ?_
          refine r_ls [2, 0] (ls2 := [(0, .ref (ad 33)), (1, .int (l1_1 + (1 : Int32)))]) rfl ?_
          exact ih1 (l1_1 + (1 : Int32)) r159.1 r159.2.1 r159.2.2.1 r159.2.2.2.1 r159.2.2.2.2.1 r161.1 r161.2.1 r161.2.2 h
        · have h := iq (fun z9 => (lC (f_Re_readSum_L6 To_kinds rec) none n1 z9)) hc156 h
          refine r_aload_n 0 dX4_readSum_22 rfl ?_
          refine r_getf (v := .int Re_kind_1) _ dX4_readSum_23 fl_X4_42 lX_33 rfl ?_
          refine r_bipush (v := (45 : Int32)) dX4_readSum_26 (by decide) ?_
          refine r_icmp_ne (tgt := 62) dX4_readSum_28 (by decide) (fun hc163 => ?_) (fun hc163 => ?_)
          · have h := iq (fun z9 => (lC (f_Re_readSum_L6 To_kinds rec) none n1 z9)) hc163 h
            refine r_vret dX4_readSum_62 rfl ?_
            have h := Option.some.inj (show some _ = some o from h)
            subst h
            exact hq
          · have h := ip (fun z9 => (lC (f_Re_readSum_L6 To_kinds rec) none n1 z9)) hc163 h
            refine r_aload_n 0 dX4_readSum_31 rfl ?_
            refine r_getf (v := .int Re_kind_1) _ dX4_readSum_32 fl_X4_42 lX_33 rfl ?_
            refine r_istore_n [(2, .int Re_kind_1), (0, .ref (ad 33)), (1, .int l1_1)] dX4_readSum_35 (by decide) rfl ?_
            refine r_aload_n 1 dX4_readSum_36 rfl ?_
            obtain ⟨r164, hc165, h⟩ := ob (fun z9 => (lC (f_Re_readSum_L6 To_kinds rec) none n1 z9)) rfl h
            refine c_Vv (rest := []) 0 0 _ dX4_readSum_37 kv_X4_105 (ct_Re_advance hc165) rfl rfl lX_33 rfl (Nat.le_of_ble_eq_true rfl) (dl (by decide)) (by decide) ?_
            refine r_aload_n 1 dX4_readSum_40 rfl ?_
            obtain ⟨r166, hc167, h⟩ := ob (fun z9 => (lC (f_Re_readSum_L6 To_kinds rec) none n1 z9)) rfl h
            refine c_Vv (rest := []) 0 0 _ dX4_readSum_41 kv_X4_185 (ih_5 hc167) rfl rfl lX_33 rfl (Nat.le_of_ble_eq_true rfl) (Nat.le_refl _) (by decide) ?_
            refine r_aload_n 1 dX4_readSum_44 rfl ?_
            refine r_getf (v := .ref (ad 44)) _ dX4_readSum_45 fl_X4_23 lX_33 rfl ?_
            refine r_getf (v := .ref (ad 56)) _ dX4_readSum_48 fl_X4_151 lX_44 rfl ?_
            refine r_iload_n 0 dX4_readSum_51 rfl ?_
            refine r_iconst (v := (0 : Int32)) dX4_readSum_52 (by decide) ?_
            obtain ⟨r168, hc169, h⟩ := ob (fun z9 => (lC (f_Re_readSum_L6 To_kinds rec) none n1 z9)) rfl h
            refine c_Vv (rest := []) 0 0 _ dX4_readSum_53 kv_X4_167 (ct_Or_addStep hc169) rfl rfl lX_56 rfl (Nat.le_of_ble_eq_true rfl) (dl (by decide)) (by decide) ?_
            refine r_iinc (v2 := (l1_1 + (1 : Int32))) 2 [(1, .int (l1_1 + (1 : Int32))), (2, .int Re_kind_1), (0, .ref (ad 33))] dX4_readSum_56 rfl rfl (by decide) rfl ?_
            refine r_goto (tgt := 6) dX4_readSum_59 (by decide) ?_
            refine r_ls [2, 0] (ls2 := [(0, .ref (ad 33)), (1, .int (l1_1 + (1 : Int32)))]) rfl ?_
            exact ih1 (l1_1 + (1 : Int32)) r166.1 r166.2.1 r166.2.2.1 r166.2.2.2.1 r166.2.2.2.2.1 r168.1 r168.2.1 r168.2.2 h
  exact L1 _ (0 : Int32) r153.1 r153.2.1 r153.2.2.1 r153.2.2.2.1 r153.2.2.2.2.1 r153.2.2.2.2.2.1 r153.2.2.2.2.2.2.1 r153.2.2.2.2.2.2.2 h
set_option maxRecDepth 20000 in
set_option maxHeartbeats 4000000 in
theorem rt_Re_readProduct {g : GG} {ad : Nat → Nat} {t : va_W} {x0 x1 x3 x4 x5 x11 x12 x18 x19 x20 x29 x30 x31 x37 x39 x40 x41 x47 x58 x59 x60 x61 x63 x64 x65 x66 : Int32} {x2 x6 x7 x8 x9 x10 x13 x14 x15 x16 x17 x21 x22 x23 x42 x43 x44 x45 x46 x49 x50 x51 x62 x67 : Nat → Int32} {x32 : Int64} {x38 : Nat → Int64} {N : Nat} {Re_at : Int32} {Re_kind : Int32} {Re_depth : Int32} {Re_error : Int32} {Re_errorPlace : Int32} {To_kinds : Nat → Int32} {To_starts : Nat → Int32} {To_numbers : Nat → Int32} {To_words : Nat → Int64} {Or_stepCount : Int32} {Or_stepKinds : Nat → Int32} {Or_stepParts : Nat → Int32} {Na_count : Int32} {Na_words : Nat → Int64} {Na_count_2 : Int32} {Na_words_2 : Nat → Int64} {D : Nat} {rec : Nat → Int32 → Int32 → (Int32 × Int32 × Int32 × Int32 × Int32 × Int32 × (Nat → Int32) × (Nat → Int32)) → Option (Int32 × Int32 × Int32 × Int32 × Int32 × Int32 × (Nat → Int32) × (Nat → Int32))} (ih_0 : (∀ {w0 : Int32} {w1 : Int32} {w2 : Int32} {w3 : Int32} {w4 : Int32} {w5 : Int32} {w6 : Nat → Int32} {w7 : Nat → Int32} {o : Int32 × Int32 × Int32 × Int32 × Int32 × Int32 × (Nat → Int32) × (Nat → Int32)} {t : va_W}, rec 0 0 0 (w0, w1, w2, w3, w4, w5, w6, w7) = some o → Ct g mX4_readTest (7 + D) 0 0 [.ref (ad 33)] (wlX g ad x0 x1 x2 x3 x4 x5 x6 x7 x8 x9 x10 x11 x12 x13 x14 x15 x16 x17 x18 x19 x20 x21 x22 x23 w0 w1 w2 w3 w4 x29 x30 x31 x32 To_kinds To_starts To_numbers To_words x37 x38 x39 x40 x41 x42 x43 x44 x45 x46 x47 w5 x49 x50 x51 w6 w7 Na_count Na_words Na_count_2 Na_words_2 x58 x59 x60 x61 x62 x63 x64 x65 x66 x67 ++ t) (Dv (none) (wlX g ad x0 x1 x2 x3 x4 x5 x6 x7 x8 x9 x10 x11 x12 x13 x14 x15 x16 x17 x18 x19 x20 x21 x22 x23 o.1 o.2.1 o.2.2.1 o.2.2.2.1 o.2.2.2.2.1 x29 x30 x31 x32 To_kinds To_starts To_numbers To_words x37 x38 x39 x40 x41 x42 x43 x44 x45 x46 x47 o.2.2.2.2.2.1 x49 x50 x51 o.2.2.2.2.2.2.1 o.2.2.2.2.2.2.2 Na_count Na_words Na_count_2 Na_words_2 x58 x59 x60 x61 x62 x63 x64 x65 x66 x67 ++ t)))) (ih_1 : (∀ {w0 : Int32} {w1 : Int32} {w2 : Int32} {w3 : Int32} {w4 : Int32} {w5 : Int32} {w6 : Nat → Int32} {w7 : Nat → Int32} {o : Int32 × Int32 × Int32 × Int32 × Int32 × Int32 × (Nat → Int32) × (Nat → Int32)} {t : va_W}, rec 1 0 0 (w0, w1, w2, w3, w4, w5, w6, w7) = some o → Ct g mX4_readBoth (7 + D) 0 0 [.ref (ad 33)] (wlX g ad x0 x1 x2 x3 x4 x5 x6 x7 x8 x9 x10 x11 x12 x13 x14 x15 x16 x17 x18 x19 x20 x21 x22 x23 w0 w1 w2 w3 w4 x29 x30 x31 x32 To_kinds To_starts To_numbers To_words x37 x38 x39 x40 x41 x42 x43 x44 x45 x46 x47 w5 x49 x50 x51 w6 w7 Na_count Na_words Na_count_2 Na_words_2 x58 x59 x60 x61 x62 x63 x64 x65 x66 x67 ++ t) (Dv (none) (wlX g ad x0 x1 x2 x3 x4 x5 x6 x7 x8 x9 x10 x11 x12 x13 x14 x15 x16 x17 x18 x19 x20 x21 x22 x23 o.1 o.2.1 o.2.2.1 o.2.2.2.1 o.2.2.2.2.1 x29 x30 x31 x32 To_kinds To_starts To_numbers To_words x37 x38 x39 x40 x41 x42 x43 x44 x45 x46 x47 o.2.2.2.2.2.1 x49 x50 x51 o.2.2.2.2.2.2.1 o.2.2.2.2.2.2.2 Na_count Na_words Na_count_2 Na_words_2 x58 x59 x60 x61 x62 x63 x64 x65 x66 x67 ++ t)))) (ih_2 : (∀ {w0 : Int32} {w1 : Int32} {w2 : Int32} {w3 : Int32} {w4 : Int32} {w5 : Int32} {w6 : Nat → Int32} {w7 : Nat → Int32} {o : Int32 × Int32 × Int32 × Int32 × Int32 × Int32 × (Nat → Int32) × (Nat → Int32)} {t : va_W}, rec 2 0 0 (w0, w1, w2, w3, w4, w5, w6, w7) = some o → Ct g mX4_readSingle (7 + D) 0 0 [.ref (ad 33)] (wlX g ad x0 x1 x2 x3 x4 x5 x6 x7 x8 x9 x10 x11 x12 x13 x14 x15 x16 x17 x18 x19 x20 x21 x22 x23 w0 w1 w2 w3 w4 x29 x30 x31 x32 To_kinds To_starts To_numbers To_words x37 x38 x39 x40 x41 x42 x43 x44 x45 x46 x47 w5 x49 x50 x51 w6 w7 Na_count Na_words Na_count_2 Na_words_2 x58 x59 x60 x61 x62 x63 x64 x65 x66 x67 ++ t) (Dv (none) (wlX g ad x0 x1 x2 x3 x4 x5 x6 x7 x8 x9 x10 x11 x12 x13 x14 x15 x16 x17 x18 x19 x20 x21 x22 x23 o.1 o.2.1 o.2.2.1 o.2.2.2.1 o.2.2.2.2.1 x29 x30 x31 x32 To_kinds To_starts To_numbers To_words x37 x38 x39 x40 x41 x42 x43 x44 x45 x46 x47 o.2.2.2.2.2.1 x49 x50 x51 o.2.2.2.2.2.2.1 o.2.2.2.2.2.2.2 Na_count Na_words Na_count_2 Na_words_2 x58 x59 x60 x61 x62 x63 x64 x65 x66 x67 ++ t)))) (ih_3 : (∀ {w0 : Int32} {w1 : Int32} {w2 : Int32} {w3 : Int32} {w4 : Int32} {w5 : Int32} {w6 : Nat → Int32} {w7 : Nat → Int32} {o : Int32 × Int32 × Int32 × Int32 × Int32 × Int32 × (Nat → Int32) × (Nat → Int32)} {t : va_W}, rec 3 0 0 (w0, w1, w2, w3, w4, w5, w6, w7) = some o → Ct g mX4_readCompared (7 + D) 0 0 [.ref (ad 33)] (wlX g ad x0 x1 x2 x3 x4 x5 x6 x7 x8 x9 x10 x11 x12 x13 x14 x15 x16 x17 x18 x19 x20 x21 x22 x23 w0 w1 w2 w3 w4 x29 x30 x31 x32 To_kinds To_starts To_numbers To_words x37 x38 x39 x40 x41 x42 x43 x44 x45 x46 x47 w5 x49 x50 x51 w6 w7 Na_count Na_words Na_count_2 Na_words_2 x58 x59 x60 x61 x62 x63 x64 x65 x66 x67 ++ t) (Dv (none) (wlX g ad x0 x1 x2 x3 x4 x5 x6 x7 x8 x9 x10 x11 x12 x13 x14 x15 x16 x17 x18 x19 x20 x21 x22 x23 o.1 o.2.1 o.2.2.1 o.2.2.2.1 o.2.2.2.2.1 x29 x30 x31 x32 To_kinds To_starts To_numbers To_words x37 x38 x39 x40 x41 x42 x43 x44 x45 x46 x47 o.2.2.2.2.2.1 x49 x50 x51 o.2.2.2.2.2.2.1 o.2.2.2.2.2.2.2 Na_count Na_words Na_count_2 Na_words_2 x58 x59 x60 x61 x62 x63 x64 x65 x66 x67 ++ t)))) (ih_4 : (∀ {w0 : Int32} {w1 : Int32} {w2 : Int32} {w3 : Int32} {w4 : Int32} {w5 : Int32} {w6 : Nat → Int32} {w7 : Nat → Int32} {o : Int32 × Int32 × Int32 × Int32 × Int32 × Int32 × (Nat → Int32) × (Nat → Int32)} {t : va_W}, rec 4 0 0 (w0, w1, w2, w3, w4, w5, w6, w7) = some o → Ct g mX4_readSum (7 + D) 0 0 [.ref (ad 33)] (wlX g ad x0 x1 x2 x3 x4 x5 x6 x7 x8 x9 x10 x11 x12 x13 x14 x15 x16 x17 x18 x19 x20 x21 x22 x23 w0 w1 w2 w3 w4 x29 x30 x31 x32 To_kinds To_starts To_numbers To_words x37 x38 x39 x40 x41 x42 x43 x44 x45 x46 x47 w5 x49 x50 x51 w6 w7 Na_count Na_words Na_count_2 Na_words_2 x58 x59 x60 x61 x62 x63 x64 x65 x66 x67 ++ t) (Dv (none) (wlX g ad x0 x1 x2 x3 x4 x5 x6 x7 x8 x9 x10 x11 x12 x13 x14 x15 x16 x17 x18 x19 x20 x21 x22 x23 o.1 o.2.1 o.2.2.1 o.2.2.2.1 o.2.2.2.2.1 x29 x30 x31 x32 To_kinds To_starts To_numbers To_words x37 x38 x39 x40 x41 x42 x43 x44 x45 x46 x47 o.2.2.2.2.2.1 x49 x50 x51 o.2.2.2.2.2.2.1 o.2.2.2.2.2.2.2 Na_count Na_words Na_count_2 Na_words_2 x58 x59 x60 x61 x62 x63 x64 x65 x66 x67 ++ t)))) (ih_5 : (∀ {w0 : Int32} {w1 : Int32} {w2 : Int32} {w3 : Int32} {w4 : Int32} {w5 : Int32} {w6 : Nat → Int32} {w7 : Nat → Int32} {o : Int32 × Int32 × Int32 × Int32 × Int32 × Int32 × (Nat → Int32) × (Nat → Int32)} {t : va_W}, rec 5 0 0 (w0, w1, w2, w3, w4, w5, w6, w7) = some o → Ct g mX4_readProduct (7 + D) 0 0 [.ref (ad 33)] (wlX g ad x0 x1 x2 x3 x4 x5 x6 x7 x8 x9 x10 x11 x12 x13 x14 x15 x16 x17 x18 x19 x20 x21 x22 x23 w0 w1 w2 w3 w4 x29 x30 x31 x32 To_kinds To_starts To_numbers To_words x37 x38 x39 x40 x41 x42 x43 x44 x45 x46 x47 w5 x49 x50 x51 w6 w7 Na_count Na_words Na_count_2 Na_words_2 x58 x59 x60 x61 x62 x63 x64 x65 x66 x67 ++ t) (Dv (none) (wlX g ad x0 x1 x2 x3 x4 x5 x6 x7 x8 x9 x10 x11 x12 x13 x14 x15 x16 x17 x18 x19 x20 x21 x22 x23 o.1 o.2.1 o.2.2.1 o.2.2.2.1 o.2.2.2.2.1 x29 x30 x31 x32 To_kinds To_starts To_numbers To_words x37 x38 x39 x40 x41 x42 x43 x44 x45 x46 x47 o.2.2.2.2.2.1 x49 x50 x51 o.2.2.2.2.2.2.1 o.2.2.2.2.2.2.2 Na_count Na_words Na_count_2 Na_words_2 x58 x59 x60 x61 x62 x63 x64 x65 x66 x67 ++ t)))) (ih_6 : (∀ {w0 : Int32} {w1 : Int32} {w2 : Int32} {w3 : Int32} {w4 : Int32} {w5 : Int32} {w6 : Nat → Int32} {w7 : Nat → Int32} {o : Int32 × Int32 × Int32 × Int32 × Int32 × Int32 × (Nat → Int32) × (Nat → Int32)} {t : va_W}, rec 6 0 0 (w0, w1, w2, w3, w4, w5, w6, w7) = some o → Ct g mX4_readValue (7 + D) 0 0 [.ref (ad 33)] (wlX g ad x0 x1 x2 x3 x4 x5 x6 x7 x8 x9 x10 x11 x12 x13 x14 x15 x16 x17 x18 x19 x20 x21 x22 x23 w0 w1 w2 w3 w4 x29 x30 x31 x32 To_kinds To_starts To_numbers To_words x37 x38 x39 x40 x41 x42 x43 x44 x45 x46 x47 w5 x49 x50 x51 w6 w7 Na_count Na_words Na_count_2 Na_words_2 x58 x59 x60 x61 x62 x63 x64 x65 x66 x67 ++ t) (Dv (none) (wlX g ad x0 x1 x2 x3 x4 x5 x6 x7 x8 x9 x10 x11 x12 x13 x14 x15 x16 x17 x18 x19 x20 x21 x22 x23 o.1 o.2.1 o.2.2.1 o.2.2.2.1 o.2.2.2.2.1 x29 x30 x31 x32 To_kinds To_starts To_numbers To_words x37 x38 x39 x40 x41 x42 x43 x44 x45 x46 x47 o.2.2.2.2.2.1 x49 x50 x51 o.2.2.2.2.2.2.1 o.2.2.2.2.2.2.2 Na_count Na_words Na_count_2 Na_words_2 x58 x59 x60 x61 x62 x63 x64 x65 x66 x67 ++ t)))) (ih_7 : (∀ {w0 : Int32} {w1 : Int32} {w2 : Int32} {w3 : Int32} {w4 : Int32} {w5 : Int32} {w6 : Nat → Int32} {w7 : Nat → Int32} {o : Int32 × Int32 × Int32 × Int32 × Int32 × Int32 × (Nat → Int32) × (Nat → Int32)} {t : va_W}, rec 7 0 0 (w0, w1, w2, w3, w4, w5, w6, w7) = some o → Ct g mX4_readTwoSums (7 + D) 0 0 [.ref (ad 33)] (wlX g ad x0 x1 x2 x3 x4 x5 x6 x7 x8 x9 x10 x11 x12 x13 x14 x15 x16 x17 x18 x19 x20 x21 x22 x23 w0 w1 w2 w3 w4 x29 x30 x31 x32 To_kinds To_starts To_numbers To_words x37 x38 x39 x40 x41 x42 x43 x44 x45 x46 x47 w5 x49 x50 x51 w6 w7 Na_count Na_words Na_count_2 Na_words_2 x58 x59 x60 x61 x62 x63 x64 x65 x66 x67 ++ t) (Dv (none) (wlX g ad x0 x1 x2 x3 x4 x5 x6 x7 x8 x9 x10 x11 x12 x13 x14 x15 x16 x17 x18 x19 x20 x21 x22 x23 o.1 o.2.1 o.2.2.1 o.2.2.2.1 o.2.2.2.2.1 x29 x30 x31 x32 To_kinds To_starts To_numbers To_words x37 x38 x39 x40 x41 x42 x43 x44 x45 x46 x47 o.2.2.2.2.2.1 x49 x50 x51 o.2.2.2.2.2.2.1 o.2.2.2.2.2.2.2 Na_count Na_words Na_count_2 Na_words_2 x58 x59 x60 x61 x62 x63 x64 x65 x66 x67 ++ t)))) {o : Int32 × Int32 × Int32 × Int32 × Int32 × Int32 × (Nat → Int32) × (Nat → Int32)} {Q : Rs → va_W → Prop} (h : f_Re_readProduct N rec Re_at Re_kind Re_depth Re_error Re_errorPlace To_kinds To_starts To_numbers To_words Or_stepCount Or_stepKinds Or_stepParts Na_count Na_words Na_count_2 Na_words_2 = some o) (hq : Q (.inl (none)) (wlX g ad x0 x1 x2 x3 x4 x5 x6 x7 x8 x9 x10 x11 x12 x13 x14 x15 x16 x17 x18 x19 x20 x21 x22 x23 o.1 o.2.1 o.2.2.1 o.2.2.2.1 o.2.2.2.2.1 x29 x30 x31 x32 To_kinds To_starts To_numbers To_words x37 x38 x39 x40 x41 x42 x43 x44 x45 x46 x47 o.2.2.2.2.2.1 x49 x50 x51 o.2.2.2.2.2.2.1 o.2.2.2.2.2.2.2 Na_count Na_words Na_count_2 Na_words_2 x58 x59 x60 x61 x62 x63 x64 x65 x66 x67 ++ t)) : R g mX4_readProduct (7 + (D + 1)) 0 0 0 [(0, .ref (ad 33))] [] (wlX g ad x0 x1 x2 x3 x4 x5 x6 x7 x8 x9 x10 x11 x12 x13 x14 x15 x16 x17 x18 x19 x20 x21 x22 x23 Re_at Re_kind Re_depth Re_error Re_errorPlace x29 x30 x31 x32 To_kinds To_starts To_numbers To_words x37 x38 x39 x40 x41 x42 x43 x44 x45 x46 x47 Or_stepCount x49 x50 x51 Or_stepKinds Or_stepParts Na_count Na_words Na_count_2 Na_words_2 x58 x59 x60 x61 x62 x63 x64 x65 x66 x67 ++ t) Q := by
  unfold f_Re_readProduct at h
  refine r_aload_n 0 dX4_readProduct_0 rfl ?_
  obtain ⟨r170, hc171, h⟩ := ob (fun z9 => z9) rfl h
  refine c_Vv (rest := []) 0 0 _ dX4_readProduct_1 kv_X4_188 (ih_6 hc171) rfl rfl lX_33 rfl (Nat.le_of_ble_eq_true rfl) (Nat.le_refl _) (by decide) ?_
  refine r_iconst (v := (0 : Int32)) dX4_readProduct_4 (by decide) ?_
  refine r_istore_n [(1, .int (0 : Int32)), (0, .ref (ad 33))] dX4_readProduct_5 (by decide) rfl ?_
  refine r_ls [1, 0] (ls2 := [(0, .ref (ad 33)), (1, .int (0 : Int32))]) rfl ?_
  have L1 : ∀ (n1 : Nat) (l1_1 : Int32) (Re_at_1 : Int32) (Re_kind_1 : Int32) (Re_depth_1 : Int32) (Re_error_1 : Int32) (Re_errorPlace_1 : Int32) (Or_stepCount_1 : Int32) (Or_stepKinds_1 : Nat → Int32) (Or_stepParts_1 : Nat → Int32), (fun z9 => z9) (lpS (f_Re_readProduct_L6 To_kinds rec) none n1 (l1_1, Re_at_1, Re_kind_1, Re_depth_1, Re_error_1, Re_errorPlace_1, Or_stepCount_1, Or_stepKinds_1, Or_stepParts_1)) = some o → R g mX4_readProduct (7 + (D + 1)) 0 0 6 [(0, .ref (ad 33)), (1, .int l1_1)] [] (wlX g ad x0 x1 x2 x3 x4 x5 x6 x7 x8 x9 x10 x11 x12 x13 x14 x15 x16 x17 x18 x19 x20 x21 x22 x23 Re_at_1 Re_kind_1 Re_depth_1 Re_error_1 Re_errorPlace_1 x29 x30 x31 x32 To_kinds To_starts To_numbers To_words x37 x38 x39 x40 x41 x42 x43 x44 x45 x46 x47 Or_stepCount_1 x49 x50 x51 Or_stepKinds_1 Or_stepParts_1 Na_count Na_words Na_count_2 Na_words_2 x58 x59 x60 x61 x62 x63 x64 x65 x66 x67 ++ t) Q := by
    intro n1
    induction n1 with
    | zero => intro l1_1 Re_at_1 Re_kind_1 Re_depth_1 Re_error_1 Re_errorPlace_1 Or_stepCount_1 Or_stepKinds_1 Or_stepParts_1 h; exact nomatch (show (none : Option _) = some _ from h)
    | succ n1 ih1 =>
      intro l1_1 Re_at_1 Re_kind_1 Re_depth_1 Re_error_1 Re_errorPlace_1 Or_stepCount_1 Or_stepKinds_1 Or_stepParts_1 h
      have h : (fun z9 => (lC (f_Re_readProduct_L6 To_kinds rec) none n1 z9)) (f_Re_readProduct_L6 To_kinds rec (l1_1, Re_at_1, Re_kind_1, Re_depth_1, Re_error_1, Re_errorPlace_1, Or_stepCount_1, Or_stepKinds_1, Or_stepParts_1)) = some o := h
      unfold f_Re_readProduct_L6 at h
      try dsimp only at h
      refine r_iload_n 1 dX4_readProduct_6 rfl ?_
      refine r_sipush (v := (400 : Int32)) dX4_readProduct_7 (by decide) ?_
      refine r_icmp_ge (tgt := 62) dX4_readProduct_10 (by decide) (fun hc172 => ?_) (fun hc172 => ?_)
      · have h := ip (fun z9 => (lC (f_Re_readProduct_L6 To_kinds rec) none n1 z9)) hc172 h
        refine r_vret dX4_readProduct_62 rfl ?_
        have h := Option.some.inj (show some _ = some o from h)
        subst h
        exact hq
      · have h := iq (fun z9 => (lC (f_Re_readProduct_L6 To_kinds rec) none n1 z9)) hc172 h
        refine r_aload_n 0 dX4_readProduct_13 rfl ?_
        refine r_getf (v := .int Re_kind_1) _ dX4_readProduct_14 fl_X4_42 lX_33 rfl ?_
        refine r_bipush (v := (42 : Int32)) dX4_readProduct_17 (by decide) ?_
        refine r_icmp_eq (tgt := 31) dX4_readProduct_19 (by decide) (fun hc173 => ?_) (fun hc173 => ?_)
        · have h := ip (fun z9 => (lC (f_Re_readProduct_L6 To_kinds rec) none n1 z9)) hc173 h
          refine r_aload_n 0 dX4_readProduct_31 rfl ?_
          refine r_getf (v := .int Re_kind_1) _ dX4_readProduct_32 fl_X4_42 lX_33 rfl ?_
          refine r_istore_n [(2, .int Re_kind_1), (0, .ref (ad 33)), (1, .int l1_1)] dX4_readProduct_35 (by decide) rfl ?_
          refine r_aload_n 1 dX4_readProduct_36 rfl ?_
          obtain ⟨r174, hc175, h⟩ := ob (fun z9 => (lC (f_Re_readProduct_L6 To_kinds rec) none n1 z9)) rfl h
          refine c_Vv (rest := []) 0 0 _ dX4_readProduct_37 kv_X4_105 (ct_Re_advance hc175) rfl rfl lX_33 rfl (Nat.le_of_ble_eq_true rfl) (dl (by decide)) (by decide) ?_
          refine r_aload_n 1 dX4_readProduct_40 rfl ?_
          obtain ⟨r176, hc177, h⟩ := ob (fun z9 => (lC (f_Re_readProduct_L6 To_kinds rec) none n1 z9)) rfl h
          refine c_Vv (rest := []) 0 0 _ dX4_readProduct_41 kv_X4_188 (ih_6 hc177) rfl rfl lX_33 rfl (Nat.le_of_ble_eq_true rfl) (Nat.le_refl _) (by decide) ?_
          refine r_aload_n 1 dX4_readProduct_44 rfl ?_
          refine r_getf (v := .ref (ad 44)) _ dX4_readProduct_45 fl_X4_23 lX_33 rfl ?_
          refine r_getf (v := .ref (ad 56)) _ dX4_readProduct_48 fl_X4_151 lX_44 rfl ?_
          refine r_iload_n 0 dX4_readProduct_51 rfl ?_
          refine r_iconst (v := (0 : Int32)) dX4_readProduct_52 (by decide) ?_
          obtain ⟨r178, hc179, h⟩ := ob (fun z9 => (lC (f_Re_readProduct_L6 To_kinds rec) none n1 z9)) rfl h
          refine c_Vv (rest := []) 0 0 _ dX4_readProduct_53 kv_X4_167 (ct_Or_addStep hc179) rfl rfl lX_56 rfl (Nat.le_of_ble_eq_true rfl) (dl (by decide)) (by decide) ?_
          refine r_iinc (v2 := (l1_1 + (1 : Int32))) 2 [(1, .int (l1_1 + (1 : Int32))), (2, .int Re_kind_1), (0, .ref (ad 33))] dX4_readProduct_56 rfl rfl (by decide) rfl ?_
          refine r_goto (tgt := 6) dX4_readProduct_59 (by decide) ?_
          refine r_ls [2, 0] (ls2 := [(0, .ref (ad 33)), (1, .int (l1_1 + (1 : Int32)))]) rfl ?_
          exact ih1 (l1_1 + (1 : Int32)) r176.1 r176.2.1 r176.2.2.1 r176.2.2.2.1 r176.2.2.2.2.1 r178.1 r178.2.1 r178.2.2 h
        · have h := iq (fun z9 => (lC (f_Re_readProduct_L6 To_kinds rec) none n1 z9)) hc173 h
          refine r_aload_n 0 dX4_readProduct_22 rfl ?_
          refine r_getf (v := .int Re_kind_1) _ dX4_readProduct_23 fl_X4_42 lX_33 rfl ?_
          refine r_bipush (v := (47 : Int32)) dX4_readProduct_26 (by decide) ?_
          refine r_icmp_ne (tgt := 62) dX4_readProduct_28 (by decide) (fun hc180 => ?_) (fun hc180 => ?_)
          · have h := iq (fun z9 => (lC (f_Re_readProduct_L6 To_kinds rec) none n1 z9)) hc180 h
            refine r_vret dX4_readProduct_62 rfl ?_
            have h := Option.some.inj (show some _ = some o from h)
            subst h
            exact hq
          · have h := ip (fun z9 => (lC (f_Re_readProduct_L6 To_kinds rec) none n1 z9)) hc180 h
            refine r_aload_n 0 dX4_readProduct_31 rfl ?_
            refine r_getf (v := .int Re_kind_1) _ dX4_readProduct_32 fl_X4_42 lX_33 rfl ?_
            refine r_istore_n [(2, .int Re_kind_1), (0, .ref (ad 33)), (1, .int l1_1)] dX4_readProduct_35 (by decide) rfl ?_
            refine r_aload_n 1 dX4_readProduct_36 rfl ?_
            obtain ⟨r181, hc182, h⟩ := ob (fun z9 => (lC (f_Re_readProduct_L6 To_kinds rec) none n1 z9)) rfl h
            refine c_Vv (rest := []) 0 0 _ dX4_readProduct_37 kv_X4_105 (ct_Re_advance hc182) rfl rfl lX_33 rfl (Nat.le_of_ble_eq_true rfl) (dl (by decide)) (by decide) ?_
            refine r_aload_n 1 dX4_readProduct_40 rfl ?_
            obtain ⟨r183, hc184, h⟩ := ob (fun z9 => (lC (f_Re_readProduct_L6 To_kinds rec) none n1 z9)) rfl h
            refine c_Vv (rest := []) 0 0 _ dX4_readProduct_41 kv_X4_188 (ih_6 hc184) rfl rfl lX_33 rfl (Nat.le_of_ble_eq_true rfl) (Nat.le_refl _) (by decide) ?_
            refine r_aload_n 1 dX4_readProduct_44 rfl ?_
            refine r_getf (v := .ref (ad 44)) _ dX4_readProduct_45 fl_X4_23 lX_33 rfl ?_
            refine r_getf (v := .ref (ad 56)) _ dX4_readProduct_48 fl_X4_151 lX_44 rfl ?_
            refine r_iload_n 0 dX4_readProduct_51 rfl ?_
            refine r_iconst (v := (0 : Int32)) dX4_readProduct_52 (by decide) ?_
            obtain ⟨r185, hc186, h⟩ := ob (fun z9 => (lC (f_Re_readProduct_L6 To_kinds rec) none n1 z9)) rfl h
            refine c_Vv (rest := []) 0 0 _ dX4_readProduct_53 kv_X4_167 (ct_Or_addStep hc186) rfl rfl lX_56 rfl (Nat.le_of_ble_eq_true rfl) (dl (by decide)) (by decide) ?_
            refine r_iinc (v2 := (l1_1 + (1 : Int32))) 2 [(1, .int (l1_1 + (1 : Int32))), (2, .int Re_kind_1), (0, .ref (ad 33))] dX4_readProduct_56 rfl rfl (by decide) rfl ?_
            refine r_goto (tgt := 6) dX4_readProduct_59 (by decide) ?_
            refine r_ls [2, 0] (ls2 := [(0, .ref (ad 33)), (1, .int (l1_1 + (1 : Int32)))]) rfl ?_
            exact ih1 (l1_1 + (1 : Int32)) r183.1 r183.2.1 r183.2.2.1 r183.2.2.2.1 r183.2.2.2.2.1 r185.1 r185.2.1 r185.2.2 h
  exact L1 _ (0 : Int32) r170.1 r170.2.1 r170.2.2.1 r170.2.2.2.1 r170.2.2.2.2.1 r170.2.2.2.2.2.1 r170.2.2.2.2.2.2.1 r170.2.2.2.2.2.2.2 h
set_option maxRecDepth 20000 in
set_option maxHeartbeats 4000000 in
theorem rt_Re_readValue {g : GG} {ad : Nat → Nat} {t : va_W} {x0 x1 x3 x4 x5 x11 x12 x18 x19 x20 x29 x30 x31 x37 x39 x40 x41 x47 x58 x59 x60 x61 x63 x64 x65 x66 : Int32} {x2 x6 x7 x8 x9 x10 x13 x14 x15 x16 x17 x21 x22 x23 x42 x43 x44 x45 x46 x49 x50 x51 x62 x67 : Nat → Int32} {x32 : Int64} {x38 : Nat → Int64} {N : Nat} {Re_at : Int32} {Re_kind : Int32} {Re_depth : Int32} {Re_error : Int32} {Re_errorPlace : Int32} {To_kinds : Nat → Int32} {To_starts : Nat → Int32} {To_numbers : Nat → Int32} {To_words : Nat → Int64} {Or_stepCount : Int32} {Or_stepKinds : Nat → Int32} {Or_stepParts : Nat → Int32} {Na_count : Int32} {Na_words : Nat → Int64} {Na_count_2 : Int32} {Na_words_2 : Nat → Int64} {D : Nat} {rec : Nat → Int32 → Int32 → (Int32 × Int32 × Int32 × Int32 × Int32 × Int32 × (Nat → Int32) × (Nat → Int32)) → Option (Int32 × Int32 × Int32 × Int32 × Int32 × Int32 × (Nat → Int32) × (Nat → Int32))} (ih_0 : (∀ {w0 : Int32} {w1 : Int32} {w2 : Int32} {w3 : Int32} {w4 : Int32} {w5 : Int32} {w6 : Nat → Int32} {w7 : Nat → Int32} {o : Int32 × Int32 × Int32 × Int32 × Int32 × Int32 × (Nat → Int32) × (Nat → Int32)} {t : va_W}, rec 0 0 0 (w0, w1, w2, w3, w4, w5, w6, w7) = some o → Ct g mX4_readTest (7 + D) 0 0 [.ref (ad 33)] (wlX g ad x0 x1 x2 x3 x4 x5 x6 x7 x8 x9 x10 x11 x12 x13 x14 x15 x16 x17 x18 x19 x20 x21 x22 x23 w0 w1 w2 w3 w4 x29 x30 x31 x32 To_kinds To_starts To_numbers To_words x37 x38 x39 x40 x41 x42 x43 x44 x45 x46 x47 w5 x49 x50 x51 w6 w7 Na_count Na_words Na_count_2 Na_words_2 x58 x59 x60 x61 x62 x63 x64 x65 x66 x67 ++ t) (Dv (none) (wlX g ad x0 x1 x2 x3 x4 x5 x6 x7 x8 x9 x10 x11 x12 x13 x14 x15 x16 x17 x18 x19 x20 x21 x22 x23 o.1 o.2.1 o.2.2.1 o.2.2.2.1 o.2.2.2.2.1 x29 x30 x31 x32 To_kinds To_starts To_numbers To_words x37 x38 x39 x40 x41 x42 x43 x44 x45 x46 x47 o.2.2.2.2.2.1 x49 x50 x51 o.2.2.2.2.2.2.1 o.2.2.2.2.2.2.2 Na_count Na_words Na_count_2 Na_words_2 x58 x59 x60 x61 x62 x63 x64 x65 x66 x67 ++ t)))) (ih_1 : (∀ {w0 : Int32} {w1 : Int32} {w2 : Int32} {w3 : Int32} {w4 : Int32} {w5 : Int32} {w6 : Nat → Int32} {w7 : Nat → Int32} {o : Int32 × Int32 × Int32 × Int32 × Int32 × Int32 × (Nat → Int32) × (Nat → Int32)} {t : va_W}, rec 1 0 0 (w0, w1, w2, w3, w4, w5, w6, w7) = some o → Ct g mX4_readBoth (7 + D) 0 0 [.ref (ad 33)] (wlX g ad x0 x1 x2 x3 x4 x5 x6 x7 x8 x9 x10 x11 x12 x13 x14 x15 x16 x17 x18 x19 x20 x21 x22 x23 w0 w1 w2 w3 w4 x29 x30 x31 x32 To_kinds To_starts To_numbers To_words x37 x38 x39 x40 x41 x42 x43 x44 x45 x46 x47 w5 x49 x50 x51 w6 w7 Na_count Na_words Na_count_2 Na_words_2 x58 x59 x60 x61 x62 x63 x64 x65 x66 x67 ++ t) (Dv (none) (wlX g ad x0 x1 x2 x3 x4 x5 x6 x7 x8 x9 x10 x11 x12 x13 x14 x15 x16 x17 x18 x19 x20 x21 x22 x23 o.1 o.2.1 o.2.2.1 o.2.2.2.1 o.2.2.2.2.1 x29 x30 x31 x32 To_kinds To_starts To_numbers To_words x37 x38 x39 x40 x41 x42 x43 x44 x45 x46 x47 o.2.2.2.2.2.1 x49 x50 x51 o.2.2.2.2.2.2.1 o.2.2.2.2.2.2.2 Na_count Na_words Na_count_2 Na_words_2 x58 x59 x60 x61 x62 x63 x64 x65 x66 x67 ++ t)))) (ih_2 : (∀ {w0 : Int32} {w1 : Int32} {w2 : Int32} {w3 : Int32} {w4 : Int32} {w5 : Int32} {w6 : Nat → Int32} {w7 : Nat → Int32} {o : Int32 × Int32 × Int32 × Int32 × Int32 × Int32 × (Nat → Int32) × (Nat → Int32)} {t : va_W}, rec 2 0 0 (w0, w1, w2, w3, w4, w5, w6, w7) = some o → Ct g mX4_readSingle (7 + D) 0 0 [.ref (ad 33)] (wlX g ad x0 x1 x2 x3 x4 x5 x6 x7 x8 x9 x10 x11 x12 x13 x14 x15 x16 x17 x18 x19 x20 x21 x22 x23 w0 w1 w2 w3 w4 x29 x30 x31 x32 To_kinds To_starts To_numbers To_words x37 x38 x39 x40 x41 x42 x43 x44 x45 x46 x47 w5 x49 x50 x51 w6 w7 Na_count Na_words Na_count_2 Na_words_2 x58 x59 x60 x61 x62 x63 x64 x65 x66 x67 ++ t) (Dv (none) (wlX g ad x0 x1 x2 x3 x4 x5 x6 x7 x8 x9 x10 x11 x12 x13 x14 x15 x16 x17 x18 x19 x20 x21 x22 x23 o.1 o.2.1 o.2.2.1 o.2.2.2.1 o.2.2.2.2.1 x29 x30 x31 x32 To_kinds To_starts To_numbers To_words x37 x38 x39 x40 x41 x42 x43 x44 x45 x46 x47 o.2.2.2.2.2.1 x49 x50 x51 o.2.2.2.2.2.2.1 o.2.2.2.2.2.2.2 Na_count Na_words Na_count_2 Na_words_2 x58 x59 x60 x61 x62 x63 x64 x65 x66 x67 ++ t)))) (ih_3 : (∀ {w0 : Int32} {w1 : Int32} {w2 : Int32} {w3 : Int32} {w4 : Int32} {w5 : Int32} {w6 : Nat → Int32} {w7 : Nat → Int32} {o : Int32 × Int32 × Int32 × Int32 × Int32 × Int32 × (Nat → Int32) × (Nat → Int32)} {t : va_W}, rec 3 0 0 (w0, w1, w2, w3, w4, w5, w6, w7) = some o → Ct g mX4_readCompared (7 + D) 0 0 [.ref (ad 33)] (wlX g ad x0 x1 x2 x3 x4 x5 x6 x7 x8 x9 x10 x11 x12 x13 x14 x15 x16 x17 x18 x19 x20 x21 x22 x23 w0 w1 w2 w3 w4 x29 x30 x31 x32 To_kinds To_starts To_numbers To_words x37 x38 x39 x40 x41 x42 x43 x44 x45 x46 x47 w5 x49 x50 x51 w6 w7 Na_count Na_words Na_count_2 Na_words_2 x58 x59 x60 x61 x62 x63 x64 x65 x66 x67 ++ t) (Dv (none) (wlX g ad x0 x1 x2 x3 x4 x5 x6 x7 x8 x9 x10 x11 x12 x13 x14 x15 x16 x17 x18 x19 x20 x21 x22 x23 o.1 o.2.1 o.2.2.1 o.2.2.2.1 o.2.2.2.2.1 x29 x30 x31 x32 To_kinds To_starts To_numbers To_words x37 x38 x39 x40 x41 x42 x43 x44 x45 x46 x47 o.2.2.2.2.2.1 x49 x50 x51 o.2.2.2.2.2.2.1 o.2.2.2.2.2.2.2 Na_count Na_words Na_count_2 Na_words_2 x58 x59 x60 x61 x62 x63 x64 x65 x66 x67 ++ t)))) (ih_4 : (∀ {w0 : Int32} {w1 : Int32} {w2 : Int32} {w3 : Int32} {w4 : Int32} {w5 : Int32} {w6 : Nat → Int32} {w7 : Nat → Int32} {o : Int32 × Int32 × Int32 × Int32 × Int32 × Int32 × (Nat → Int32) × (Nat → Int32)} {t : va_W}, rec 4 0 0 (w0, w1, w2, w3, w4, w5, w6, w7) = some o → Ct g mX4_readSum (7 + D) 0 0 [.ref (ad 33)] (wlX g ad x0 x1 x2 x3 x4 x5 x6 x7 x8 x9 x10 x11 x12 x13 x14 x15 x16 x17 x18 x19 x20 x21 x22 x23 w0 w1 w2 w3 w4 x29 x30 x31 x32 To_kinds To_starts To_numbers To_words x37 x38 x39 x40 x41 x42 x43 x44 x45 x46 x47 w5 x49 x50 x51 w6 w7 Na_count Na_words Na_count_2 Na_words_2 x58 x59 x60 x61 x62 x63 x64 x65 x66 x67 ++ t) (Dv (none) (wlX g ad x0 x1 x2 x3 x4 x5 x6 x7 x8 x9 x10 x11 x12 x13 x14 x15 x16 x17 x18 x19 x20 x21 x22 x23 o.1 o.2.1 o.2.2.1 o.2.2.2.1 o.2.2.2.2.1 x29 x30 x31 x32 To_kinds To_starts To_numbers To_words x37 x38 x39 x40 x41 x42 x43 x44 x45 x46 x47 o.2.2.2.2.2.1 x49 x50 x51 o.2.2.2.2.2.2.1 o.2.2.2.2.2.2.2 Na_count Na_words Na_count_2 Na_words_2 x58 x59 x60 x61 x62 x63 x64 x65 x66 x67 ++ t)))) (ih_5 : (∀ {w0 : Int32} {w1 : Int32} {w2 : Int32} {w3 : Int32} {w4 : Int32} {w5 : Int32} {w6 : Nat → Int32} {w7 : Nat → Int32} {o : Int32 × Int32 × Int32 × Int32 × Int32 × Int32 × (Nat → Int32) × (Nat → Int32)} {t : va_W}, rec 5 0 0 (w0, w1, w2, w3, w4, w5, w6, w7) = some o → Ct g mX4_readProduct (7 + D) 0 0 [.ref (ad 33)] (wlX g ad x0 x1 x2 x3 x4 x5 x6 x7 x8 x9 x10 x11 x12 x13 x14 x15 x16 x17 x18 x19 x20 x21 x22 x23 w0 w1 w2 w3 w4 x29 x30 x31 x32 To_kinds To_starts To_numbers To_words x37 x38 x39 x40 x41 x42 x43 x44 x45 x46 x47 w5 x49 x50 x51 w6 w7 Na_count Na_words Na_count_2 Na_words_2 x58 x59 x60 x61 x62 x63 x64 x65 x66 x67 ++ t) (Dv (none) (wlX g ad x0 x1 x2 x3 x4 x5 x6 x7 x8 x9 x10 x11 x12 x13 x14 x15 x16 x17 x18 x19 x20 x21 x22 x23 o.1 o.2.1 o.2.2.1 o.2.2.2.1 o.2.2.2.2.1 x29 x30 x31 x32 To_kinds To_starts To_numbers To_words x37 x38 x39 x40 x41 x42 x43 x44 x45 x46 x47 o.2.2.2.2.2.1 x49 x50 x51 o.2.2.2.2.2.2.1 o.2.2.2.2.2.2.2 Na_count Na_words Na_count_2 Na_words_2 x58 x59 x60 x61 x62 x63 x64 x65 x66 x67 ++ t)))) (ih_6 : (∀ {w0 : Int32} {w1 : Int32} {w2 : Int32} {w3 : Int32} {w4 : Int32} {w5 : Int32} {w6 : Nat → Int32} {w7 : Nat → Int32} {o : Int32 × Int32 × Int32 × Int32 × Int32 × Int32 × (Nat → Int32) × (Nat → Int32)} {t : va_W}, rec 6 0 0 (w0, w1, w2, w3, w4, w5, w6, w7) = some o → Ct g mX4_readValue (7 + D) 0 0 [.ref (ad 33)] (wlX g ad x0 x1 x2 x3 x4 x5 x6 x7 x8 x9 x10 x11 x12 x13 x14 x15 x16 x17 x18 x19 x20 x21 x22 x23 w0 w1 w2 w3 w4 x29 x30 x31 x32 To_kinds To_starts To_numbers To_words x37 x38 x39 x40 x41 x42 x43 x44 x45 x46 x47 w5 x49 x50 x51 w6 w7 Na_count Na_words Na_count_2 Na_words_2 x58 x59 x60 x61 x62 x63 x64 x65 x66 x67 ++ t) (Dv (none) (wlX g ad x0 x1 x2 x3 x4 x5 x6 x7 x8 x9 x10 x11 x12 x13 x14 x15 x16 x17 x18 x19 x20 x21 x22 x23 o.1 o.2.1 o.2.2.1 o.2.2.2.1 o.2.2.2.2.1 x29 x30 x31 x32 To_kinds To_starts To_numbers To_words x37 x38 x39 x40 x41 x42 x43 x44 x45 x46 x47 o.2.2.2.2.2.1 x49 x50 x51 o.2.2.2.2.2.2.1 o.2.2.2.2.2.2.2 Na_count Na_words Na_count_2 Na_words_2 x58 x59 x60 x61 x62 x63 x64 x65 x66 x67 ++ t)))) (ih_7 : (∀ {w0 : Int32} {w1 : Int32} {w2 : Int32} {w3 : Int32} {w4 : Int32} {w5 : Int32} {w6 : Nat → Int32} {w7 : Nat → Int32} {o : Int32 × Int32 × Int32 × Int32 × Int32 × Int32 × (Nat → Int32) × (Nat → Int32)} {t : va_W}, rec 7 0 0 (w0, w1, w2, w3, w4, w5, w6, w7) = some o → Ct g mX4_readTwoSums (7 + D) 0 0 [.ref (ad 33)] (wlX g ad x0 x1 x2 x3 x4 x5 x6 x7 x8 x9 x10 x11 x12 x13 x14 x15 x16 x17 x18 x19 x20 x21 x22 x23 w0 w1 w2 w3 w4 x29 x30 x31 x32 To_kinds To_starts To_numbers To_words x37 x38 x39 x40 x41 x42 x43 x44 x45 x46 x47 w5 x49 x50 x51 w6 w7 Na_count Na_words Na_count_2 Na_words_2 x58 x59 x60 x61 x62 x63 x64 x65 x66 x67 ++ t) (Dv (none) (wlX g ad x0 x1 x2 x3 x4 x5 x6 x7 x8 x9 x10 x11 x12 x13 x14 x15 x16 x17 x18 x19 x20 x21 x22 x23 o.1 o.2.1 o.2.2.1 o.2.2.2.1 o.2.2.2.2.1 x29 x30 x31 x32 To_kinds To_starts To_numbers To_words x37 x38 x39 x40 x41 x42 x43 x44 x45 x46 x47 o.2.2.2.2.2.1 x49 x50 x51 o.2.2.2.2.2.2.1 o.2.2.2.2.2.2.2 Na_count Na_words Na_count_2 Na_words_2 x58 x59 x60 x61 x62 x63 x64 x65 x66 x67 ++ t)))) {o : Int32 × Int32 × Int32 × Int32 × Int32 × Int32 × (Nat → Int32) × (Nat → Int32)} {Q : Rs → va_W → Prop} (h : f_Re_readValue N rec Re_at Re_kind Re_depth Re_error Re_errorPlace To_kinds To_starts To_numbers To_words Or_stepCount Or_stepKinds Or_stepParts Na_count Na_words Na_count_2 Na_words_2 = some o) (hq : Q (.inl (none)) (wlX g ad x0 x1 x2 x3 x4 x5 x6 x7 x8 x9 x10 x11 x12 x13 x14 x15 x16 x17 x18 x19 x20 x21 x22 x23 o.1 o.2.1 o.2.2.1 o.2.2.2.1 o.2.2.2.2.1 x29 x30 x31 x32 To_kinds To_starts To_numbers To_words x37 x38 x39 x40 x41 x42 x43 x44 x45 x46 x47 o.2.2.2.2.2.1 x49 x50 x51 o.2.2.2.2.2.2.1 o.2.2.2.2.2.2.2 Na_count Na_words Na_count_2 Na_words_2 x58 x59 x60 x61 x62 x63 x64 x65 x66 x67 ++ t)) : R g mX4_readValue (7 + (D + 1)) 0 0 0 [(0, .ref (ad 33))] [] (wlX g ad x0 x1 x2 x3 x4 x5 x6 x7 x8 x9 x10 x11 x12 x13 x14 x15 x16 x17 x18 x19 x20 x21 x22 x23 Re_at Re_kind Re_depth Re_error Re_errorPlace x29 x30 x31 x32 To_kinds To_starts To_numbers To_words x37 x38 x39 x40 x41 x42 x43 x44 x45 x46 x47 Or_stepCount x49 x50 x51 Or_stepKinds Or_stepParts Na_count Na_words Na_count_2 Na_words_2 x58 x59 x60 x61 x62 x63 x64 x65 x66 x67 ++ t) Q := by
  unfold f_Re_readValue at h
  refine r_aload_n 0 dX4_readValue_0 rfl ?_
  refine r_getf (v := .int Re_kind) _ dX4_readValue_1 fl_X4_42 lX_33 rfl ?_
  refine r_istore_n [(1, .int Re_kind), (0, .ref (ad 33))] dX4_readValue_4 (by decide) rfl ?_
  refine r_iload_n 0 dX4_readValue_5 rfl ?_
  by_cases hc187 : Re_kind = (40 : Int32)
  · have h := ip (fun z9 => z9) hc187 h
    refine r_lookup (tgt := 234) dX4_readValue_6 (by decide) (lo_hit (v := (40 : Int32)) (by decide) hc187) (by decide) ?_
    refine r_aload_n 1 dX4_readValue_234 rfl ?_
    obtain ⟨r197, hc198, h⟩ := ob (fun z9 => z9) rfl h
    refine c_V (rest := []) 0 0 _ dX4_readValue_235 kv_X4_173 (ct_Re_deepen hc198) rfl rfl lX_33 rfl (Nat.le_of_ble_eq_true rfl) (dl (by decide)) (by decide) ?_
    refine r_if_eq (tgt := 291) dX4_readValue_238 (by decide) (fun hc199 => ?_) (fun hc199 => ?_)
    · have h := ip (fun z9 => z9) hc199 h
      refine r_vret dX4_readValue_291 rfl ?_
      have h := Option.some.inj (show some _ = some o from h)
      subst h
      exact hq
    · have h := iq (fun z9 => z9) hc199 h
      refine r_aload_n 1 dX4_readValue_241 rfl ?_
      obtain ⟨r200, hc201, h⟩ := ob (fun z9 => z9) rfl h
      refine c_Vv (rest := []) 0 0 _ dX4_readValue_242 kv_X4_179 (ih_4 hc201) rfl rfl lX_33 rfl (Nat.le_of_ble_eq_true rfl) (Nat.le_refl _) (by decide) ?_
      refine r_aload_n 1 dX4_readValue_245 rfl ?_
      refine r_dup dX4_readValue_246 rfl ?_
      refine r_getf (v := .int r200.2.2.1) _ dX4_readValue_247 fl_X4_93 lX_33 rfl ?_
      refine r_iconst (v := (1 : Int32)) dX4_readValue_250 (by decide) ?_
      refine r_isub dX4_readValue_251 ?_
      refine r_putf _ dX4_readValue_252 fl_X4_93 lX_33 (Nat.le_of_ble_eq_true rfl) rfl rfl (sX_26 _) ?_
      refine r_aload_n 1 dX4_readValue_255 rfl ?_
      refine r_bipush (v := (41 : Int32)) dX4_readValue_256 (by decide) ?_
      obtain ⟨r202, hc203, h⟩ := ob (fun z9 => z9) rfl h
      refine c_Vv (rest := []) 0 0 _ dX4_readValue_258 kv_X4_62 (ct_Re_expect hc203) rfl rfl lX_33 rfl (Nat.le_of_ble_eq_true rfl) (dl (by decide)) (by decide) ?_
      refine r_goto (tgt := 291) dX4_readValue_261 (by decide) ?_
      refine r_vret dX4_readValue_291 rfl ?_
      have h := Option.some.inj (show some _ = some o from h)
      subst h
      exact hq
  have h := iq (fun z9 => z9) hc187 h
  by_cases hc188 : Re_kind = (45 : Int32)
  · have h := ip (fun z9 => z9) hc188 h
    refine r_lookup (tgt := 196) dX4_readValue_6 (by decide) (lo_cons (v := (40 : Int32)) (by decide) hc187 (lo_hit (v := (45 : Int32)) (by decide) hc188)) (by decide) ?_
    refine r_aload_n 1 dX4_readValue_196 rfl ?_
    obtain ⟨r204, hc205, h⟩ := ob (fun z9 => z9) rfl h
    refine c_V (rest := []) 0 0 _ dX4_readValue_197 kv_X4_173 (ct_Re_deepen hc205) rfl rfl lX_33 rfl (Nat.le_of_ble_eq_true rfl) (dl (by decide)) (by decide) ?_
    refine r_if_eq (tgt := 291) dX4_readValue_200 (by decide) (fun hc206 => ?_) (fun hc206 => ?_)
    · have h := ip (fun z9 => z9) hc206 h
      refine r_vret dX4_readValue_291 rfl ?_
      have h := Option.some.inj (show some _ = some o from h)
      subst h
      exact hq
    · have h := iq (fun z9 => z9) hc206 h
      refine r_aload_n 1 dX4_readValue_203 rfl ?_
      obtain ⟨r207, hc208, h⟩ := ob (fun z9 => z9) rfl h
      refine c_Vv (rest := []) 0 0 _ dX4_readValue_204 kv_X4_188 (ih_6 hc208) rfl rfl lX_33 rfl (Nat.le_of_ble_eq_true rfl) (Nat.le_refl _) (by decide) ?_
      refine r_aload_n 1 dX4_readValue_207 rfl ?_
      refine r_dup dX4_readValue_208 rfl ?_
      refine r_getf (v := .int r207.2.2.1) _ dX4_readValue_209 fl_X4_93 lX_33 rfl ?_
      refine r_iconst (v := (1 : Int32)) dX4_readValue_212 (by decide) ?_
      refine r_isub dX4_readValue_213 ?_
      refine r_putf _ dX4_readValue_214 fl_X4_93 lX_33 (Nat.le_of_ble_eq_true rfl) rfl rfl (sX_26 _) ?_
      refine r_aload_n 1 dX4_readValue_217 rfl ?_
      refine r_getf (v := .ref (ad 44)) _ dX4_readValue_218 fl_X4_23 lX_33 rfl ?_
      refine r_getf (v := .ref (ad 56)) _ dX4_readValue_221 fl_X4_151 lX_44 rfl ?_
      refine r_sipush (v := (134 : Int32)) dX4_readValue_224 (by decide) ?_
      refine r_iconst (v := (0 : Int32)) dX4_readValue_227 (by decide) ?_
      obtain ⟨r209, hc210, h⟩ := ob (fun z9 => z9) rfl h
      refine c_Vv (rest := []) 0 0 _ dX4_readValue_228 kv_X4_167 (ct_Or_addStep hc210) rfl rfl lX_56 rfl (Nat.le_of_ble_eq_true rfl) (dl (by decide)) (by decide) ?_
      refine r_goto (tgt := 291) dX4_readValue_231 (by decide) ?_
      refine r_vret dX4_readValue_291 rfl ?_
      have h := Option.some.inj (show some _ = some o from h)
      subst h
      exact hq
  have h := iq (fun z9 => z9) hc188 h
  by_cases hc189 : Re_kind = (131 : Int32)
  · have h := ip (fun z9 => z9) hc189 h
    refine r_lookup (tgt := 96) dX4_readValue_6 (by decide) (lo_cons (v := (40 : Int32)) (by decide) hc187 (lo_cons (v := (45 : Int32)) (by decide) hc188 (lo_hit (v := (131 : Int32)) (by decide) hc189))) (by decide) ?_
    refine r_aload_n 1 dX4_readValue_96 rfl ?_
    refine r_getf (v := .ref (ad 44)) _ dX4_readValue_97 fl_X4_23 lX_33 rfl ?_
    refine r_getf (v := .ref (ad 56)) _ dX4_readValue_100 fl_X4_151 lX_44 rfl ?_
    refine r_sipush (v := (131 : Int32)) dX4_readValue_103 (by decide) ?_
    refine r_aload_n 1 dX4_readValue_106 rfl ?_
    refine r_getf (v := .ref (ad 34)) _ dX4_readValue_107 fl_X4_14 lX_33 rfl ?_
    refine r_getf (v := .ref (ad 39)) _ dX4_readValue_110 fl_X4_148 lX_34 rfl ?_
    refine r_aload_n 1 dX4_readValue_113 rfl ?_
    refine r_getf (v := .int Re_at) _ dX4_readValue_114 fl_X4_80 lX_33 rfl ?_
    refine c_V (rest := [.int (131 : Int32), .ref (ad 56)]) 0 0 _ dX4_readValue_117 kv_X4_87 (ct_Row_get lX_39 lX_40 (Nat.le_of_ble_eq_true rfl)) rfl rfl lX_39 rfl (Nat.le_of_ble_eq_true rfl) (dl (by decide)) (by decide) ?_
    obtain ⟨r211, hc212, h⟩ := ob (fun z9 => z9) rfl h
    refine c_Vv (rest := []) 0 0 _ dX4_readValue_120 kv_X4_167 (ct_Or_addStep hc212) rfl rfl lX_56 rfl (Nat.le_of_ble_eq_true rfl) (dl (by decide)) (by decide) ?_
    refine r_aload_n 1 dX4_readValue_123 rfl ?_
    obtain ⟨r213, hc214, h⟩ := ob (fun z9 => z9) rfl h
    refine c_Vv (rest := []) 0 0 _ dX4_readValue_124 kv_X4_105 (ct_Re_advance hc214) rfl rfl lX_33 rfl (Nat.le_of_ble_eq_true rfl) (dl (by decide)) (by decide) ?_
    refine r_goto (tgt := 291) dX4_readValue_127 (by decide) ?_
    refine r_vret dX4_readValue_291 rfl ?_
    have h := Option.some.inj (show some _ = some o from h)
    subst h
    exact hq
  have h := iq (fun z9 => z9) hc189 h
  by_cases hc190 : Re_kind = (210 : Int32)
  · have h := ip (fun z9 => z9) hc190 h
    refine r_lookup (tgt := 130) dX4_readValue_6 (by decide) (lo_cons (v := (40 : Int32)) (by decide) hc187 (lo_cons (v := (45 : Int32)) (by decide) hc188 (lo_cons (v := (131 : Int32)) (by decide) hc189 (lo_hit (v := (210 : Int32)) (by decide) hc190)))) (by decide) ?_
    refine r_aload_n 1 dX4_readValue_130 rfl ?_
    refine r_getf (v := .ref (ad 44)) _ dX4_readValue_131 fl_X4_23 lX_33 rfl ?_
    refine r_getf (v := .ref (ad 56)) _ dX4_readValue_134 fl_X4_151 lX_44 rfl ?_
    refine r_iload_n 0 dX4_readValue_137 rfl ?_
    refine r_iconst (v := (0 : Int32)) dX4_readValue_138 (by decide) ?_
    obtain ⟨r215, hc216, h⟩ := ob (fun z9 => z9) rfl h
    refine c_Vv (rest := []) 0 0 _ dX4_readValue_139 kv_X4_167 (ct_Or_addStep hc216) rfl rfl lX_56 rfl (Nat.le_of_ble_eq_true rfl) (dl (by decide)) (by decide) ?_
    refine r_aload_n 1 dX4_readValue_142 rfl ?_
    obtain ⟨r217, hc218, h⟩ := ob (fun z9 => z9) rfl h
    refine c_Vv (rest := []) 0 0 _ dX4_readValue_143 kv_X4_105 (ct_Re_advance hc218) rfl rfl lX_33 rfl (Nat.le_of_ble_eq_true rfl) (dl (by decide)) (by decide) ?_
    refine r_goto (tgt := 291) dX4_readValue_146 (by decide) ?_
    refine r_vret dX4_readValue_291 rfl ?_
    have h := Option.some.inj (show some _ = some o from h)
    subst h
    exact hq
  have h := iq (fun z9 => z9) hc190 h
  by_cases hc191 : Re_kind = (211 : Int32)
  · have h := ip (fun z9 => z9) hc191 h
    refine r_lookup (tgt := 130) dX4_readValue_6 (by decide) (lo_cons (v := (40 : Int32)) (by decide) hc187 (lo_cons (v := (45 : Int32)) (by decide) hc188 (lo_cons (v := (131 : Int32)) (by decide) hc189 (lo_cons (v := (210 : Int32)) (by decide) hc190 (lo_hit (v := (211 : Int32)) (by decide) hc191))))) (by decide) ?_
    refine r_aload_n 1 dX4_readValue_130 rfl ?_
    refine r_getf (v := .ref (ad 44)) _ dX4_readValue_131 fl_X4_23 lX_33 rfl ?_
    refine r_getf (v := .ref (ad 56)) _ dX4_readValue_134 fl_X4_151 lX_44 rfl ?_
    refine r_iload_n 0 dX4_readValue_137 rfl ?_
    refine r_iconst (v := (0 : Int32)) dX4_readValue_138 (by decide) ?_
    obtain ⟨r219, hc220, h⟩ := ob (fun z9 => z9) rfl h
    refine c_Vv (rest := []) 0 0 _ dX4_readValue_139 kv_X4_167 (ct_Or_addStep hc220) rfl rfl lX_56 rfl (Nat.le_of_ble_eq_true rfl) (dl (by decide)) (by decide) ?_
    refine r_aload_n 1 dX4_readValue_142 rfl ?_
    obtain ⟨r221, hc222, h⟩ := ob (fun z9 => z9) rfl h
    refine c_Vv (rest := []) 0 0 _ dX4_readValue_143 kv_X4_105 (ct_Re_advance hc222) rfl rfl lX_33 rfl (Nat.le_of_ble_eq_true rfl) (dl (by decide)) (by decide) ?_
    refine r_goto (tgt := 291) dX4_readValue_146 (by decide) ?_
    refine r_vret dX4_readValue_291 rfl ?_
    have h := Option.some.inj (show some _ = some o from h)
    subst h
    exact hq
  have h := iq (fun z9 => z9) hc191 h
  by_cases hc192 : Re_kind = (212 : Int32)
  · have h := ip (fun z9 => z9) hc192 h
    refine r_lookup (tgt := 130) dX4_readValue_6 (by decide) (lo_cons (v := (40 : Int32)) (by decide) hc187 (lo_cons (v := (45 : Int32)) (by decide) hc188 (lo_cons (v := (131 : Int32)) (by decide) hc189 (lo_cons (v := (210 : Int32)) (by decide) hc190 (lo_cons (v := (211 : Int32)) (by decide) hc191 (lo_hit (v := (212 : Int32)) (by decide) hc192)))))) (by decide) ?_
    refine r_aload_n 1 dX4_readValue_130 rfl ?_
    refine r_getf (v := .ref (ad 44)) _ dX4_readValue_131 fl_X4_23 lX_33 rfl ?_
    refine r_getf (v := .ref (ad 56)) _ dX4_readValue_134 fl_X4_151 lX_44 rfl ?_
    refine r_iload_n 0 dX4_readValue_137 rfl ?_
    refine r_iconst (v := (0 : Int32)) dX4_readValue_138 (by decide) ?_
    obtain ⟨r223, hc224, h⟩ := ob (fun z9 => z9) rfl h
    refine c_Vv (rest := []) 0 0 _ dX4_readValue_139 kv_X4_167 (ct_Or_addStep hc224) rfl rfl lX_56 rfl (Nat.le_of_ble_eq_true rfl) (dl (by decide)) (by decide) ?_
    refine r_aload_n 1 dX4_readValue_142 rfl ?_
    obtain ⟨r225, hc226, h⟩ := ob (fun z9 => z9) rfl h
    refine c_Vv (rest := []) 0 0 _ dX4_readValue_143 kv_X4_105 (ct_Re_advance hc226) rfl rfl lX_33 rfl (Nat.le_of_ble_eq_true rfl) (dl (by decide)) (by decide) ?_
    refine r_goto (tgt := 291) dX4_readValue_146 (by decide) ?_
    refine r_vret dX4_readValue_291 rfl ?_
    have h := Option.some.inj (show some _ = some o from h)
    subst h
    exact hq
  have h := iq (fun z9 => z9) hc192 h
  by_cases hc193 : Re_kind = (214 : Int32)
  · have h := ip (fun z9 => z9) hc193 h
    refine r_lookup (tgt := 149) dX4_readValue_6 (by decide) (lo_cons (v := (40 : Int32)) (by decide) hc187 (lo_cons (v := (45 : Int32)) (by decide) hc188 (lo_cons (v := (131 : Int32)) (by decide) hc189 (lo_cons (v := (210 : Int32)) (by decide) hc190 (lo_cons (v := (211 : Int32)) (by decide) hc191 (lo_cons (v := (212 : Int32)) (by decide) hc192 (lo_hit (v := (214 : Int32)) (by decide) hc193))))))) (by decide) ?_
    refine r_aload_n 1 dX4_readValue_149 rfl ?_
    obtain ⟨r227, hc228, h⟩ := ob (fun z9 => z9) rfl h
    refine c_Vv (rest := []) 0 0 _ dX4_readValue_150 kv_X4_105 (ct_Re_advance hc228) rfl rfl lX_33 rfl (Nat.le_of_ble_eq_true rfl) (dl (by decide)) (by decide) ?_
    refine r_aload_n 1 dX4_readValue_153 rfl ?_
    refine r_sipush (v := (216 : Int32)) dX4_readValue_154 (by decide) ?_
    obtain ⟨r229, hc230, h⟩ := ob (fun z9 => z9) rfl h
    refine c_Vv (rest := []) 0 0 _ dX4_readValue_157 kv_X4_62 (ct_Re_expect hc230) rfl rfl lX_33 rfl (Nat.le_of_ble_eq_true rfl) (dl (by decide)) (by decide) ?_
    refine r_aload_n 1 dX4_readValue_160 rfl ?_
    refine r_getf (v := .ref (ad 44)) _ dX4_readValue_161 fl_X4_23 lX_33 rfl ?_
    refine r_getf (v := .ref (ad 56)) _ dX4_readValue_164 fl_X4_151 lX_44 rfl ?_
    refine r_iload_n 0 dX4_readValue_167 rfl ?_
    refine r_aload_n 1 dX4_readValue_168 rfl ?_
    refine r_iload_n 0 dX4_readValue_169 rfl ?_
    refine r_sipush (v := (214 : Int32)) dX4_readValue_170 (by decide) ?_
    refine r_icmp_ne (tgt := 183) dX4_readValue_173 (by decide) (fun hc231 => ?_) (fun hc231 => ?_)
    · have h := iq (fun z9 => z9) hc231 h
      refine r_aload_n 1 dX4_readValue_183 rfl ?_
      refine r_getf (v := .ref (ad 67)) _ dX4_readValue_184 fl_X4_32 lX_33 rfl ?_
      obtain ⟨r232, hc233, h⟩ := ob (fun z9 => z9) rfl h
      refine c_V (rest := [.int Re_kind, .ref (ad 56)]) 0 0 _ dX4_readValue_187 kv_X4_131 (ct_Re_readKnown hc233) rfl rfl lX_33 rfl (Nat.le_of_ble_eq_true rfl) (dl (by decide)) (by decide) ?_
      obtain ⟨r234, hc235, h⟩ := ob (fun z9 => z9) rfl h
      refine c_Vv (rest := []) 0 0 _ dX4_readValue_190 kv_X4_167 (ct_Or_addStep hc235) rfl rfl lX_56 rfl (Nat.le_of_ble_eq_true rfl) (dl (by decide)) (by decide) ?_
      refine r_goto (tgt := 291) dX4_readValue_193 (by decide) ?_
      refine r_vret dX4_readValue_291 rfl ?_
      have h := Option.some.inj (show some _ = some o from h)
      subst h
      exact hq
    · have h := ip (fun z9 => z9) hc231 h
      refine r_aload_n 1 dX4_readValue_176 rfl ?_
      refine r_getf (v := .ref (ad 69)) _ dX4_readValue_177 fl_X4_36 lX_33 rfl ?_
      refine r_goto (tgt := 187) dX4_readValue_180 (by decide) ?_
      obtain ⟨r236, hc237, h⟩ := ob (fun z9 => z9) rfl h
      refine c_V (rest := [.int Re_kind, .ref (ad 56)]) 0 0 _ dX4_readValue_187 kv_X4_131 (ct_Re_readKnown_v1 hc237) rfl rfl lX_33 rfl (Nat.le_of_ble_eq_true rfl) (dl (by decide)) (by decide) ?_
      obtain ⟨r238, hc239, h⟩ := ob (fun z9 => z9) rfl h
      refine c_Vv (rest := []) 0 0 _ dX4_readValue_190 kv_X4_167 (ct_Or_addStep hc239) rfl rfl lX_56 rfl (Nat.le_of_ble_eq_true rfl) (dl (by decide)) (by decide) ?_
      refine r_goto (tgt := 291) dX4_readValue_193 (by decide) ?_
      refine r_vret dX4_readValue_291 rfl ?_
      have h := Option.some.inj (show some _ = some o from h)
      subst h
      exact hq
  have h := iq (fun z9 => z9) hc193 h
  by_cases hc194 : Re_kind = (215 : Int32)
  · have h := ip (fun z9 => z9) hc194 h
    refine r_lookup (tgt := 149) dX4_readValue_6 (by decide) (lo_cons (v := (40 : Int32)) (by decide) hc187 (lo_cons (v := (45 : Int32)) (by decide) hc188 (lo_cons (v := (131 : Int32)) (by decide) hc189 (lo_cons (v := (210 : Int32)) (by decide) hc190 (lo_cons (v := (211 : Int32)) (by decide) hc191 (lo_cons (v := (212 : Int32)) (by decide) hc192 (lo_cons (v := (214 : Int32)) (by decide) hc193 (lo_hit (v := (215 : Int32)) (by decide) hc194)))))))) (by decide) ?_
    refine r_aload_n 1 dX4_readValue_149 rfl ?_
    obtain ⟨r240, hc241, h⟩ := ob (fun z9 => z9) rfl h
    refine c_Vv (rest := []) 0 0 _ dX4_readValue_150 kv_X4_105 (ct_Re_advance hc241) rfl rfl lX_33 rfl (Nat.le_of_ble_eq_true rfl) (dl (by decide)) (by decide) ?_
    refine r_aload_n 1 dX4_readValue_153 rfl ?_
    refine r_sipush (v := (216 : Int32)) dX4_readValue_154 (by decide) ?_
    obtain ⟨r242, hc243, h⟩ := ob (fun z9 => z9) rfl h
    refine c_Vv (rest := []) 0 0 _ dX4_readValue_157 kv_X4_62 (ct_Re_expect hc243) rfl rfl lX_33 rfl (Nat.le_of_ble_eq_true rfl) (dl (by decide)) (by decide) ?_
    refine r_aload_n 1 dX4_readValue_160 rfl ?_
    refine r_getf (v := .ref (ad 44)) _ dX4_readValue_161 fl_X4_23 lX_33 rfl ?_
    refine r_getf (v := .ref (ad 56)) _ dX4_readValue_164 fl_X4_151 lX_44 rfl ?_
    refine r_iload_n 0 dX4_readValue_167 rfl ?_
    refine r_aload_n 1 dX4_readValue_168 rfl ?_
    refine r_iload_n 0 dX4_readValue_169 rfl ?_
    refine r_sipush (v := (214 : Int32)) dX4_readValue_170 (by decide) ?_
    refine r_icmp_ne (tgt := 183) dX4_readValue_173 (by decide) (fun hc244 => ?_) (fun hc244 => ?_)
    · have h := iq (fun z9 => z9) hc244 h
      refine r_aload_n 1 dX4_readValue_183 rfl ?_
      refine r_getf (v := .ref (ad 67)) _ dX4_readValue_184 fl_X4_32 lX_33 rfl ?_
      obtain ⟨r245, hc246, h⟩ := ob (fun z9 => z9) rfl h
      refine c_V (rest := [.int Re_kind, .ref (ad 56)]) 0 0 _ dX4_readValue_187 kv_X4_131 (ct_Re_readKnown hc246) rfl rfl lX_33 rfl (Nat.le_of_ble_eq_true rfl) (dl (by decide)) (by decide) ?_
      obtain ⟨r247, hc248, h⟩ := ob (fun z9 => z9) rfl h
      refine c_Vv (rest := []) 0 0 _ dX4_readValue_190 kv_X4_167 (ct_Or_addStep hc248) rfl rfl lX_56 rfl (Nat.le_of_ble_eq_true rfl) (dl (by decide)) (by decide) ?_
      refine r_goto (tgt := 291) dX4_readValue_193 (by decide) ?_
      refine r_vret dX4_readValue_291 rfl ?_
      have h := Option.some.inj (show some _ = some o from h)
      subst h
      exact hq
    · have h := ip (fun z9 => z9) hc244 h
      refine r_aload_n 1 dX4_readValue_176 rfl ?_
      refine r_getf (v := .ref (ad 69)) _ dX4_readValue_177 fl_X4_36 lX_33 rfl ?_
      refine r_goto (tgt := 187) dX4_readValue_180 (by decide) ?_
      obtain ⟨r249, hc250, h⟩ := ob (fun z9 => z9) rfl h
      refine c_V (rest := [.int Re_kind, .ref (ad 56)]) 0 0 _ dX4_readValue_187 kv_X4_131 (ct_Re_readKnown_v1 hc250) rfl rfl lX_33 rfl (Nat.le_of_ble_eq_true rfl) (dl (by decide)) (by decide) ?_
      obtain ⟨r251, hc252, h⟩ := ob (fun z9 => z9) rfl h
      refine c_Vv (rest := []) 0 0 _ dX4_readValue_190 kv_X4_167 (ct_Or_addStep hc252) rfl rfl lX_56 rfl (Nat.le_of_ble_eq_true rfl) (dl (by decide)) (by decide) ?_
      refine r_goto (tgt := 291) dX4_readValue_193 (by decide) ?_
      refine r_vret dX4_readValue_291 rfl ?_
      have h := Option.some.inj (show some _ = some o from h)
      subst h
      exact hq
  have h := iq (fun z9 => z9) hc194 h
  by_cases hc195 : Re_kind = (223 : Int32)
  · have h := ip (fun z9 => z9) hc195 h
    refine r_lookup (tgt := 264) dX4_readValue_6 (by decide) (lo_cons (v := (40 : Int32)) (by decide) hc187 (lo_cons (v := (45 : Int32)) (by decide) hc188 (lo_cons (v := (131 : Int32)) (by decide) hc189 (lo_cons (v := (210 : Int32)) (by decide) hc190 (lo_cons (v := (211 : Int32)) (by decide) hc191 (lo_cons (v := (212 : Int32)) (by decide) hc192 (lo_cons (v := (214 : Int32)) (by decide) hc193 (lo_cons (v := (215 : Int32)) (by decide) hc194 (lo_hit (v := (223 : Int32)) (by decide) hc195))))))))) (by decide) ?_
    refine r_aload_n 1 dX4_readValue_264 rfl ?_
    obtain ⟨r253, hc254, h⟩ := ob (fun z9 => z9) rfl h
    refine c_Vv (rest := []) 0 0 _ dX4_readValue_265 kv_X4_105 (ct_Re_advance hc254) rfl rfl lX_33 rfl (Nat.le_of_ble_eq_true rfl) (dl (by decide)) (by decide) ?_
    refine r_aload_n 1 dX4_readValue_268 rfl ?_
    obtain ⟨r255, hc256, h⟩ := ob (fun z9 => z9) rfl h
    refine c_Vv (rest := []) 0 0 _ dX4_readValue_269 kv_X4_191 (ih_7 hc256) rfl rfl lX_33 rfl (Nat.le_of_ble_eq_true rfl) (Nat.le_refl _) (by decide) ?_
    refine r_aload_n 1 dX4_readValue_272 rfl ?_
    refine r_getf (v := .ref (ad 44)) _ dX4_readValue_273 fl_X4_23 lX_33 rfl ?_
    refine r_getf (v := .ref (ad 56)) _ dX4_readValue_276 fl_X4_151 lX_44 rfl ?_
    refine r_iload_n 0 dX4_readValue_279 rfl ?_
    refine r_iconst (v := (0 : Int32)) dX4_readValue_280 (by decide) ?_
    obtain ⟨r257, hc258, h⟩ := ob (fun z9 => z9) rfl h
    refine c_Vv (rest := []) 0 0 _ dX4_readValue_281 kv_X4_167 (ct_Or_addStep hc258) rfl rfl lX_56 rfl (Nat.le_of_ble_eq_true rfl) (dl (by decide)) (by decide) ?_
    refine r_goto (tgt := 291) dX4_readValue_284 (by decide) ?_
    refine r_vret dX4_readValue_291 rfl ?_
    have h := Option.some.inj (show some _ = some o from h)
    subst h
    exact hq
  have h := iq (fun z9 => z9) hc195 h
  by_cases hc196 : Re_kind = (224 : Int32)
  · have h := ip (fun z9 => z9) hc196 h
    refine r_lookup (tgt := 264) dX4_readValue_6 (by decide) (lo_cons (v := (40 : Int32)) (by decide) hc187 (lo_cons (v := (45 : Int32)) (by decide) hc188 (lo_cons (v := (131 : Int32)) (by decide) hc189 (lo_cons (v := (210 : Int32)) (by decide) hc190 (lo_cons (v := (211 : Int32)) (by decide) hc191 (lo_cons (v := (212 : Int32)) (by decide) hc192 (lo_cons (v := (214 : Int32)) (by decide) hc193 (lo_cons (v := (215 : Int32)) (by decide) hc194 (lo_cons (v := (223 : Int32)) (by decide) hc195 (lo_hit (v := (224 : Int32)) (by decide) hc196)))))))))) (by decide) ?_
    refine r_aload_n 1 dX4_readValue_264 rfl ?_
    obtain ⟨r259, hc260, h⟩ := ob (fun z9 => z9) rfl h
    refine c_Vv (rest := []) 0 0 _ dX4_readValue_265 kv_X4_105 (ct_Re_advance hc260) rfl rfl lX_33 rfl (Nat.le_of_ble_eq_true rfl) (dl (by decide)) (by decide) ?_
    refine r_aload_n 1 dX4_readValue_268 rfl ?_
    obtain ⟨r261, hc262, h⟩ := ob (fun z9 => z9) rfl h
    refine c_Vv (rest := []) 0 0 _ dX4_readValue_269 kv_X4_191 (ih_7 hc262) rfl rfl lX_33 rfl (Nat.le_of_ble_eq_true rfl) (Nat.le_refl _) (by decide) ?_
    refine r_aload_n 1 dX4_readValue_272 rfl ?_
    refine r_getf (v := .ref (ad 44)) _ dX4_readValue_273 fl_X4_23 lX_33 rfl ?_
    refine r_getf (v := .ref (ad 56)) _ dX4_readValue_276 fl_X4_151 lX_44 rfl ?_
    refine r_iload_n 0 dX4_readValue_279 rfl ?_
    refine r_iconst (v := (0 : Int32)) dX4_readValue_280 (by decide) ?_
    obtain ⟨r263, hc264, h⟩ := ob (fun z9 => z9) rfl h
    refine c_Vv (rest := []) 0 0 _ dX4_readValue_281 kv_X4_167 (ct_Or_addStep hc264) rfl rfl lX_56 rfl (Nat.le_of_ble_eq_true rfl) (dl (by decide)) (by decide) ?_
    refine r_goto (tgt := 291) dX4_readValue_284 (by decide) ?_
    refine r_vret dX4_readValue_291 rfl ?_
    have h := Option.some.inj (show some _ = some o from h)
    subst h
    exact hq
  have h := iq (fun z9 => z9) hc196 h
  refine r_lookup (tgt := 287) (off := 281) dX4_readValue_6 (by decide) (lo_cons (v := (40 : Int32)) (by decide) hc187 (lo_cons (v := (45 : Int32)) (by decide) hc188 (lo_cons (v := (131 : Int32)) (by decide) hc189 (lo_cons (v := (210 : Int32)) (by decide) hc190 (lo_cons (v := (211 : Int32)) (by decide) hc191 (lo_cons (v := (212 : Int32)) (by decide) hc192 (lo_cons (v := (214 : Int32)) (by decide) hc193 (lo_cons (v := (215 : Int32)) (by decide) hc194 (lo_cons (v := (223 : Int32)) (by decide) hc195 (lo_cons (v := (224 : Int32)) (by decide) hc196 rfl)))))))))) (by decide) ?_
  refine r_aload_n 1 dX4_readValue_287 rfl ?_
  obtain ⟨r265, hc266, h⟩ := ob (fun z9 => z9) rfl h
  refine c_Vv (rest := []) 0 0 _ dX4_readValue_288 kv_X4_59 (ct_Re_fail hc266) rfl rfl lX_33 rfl (Nat.le_of_ble_eq_true rfl) (dl (by decide)) (by decide) ?_
  refine r_vret dX4_readValue_291 rfl ?_
  have h := Option.some.inj (show some _ = some o from h)
  subst h
  exact hq
set_option maxRecDepth 20000 in
set_option maxHeartbeats 4000000 in
theorem rt_Re_readTwoSums {g : GG} {ad : Nat → Nat} {t : va_W} {x0 x1 x3 x4 x5 x11 x12 x18 x19 x20 x29 x30 x31 x37 x39 x40 x41 x47 x58 x59 x60 x61 x63 x64 x65 x66 : Int32} {x2 x6 x7 x8 x9 x10 x13 x14 x15 x16 x17 x21 x22 x23 x42 x43 x44 x45 x46 x49 x50 x51 x62 x67 : Nat → Int32} {x32 : Int64} {x38 : Nat → Int64} {N : Nat} {Re_at : Int32} {Re_kind : Int32} {Re_depth : Int32} {Re_error : Int32} {Re_errorPlace : Int32} {To_kinds : Nat → Int32} {To_starts : Nat → Int32} {To_numbers : Nat → Int32} {To_words : Nat → Int64} {Or_stepCount : Int32} {Or_stepKinds : Nat → Int32} {Or_stepParts : Nat → Int32} {Na_count : Int32} {Na_words : Nat → Int64} {Na_count_2 : Int32} {Na_words_2 : Nat → Int64} {D : Nat} {rec : Nat → Int32 → Int32 → (Int32 × Int32 × Int32 × Int32 × Int32 × Int32 × (Nat → Int32) × (Nat → Int32)) → Option (Int32 × Int32 × Int32 × Int32 × Int32 × Int32 × (Nat → Int32) × (Nat → Int32))} (ih_0 : (∀ {w0 : Int32} {w1 : Int32} {w2 : Int32} {w3 : Int32} {w4 : Int32} {w5 : Int32} {w6 : Nat → Int32} {w7 : Nat → Int32} {o : Int32 × Int32 × Int32 × Int32 × Int32 × Int32 × (Nat → Int32) × (Nat → Int32)} {t : va_W}, rec 0 0 0 (w0, w1, w2, w3, w4, w5, w6, w7) = some o → Ct g mX4_readTest (7 + D) 0 0 [.ref (ad 33)] (wlX g ad x0 x1 x2 x3 x4 x5 x6 x7 x8 x9 x10 x11 x12 x13 x14 x15 x16 x17 x18 x19 x20 x21 x22 x23 w0 w1 w2 w3 w4 x29 x30 x31 x32 To_kinds To_starts To_numbers To_words x37 x38 x39 x40 x41 x42 x43 x44 x45 x46 x47 w5 x49 x50 x51 w6 w7 Na_count Na_words Na_count_2 Na_words_2 x58 x59 x60 x61 x62 x63 x64 x65 x66 x67 ++ t) (Dv (none) (wlX g ad x0 x1 x2 x3 x4 x5 x6 x7 x8 x9 x10 x11 x12 x13 x14 x15 x16 x17 x18 x19 x20 x21 x22 x23 o.1 o.2.1 o.2.2.1 o.2.2.2.1 o.2.2.2.2.1 x29 x30 x31 x32 To_kinds To_starts To_numbers To_words x37 x38 x39 x40 x41 x42 x43 x44 x45 x46 x47 o.2.2.2.2.2.1 x49 x50 x51 o.2.2.2.2.2.2.1 o.2.2.2.2.2.2.2 Na_count Na_words Na_count_2 Na_words_2 x58 x59 x60 x61 x62 x63 x64 x65 x66 x67 ++ t)))) (ih_1 : (∀ {w0 : Int32} {w1 : Int32} {w2 : Int32} {w3 : Int32} {w4 : Int32} {w5 : Int32} {w6 : Nat → Int32} {w7 : Nat → Int32} {o : Int32 × Int32 × Int32 × Int32 × Int32 × Int32 × (Nat → Int32) × (Nat → Int32)} {t : va_W}, rec 1 0 0 (w0, w1, w2, w3, w4, w5, w6, w7) = some o → Ct g mX4_readBoth (7 + D) 0 0 [.ref (ad 33)] (wlX g ad x0 x1 x2 x3 x4 x5 x6 x7 x8 x9 x10 x11 x12 x13 x14 x15 x16 x17 x18 x19 x20 x21 x22 x23 w0 w1 w2 w3 w4 x29 x30 x31 x32 To_kinds To_starts To_numbers To_words x37 x38 x39 x40 x41 x42 x43 x44 x45 x46 x47 w5 x49 x50 x51 w6 w7 Na_count Na_words Na_count_2 Na_words_2 x58 x59 x60 x61 x62 x63 x64 x65 x66 x67 ++ t) (Dv (none) (wlX g ad x0 x1 x2 x3 x4 x5 x6 x7 x8 x9 x10 x11 x12 x13 x14 x15 x16 x17 x18 x19 x20 x21 x22 x23 o.1 o.2.1 o.2.2.1 o.2.2.2.1 o.2.2.2.2.1 x29 x30 x31 x32 To_kinds To_starts To_numbers To_words x37 x38 x39 x40 x41 x42 x43 x44 x45 x46 x47 o.2.2.2.2.2.1 x49 x50 x51 o.2.2.2.2.2.2.1 o.2.2.2.2.2.2.2 Na_count Na_words Na_count_2 Na_words_2 x58 x59 x60 x61 x62 x63 x64 x65 x66 x67 ++ t)))) (ih_2 : (∀ {w0 : Int32} {w1 : Int32} {w2 : Int32} {w3 : Int32} {w4 : Int32} {w5 : Int32} {w6 : Nat → Int32} {w7 : Nat → Int32} {o : Int32 × Int32 × Int32 × Int32 × Int32 × Int32 × (Nat → Int32) × (Nat → Int32)} {t : va_W}, rec 2 0 0 (w0, w1, w2, w3, w4, w5, w6, w7) = some o → Ct g mX4_readSingle (7 + D) 0 0 [.ref (ad 33)] (wlX g ad x0 x1 x2 x3 x4 x5 x6 x7 x8 x9 x10 x11 x12 x13 x14 x15 x16 x17 x18 x19 x20 x21 x22 x23 w0 w1 w2 w3 w4 x29 x30 x31 x32 To_kinds To_starts To_numbers To_words x37 x38 x39 x40 x41 x42 x43 x44 x45 x46 x47 w5 x49 x50 x51 w6 w7 Na_count Na_words Na_count_2 Na_words_2 x58 x59 x60 x61 x62 x63 x64 x65 x66 x67 ++ t) (Dv (none) (wlX g ad x0 x1 x2 x3 x4 x5 x6 x7 x8 x9 x10 x11 x12 x13 x14 x15 x16 x17 x18 x19 x20 x21 x22 x23 o.1 o.2.1 o.2.2.1 o.2.2.2.1 o.2.2.2.2.1 x29 x30 x31 x32 To_kinds To_starts To_numbers To_words x37 x38 x39 x40 x41 x42 x43 x44 x45 x46 x47 o.2.2.2.2.2.1 x49 x50 x51 o.2.2.2.2.2.2.1 o.2.2.2.2.2.2.2 Na_count Na_words Na_count_2 Na_words_2 x58 x59 x60 x61 x62 x63 x64 x65 x66 x67 ++ t)))) (ih_3 : (∀ {w0 : Int32} {w1 : Int32} {w2 : Int32} {w3 : Int32} {w4 : Int32} {w5 : Int32} {w6 : Nat → Int32} {w7 : Nat → Int32} {o : Int32 × Int32 × Int32 × Int32 × Int32 × Int32 × (Nat → Int32) × (Nat → Int32)} {t : va_W}, rec 3 0 0 (w0, w1, w2, w3, w4, w5, w6, w7) = some o → Ct g mX4_readCompared (7 + D) 0 0 [.ref (ad 33)] (wlX g ad x0 x1 x2 x3 x4 x5 x6 x7 x8 x9 x10 x11 x12 x13 x14 x15 x16 x17 x18 x19 x20 x21 x22 x23 w0 w1 w2 w3 w4 x29 x30 x31 x32 To_kinds To_starts To_numbers To_words x37 x38 x39 x40 x41 x42 x43 x44 x45 x46 x47 w5 x49 x50 x51 w6 w7 Na_count Na_words Na_count_2 Na_words_2 x58 x59 x60 x61 x62 x63 x64 x65 x66 x67 ++ t) (Dv (none) (wlX g ad x0 x1 x2 x3 x4 x5 x6 x7 x8 x9 x10 x11 x12 x13 x14 x15 x16 x17 x18 x19 x20 x21 x22 x23 o.1 o.2.1 o.2.2.1 o.2.2.2.1 o.2.2.2.2.1 x29 x30 x31 x32 To_kinds To_starts To_numbers To_words x37 x38 x39 x40 x41 x42 x43 x44 x45 x46 x47 o.2.2.2.2.2.1 x49 x50 x51 o.2.2.2.2.2.2.1 o.2.2.2.2.2.2.2 Na_count Na_words Na_count_2 Na_words_2 x58 x59 x60 x61 x62 x63 x64 x65 x66 x67 ++ t)))) (ih_4 : (∀ {w0 : Int32} {w1 : Int32} {w2 : Int32} {w3 : Int32} {w4 : Int32} {w5 : Int32} {w6 : Nat → Int32} {w7 : Nat → Int32} {o : Int32 × Int32 × Int32 × Int32 × Int32 × Int32 × (Nat → Int32) × (Nat → Int32)} {t : va_W}, rec 4 0 0 (w0, w1, w2, w3, w4, w5, w6, w7) = some o → Ct g mX4_readSum (7 + D) 0 0 [.ref (ad 33)] (wlX g ad x0 x1 x2 x3 x4 x5 x6 x7 x8 x9 x10 x11 x12 x13 x14 x15 x16 x17 x18 x19 x20 x21 x22 x23 w0 w1 w2 w3 w4 x29 x30 x31 x32 To_kinds To_starts To_numbers To_words x37 x38 x39 x40 x41 x42 x43 x44 x45 x46 x47 w5 x49 x50 x51 w6 w7 Na_count Na_words Na_count_2 Na_words_2 x58 x59 x60 x61 x62 x63 x64 x65 x66 x67 ++ t) (Dv (none) (wlX g ad x0 x1 x2 x3 x4 x5 x6 x7 x8 x9 x10 x11 x12 x13 x14 x15 x16 x17 x18 x19 x20 x21 x22 x23 o.1 o.2.1 o.2.2.1 o.2.2.2.1 o.2.2.2.2.1 x29 x30 x31 x32 To_kinds To_starts To_numbers To_words x37 x38 x39 x40 x41 x42 x43 x44 x45 x46 x47 o.2.2.2.2.2.1 x49 x50 x51 o.2.2.2.2.2.2.1 o.2.2.2.2.2.2.2 Na_count Na_words Na_count_2 Na_words_2 x58 x59 x60 x61 x62 x63 x64 x65 x66 x67 ++ t)))) (ih_5 : (∀ {w0 : Int32} {w1 : Int32} {w2 : Int32} {w3 : Int32} {w4 : Int32} {w5 : Int32} {w6 : Nat → Int32} {w7 : Nat → Int32} {o : Int32 × Int32 × Int32 × Int32 × Int32 × Int32 × (Nat → Int32) × (Nat → Int32)} {t : va_W}, rec 5 0 0 (w0, w1, w2, w3, w4, w5, w6, w7) = some o → Ct g mX4_readProduct (7 + D) 0 0 [.ref (ad 33)] (wlX g ad x0 x1 x2 x3 x4 x5 x6 x7 x8 x9 x10 x11 x12 x13 x14 x15 x16 x17 x18 x19 x20 x21 x22 x23 w0 w1 w2 w3 w4 x29 x30 x31 x32 To_kinds To_starts To_numbers To_words x37 x38 x39 x40 x41 x42 x43 x44 x45 x46 x47 w5 x49 x50 x51 w6 w7 Na_count Na_words Na_count_2 Na_words_2 x58 x59 x60 x61 x62 x63 x64 x65 x66 x67 ++ t) (Dv (none) (wlX g ad x0 x1 x2 x3 x4 x5 x6 x7 x8 x9 x10 x11 x12 x13 x14 x15 x16 x17 x18 x19 x20 x21 x22 x23 o.1 o.2.1 o.2.2.1 o.2.2.2.1 o.2.2.2.2.1 x29 x30 x31 x32 To_kinds To_starts To_numbers To_words x37 x38 x39 x40 x41 x42 x43 x44 x45 x46 x47 o.2.2.2.2.2.1 x49 x50 x51 o.2.2.2.2.2.2.1 o.2.2.2.2.2.2.2 Na_count Na_words Na_count_2 Na_words_2 x58 x59 x60 x61 x62 x63 x64 x65 x66 x67 ++ t)))) (ih_6 : (∀ {w0 : Int32} {w1 : Int32} {w2 : Int32} {w3 : Int32} {w4 : Int32} {w5 : Int32} {w6 : Nat → Int32} {w7 : Nat → Int32} {o : Int32 × Int32 × Int32 × Int32 × Int32 × Int32 × (Nat → Int32) × (Nat → Int32)} {t : va_W}, rec 6 0 0 (w0, w1, w2, w3, w4, w5, w6, w7) = some o → Ct g mX4_readValue (7 + D) 0 0 [.ref (ad 33)] (wlX g ad x0 x1 x2 x3 x4 x5 x6 x7 x8 x9 x10 x11 x12 x13 x14 x15 x16 x17 x18 x19 x20 x21 x22 x23 w0 w1 w2 w3 w4 x29 x30 x31 x32 To_kinds To_starts To_numbers To_words x37 x38 x39 x40 x41 x42 x43 x44 x45 x46 x47 w5 x49 x50 x51 w6 w7 Na_count Na_words Na_count_2 Na_words_2 x58 x59 x60 x61 x62 x63 x64 x65 x66 x67 ++ t) (Dv (none) (wlX g ad x0 x1 x2 x3 x4 x5 x6 x7 x8 x9 x10 x11 x12 x13 x14 x15 x16 x17 x18 x19 x20 x21 x22 x23 o.1 o.2.1 o.2.2.1 o.2.2.2.1 o.2.2.2.2.1 x29 x30 x31 x32 To_kinds To_starts To_numbers To_words x37 x38 x39 x40 x41 x42 x43 x44 x45 x46 x47 o.2.2.2.2.2.1 x49 x50 x51 o.2.2.2.2.2.2.1 o.2.2.2.2.2.2.2 Na_count Na_words Na_count_2 Na_words_2 x58 x59 x60 x61 x62 x63 x64 x65 x66 x67 ++ t)))) (ih_7 : (∀ {w0 : Int32} {w1 : Int32} {w2 : Int32} {w3 : Int32} {w4 : Int32} {w5 : Int32} {w6 : Nat → Int32} {w7 : Nat → Int32} {o : Int32 × Int32 × Int32 × Int32 × Int32 × Int32 × (Nat → Int32) × (Nat → Int32)} {t : va_W}, rec 7 0 0 (w0, w1, w2, w3, w4, w5, w6, w7) = some o → Ct g mX4_readTwoSums (7 + D) 0 0 [.ref (ad 33)] (wlX g ad x0 x1 x2 x3 x4 x5 x6 x7 x8 x9 x10 x11 x12 x13 x14 x15 x16 x17 x18 x19 x20 x21 x22 x23 w0 w1 w2 w3 w4 x29 x30 x31 x32 To_kinds To_starts To_numbers To_words x37 x38 x39 x40 x41 x42 x43 x44 x45 x46 x47 w5 x49 x50 x51 w6 w7 Na_count Na_words Na_count_2 Na_words_2 x58 x59 x60 x61 x62 x63 x64 x65 x66 x67 ++ t) (Dv (none) (wlX g ad x0 x1 x2 x3 x4 x5 x6 x7 x8 x9 x10 x11 x12 x13 x14 x15 x16 x17 x18 x19 x20 x21 x22 x23 o.1 o.2.1 o.2.2.1 o.2.2.2.1 o.2.2.2.2.1 x29 x30 x31 x32 To_kinds To_starts To_numbers To_words x37 x38 x39 x40 x41 x42 x43 x44 x45 x46 x47 o.2.2.2.2.2.1 x49 x50 x51 o.2.2.2.2.2.2.1 o.2.2.2.2.2.2.2 Na_count Na_words Na_count_2 Na_words_2 x58 x59 x60 x61 x62 x63 x64 x65 x66 x67 ++ t)))) {o : Int32 × Int32 × Int32 × Int32 × Int32 × Int32 × (Nat → Int32) × (Nat → Int32)} {Q : Rs → va_W → Prop} (h : f_Re_readTwoSums N rec Re_at Re_kind Re_depth Re_error Re_errorPlace To_kinds To_starts To_numbers To_words Or_stepCount Or_stepKinds Or_stepParts Na_count Na_words Na_count_2 Na_words_2 = some o) (hq : Q (.inl (none)) (wlX g ad x0 x1 x2 x3 x4 x5 x6 x7 x8 x9 x10 x11 x12 x13 x14 x15 x16 x17 x18 x19 x20 x21 x22 x23 o.1 o.2.1 o.2.2.1 o.2.2.2.1 o.2.2.2.2.1 x29 x30 x31 x32 To_kinds To_starts To_numbers To_words x37 x38 x39 x40 x41 x42 x43 x44 x45 x46 x47 o.2.2.2.2.2.1 x49 x50 x51 o.2.2.2.2.2.2.1 o.2.2.2.2.2.2.2 Na_count Na_words Na_count_2 Na_words_2 x58 x59 x60 x61 x62 x63 x64 x65 x66 x67 ++ t)) : R g mX4_readTwoSums (7 + (D + 1)) 0 0 0 [(0, .ref (ad 33))] [] (wlX g ad x0 x1 x2 x3 x4 x5 x6 x7 x8 x9 x10 x11 x12 x13 x14 x15 x16 x17 x18 x19 x20 x21 x22 x23 Re_at Re_kind Re_depth Re_error Re_errorPlace x29 x30 x31 x32 To_kinds To_starts To_numbers To_words x37 x38 x39 x40 x41 x42 x43 x44 x45 x46 x47 Or_stepCount x49 x50 x51 Or_stepKinds Or_stepParts Na_count Na_words Na_count_2 Na_words_2 x58 x59 x60 x61 x62 x63 x64 x65 x66 x67 ++ t) Q := by
  unfold f_Re_readTwoSums at h
  refine r_aload_n 0 dX4_readTwoSums_0 rfl ?_
  refine r_getf (v := .int Re_kind) _ dX4_readTwoSums_1 fl_X4_42 lX_33 rfl ?_
  refine r_bipush (v := (40 : Int32)) dX4_readTwoSums_4 (by decide) ?_
  refine r_icmp_eq (tgt := 14) dX4_readTwoSums_6 (by decide) (fun hc267 => ?_) (fun hc267 => ?_)
  · have h := ip (fun z9 => z9) hc267 h
    refine r_aload_n 0 dX4_readTwoSums_14 rfl ?_
    obtain ⟨r268, hc269, h⟩ := ob (fun z9 => z9) rfl h
    refine c_V (rest := []) 0 0 _ dX4_readTwoSums_15 kv_X4_173 (ct_Re_deepen hc269) rfl rfl lX_33 rfl (Nat.le_of_ble_eq_true rfl) (dl (by decide)) (by decide) ?_
    refine r_if_eq (tgt := 51) dX4_readTwoSums_18 (by decide) (fun hc270 => ?_) (fun hc270 => ?_)
    · have h := ip (fun z9 => z9) hc270 h
      refine r_vret dX4_readTwoSums_51 rfl ?_
      have h := Option.some.inj (show some _ = some o from h)
      subst h
      exact hq
    · have h := iq (fun z9 => z9) hc270 h
      refine r_aload_n 0 dX4_readTwoSums_21 rfl ?_
      obtain ⟨r271, hc272, h⟩ := ob (fun z9 => z9) rfl h
      refine c_Vv (rest := []) 0 0 _ dX4_readTwoSums_22 kv_X4_179 (ih_4 hc272) rfl rfl lX_33 rfl (Nat.le_of_ble_eq_true rfl) (Nat.le_refl _) (by decide) ?_
      refine r_aload_n 0 dX4_readTwoSums_25 rfl ?_
      refine r_bipush (v := (44 : Int32)) dX4_readTwoSums_26 (by decide) ?_
      obtain ⟨r273, hc274, h⟩ := ob (fun z9 => z9) rfl h
      refine c_Vv (rest := []) 0 0 _ dX4_readTwoSums_28 kv_X4_62 (ct_Re_expect hc274) rfl rfl lX_33 rfl (Nat.le_of_ble_eq_true rfl) (dl (by decide)) (by decide) ?_
      refine r_aload_n 0 dX4_readTwoSums_31 rfl ?_
      obtain ⟨r275, hc276, h⟩ := ob (fun z9 => z9) rfl h
      refine c_Vv (rest := []) 0 0 _ dX4_readTwoSums_32 kv_X4_179 (ih_4 hc276) rfl rfl lX_33 rfl (Nat.le_of_ble_eq_true rfl) (Nat.le_refl _) (by decide) ?_
      refine r_aload_n 0 dX4_readTwoSums_35 rfl ?_
      refine r_dup dX4_readTwoSums_36 rfl ?_
      refine r_getf (v := .int r275.2.2.1) _ dX4_readTwoSums_37 fl_X4_93 lX_33 rfl ?_
      refine r_iconst (v := (1 : Int32)) dX4_readTwoSums_40 (by decide) ?_
      refine r_isub dX4_readTwoSums_41 ?_
      refine r_putf _ dX4_readTwoSums_42 fl_X4_93 lX_33 (Nat.le_of_ble_eq_true rfl) rfl rfl (sX_26 _) ?_
      refine r_aload_n 0 dX4_readTwoSums_45 rfl ?_
      refine r_bipush (v := (41 : Int32)) dX4_readTwoSums_46 (by decide) ?_
      obtain ⟨r277, hc278, h⟩ := ob (fun z9 => z9) rfl h
      refine c_Vv (rest := []) 0 0 _ dX4_readTwoSums_48 kv_X4_62 (ct_Re_expect hc278) rfl rfl lX_33 rfl (Nat.le_of_ble_eq_true rfl) (dl (by decide)) (by decide) ?_
      refine r_vret dX4_readTwoSums_51 rfl ?_
      have h := Option.some.inj (show some _ = some o from h)
      subst h
      exact hq
  · have h := iq (fun z9 => z9) hc267 h
    refine r_aload_n 0 dX4_readTwoSums_9 rfl ?_
    obtain ⟨r279, hc280, h⟩ := ob (fun z9 => z9) rfl h
    refine c_Vv (rest := []) 0 0 _ dX4_readTwoSums_10 kv_X4_59 (ct_Re_fail hc280) rfl rfl lX_33 rfl (Nat.le_of_ble_eq_true rfl) (dl (by decide)) (by decide) ?_
    refine r_vret dX4_readTwoSums_13 rfl ?_
    have h := Option.some.inj (show some _ = some o from h)
    subst h
    exact hq
theorem ct_Re_parse {g : GG} {ad : Nat → Nat} {N : Nat} {x0 x1 x3 x4 x5 x11 x12 x18 x19 x20 x29 x30 x31 x37 x39 x40 x41 x47 x58 x59 x60 x61 x63 x64 x65 x66 : Int32} {x2 x6 x7 x8 x9 x10 x13 x14 x15 x16 x17 x21 x22 x23 x42 x43 x44 x45 x46 x49 x50 x51 x62 x67 : Nat → Int32} {x32 : Int64} {x38 : Nat → Int64} {To_kinds : Nat → Int32} {To_starts : Nat → Int32} {To_numbers : Nat → Int32} {To_words : Nat → Int64} {Na_count : Int32} {Na_words : Nat → Int64} {Na_count_2 : Int32} {Na_words_2 : Nat → Int64} : ∀ D : Nat, (∀ {w0 : Int32} {w1 : Int32} {w2 : Int32} {w3 : Int32} {w4 : Int32} {w5 : Int32} {w6 : Nat → Int32} {w7 : Nat → Int32} {o : Int32 × Int32 × Int32 × Int32 × Int32 × Int32 × (Nat → Int32) × (Nat → Int32)} {t : va_W}, f_Re_parse N To_kinds To_starts To_numbers To_words Na_count Na_words Na_count_2 Na_words_2 D 0 0 0 (w0, w1, w2, w3, w4, w5, w6, w7) = some o → Ct g mX4_readTest (7 + D) 0 0 [.ref (ad 33)] (wlX g ad x0 x1 x2 x3 x4 x5 x6 x7 x8 x9 x10 x11 x12 x13 x14 x15 x16 x17 x18 x19 x20 x21 x22 x23 w0 w1 w2 w3 w4 x29 x30 x31 x32 To_kinds To_starts To_numbers To_words x37 x38 x39 x40 x41 x42 x43 x44 x45 x46 x47 w5 x49 x50 x51 w6 w7 Na_count Na_words Na_count_2 Na_words_2 x58 x59 x60 x61 x62 x63 x64 x65 x66 x67 ++ t) (Dv (none) (wlX g ad x0 x1 x2 x3 x4 x5 x6 x7 x8 x9 x10 x11 x12 x13 x14 x15 x16 x17 x18 x19 x20 x21 x22 x23 o.1 o.2.1 o.2.2.1 o.2.2.2.1 o.2.2.2.2.1 x29 x30 x31 x32 To_kinds To_starts To_numbers To_words x37 x38 x39 x40 x41 x42 x43 x44 x45 x46 x47 o.2.2.2.2.2.1 x49 x50 x51 o.2.2.2.2.2.2.1 o.2.2.2.2.2.2.2 Na_count Na_words Na_count_2 Na_words_2 x58 x59 x60 x61 x62 x63 x64 x65 x66 x67 ++ t))) ∧ (∀ {w0 : Int32} {w1 : Int32} {w2 : Int32} {w3 : Int32} {w4 : Int32} {w5 : Int32} {w6 : Nat → Int32} {w7 : Nat → Int32} {o : Int32 × Int32 × Int32 × Int32 × Int32 × Int32 × (Nat → Int32) × (Nat → Int32)} {t : va_W}, f_Re_parse N To_kinds To_starts To_numbers To_words Na_count Na_words Na_count_2 Na_words_2 D 1 0 0 (w0, w1, w2, w3, w4, w5, w6, w7) = some o → Ct g mX4_readBoth (7 + D) 0 0 [.ref (ad 33)] (wlX g ad x0 x1 x2 x3 x4 x5 x6 x7 x8 x9 x10 x11 x12 x13 x14 x15 x16 x17 x18 x19 x20 x21 x22 x23 w0 w1 w2 w3 w4 x29 x30 x31 x32 To_kinds To_starts To_numbers To_words x37 x38 x39 x40 x41 x42 x43 x44 x45 x46 x47 w5 x49 x50 x51 w6 w7 Na_count Na_words Na_count_2 Na_words_2 x58 x59 x60 x61 x62 x63 x64 x65 x66 x67 ++ t) (Dv (none) (wlX g ad x0 x1 x2 x3 x4 x5 x6 x7 x8 x9 x10 x11 x12 x13 x14 x15 x16 x17 x18 x19 x20 x21 x22 x23 o.1 o.2.1 o.2.2.1 o.2.2.2.1 o.2.2.2.2.1 x29 x30 x31 x32 To_kinds To_starts To_numbers To_words x37 x38 x39 x40 x41 x42 x43 x44 x45 x46 x47 o.2.2.2.2.2.1 x49 x50 x51 o.2.2.2.2.2.2.1 o.2.2.2.2.2.2.2 Na_count Na_words Na_count_2 Na_words_2 x58 x59 x60 x61 x62 x63 x64 x65 x66 x67 ++ t))) ∧ (∀ {w0 : Int32} {w1 : Int32} {w2 : Int32} {w3 : Int32} {w4 : Int32} {w5 : Int32} {w6 : Nat → Int32} {w7 : Nat → Int32} {o : Int32 × Int32 × Int32 × Int32 × Int32 × Int32 × (Nat → Int32) × (Nat → Int32)} {t : va_W}, f_Re_parse N To_kinds To_starts To_numbers To_words Na_count Na_words Na_count_2 Na_words_2 D 2 0 0 (w0, w1, w2, w3, w4, w5, w6, w7) = some o → Ct g mX4_readSingle (7 + D) 0 0 [.ref (ad 33)] (wlX g ad x0 x1 x2 x3 x4 x5 x6 x7 x8 x9 x10 x11 x12 x13 x14 x15 x16 x17 x18 x19 x20 x21 x22 x23 w0 w1 w2 w3 w4 x29 x30 x31 x32 To_kinds To_starts To_numbers To_words x37 x38 x39 x40 x41 x42 x43 x44 x45 x46 x47 w5 x49 x50 x51 w6 w7 Na_count Na_words Na_count_2 Na_words_2 x58 x59 x60 x61 x62 x63 x64 x65 x66 x67 ++ t) (Dv (none) (wlX g ad x0 x1 x2 x3 x4 x5 x6 x7 x8 x9 x10 x11 x12 x13 x14 x15 x16 x17 x18 x19 x20 x21 x22 x23 o.1 o.2.1 o.2.2.1 o.2.2.2.1 o.2.2.2.2.1 x29 x30 x31 x32 To_kinds To_starts To_numbers To_words x37 x38 x39 x40 x41 x42 x43 x44 x45 x46 x47 o.2.2.2.2.2.1 x49 x50 x51 o.2.2.2.2.2.2.1 o.2.2.2.2.2.2.2 Na_count Na_words Na_count_2 Na_words_2 x58 x59 x60 x61 x62 x63 x64 x65 x66 x67 ++ t))) ∧ (∀ {w0 : Int32} {w1 : Int32} {w2 : Int32} {w3 : Int32} {w4 : Int32} {w5 : Int32} {w6 : Nat → Int32} {w7 : Nat → Int32} {o : Int32 × Int32 × Int32 × Int32 × Int32 × Int32 × (Nat → Int32) × (Nat → Int32)} {t : va_W}, f_Re_parse N To_kinds To_starts To_numbers To_words Na_count Na_words Na_count_2 Na_words_2 D 3 0 0 (w0, w1, w2, w3, w4, w5, w6, w7) = some o → Ct g mX4_readCompared (7 + D) 0 0 [.ref (ad 33)] (wlX g ad x0 x1 x2 x3 x4 x5 x6 x7 x8 x9 x10 x11 x12 x13 x14 x15 x16 x17 x18 x19 x20 x21 x22 x23 w0 w1 w2 w3 w4 x29 x30 x31 x32 To_kinds To_starts To_numbers To_words x37 x38 x39 x40 x41 x42 x43 x44 x45 x46 x47 w5 x49 x50 x51 w6 w7 Na_count Na_words Na_count_2 Na_words_2 x58 x59 x60 x61 x62 x63 x64 x65 x66 x67 ++ t) (Dv (none) (wlX g ad x0 x1 x2 x3 x4 x5 x6 x7 x8 x9 x10 x11 x12 x13 x14 x15 x16 x17 x18 x19 x20 x21 x22 x23 o.1 o.2.1 o.2.2.1 o.2.2.2.1 o.2.2.2.2.1 x29 x30 x31 x32 To_kinds To_starts To_numbers To_words x37 x38 x39 x40 x41 x42 x43 x44 x45 x46 x47 o.2.2.2.2.2.1 x49 x50 x51 o.2.2.2.2.2.2.1 o.2.2.2.2.2.2.2 Na_count Na_words Na_count_2 Na_words_2 x58 x59 x60 x61 x62 x63 x64 x65 x66 x67 ++ t))) ∧ (∀ {w0 : Int32} {w1 : Int32} {w2 : Int32} {w3 : Int32} {w4 : Int32} {w5 : Int32} {w6 : Nat → Int32} {w7 : Nat → Int32} {o : Int32 × Int32 × Int32 × Int32 × Int32 × Int32 × (Nat → Int32) × (Nat → Int32)} {t : va_W}, f_Re_parse N To_kinds To_starts To_numbers To_words Na_count Na_words Na_count_2 Na_words_2 D 4 0 0 (w0, w1, w2, w3, w4, w5, w6, w7) = some o → Ct g mX4_readSum (7 + D) 0 0 [.ref (ad 33)] (wlX g ad x0 x1 x2 x3 x4 x5 x6 x7 x8 x9 x10 x11 x12 x13 x14 x15 x16 x17 x18 x19 x20 x21 x22 x23 w0 w1 w2 w3 w4 x29 x30 x31 x32 To_kinds To_starts To_numbers To_words x37 x38 x39 x40 x41 x42 x43 x44 x45 x46 x47 w5 x49 x50 x51 w6 w7 Na_count Na_words Na_count_2 Na_words_2 x58 x59 x60 x61 x62 x63 x64 x65 x66 x67 ++ t) (Dv (none) (wlX g ad x0 x1 x2 x3 x4 x5 x6 x7 x8 x9 x10 x11 x12 x13 x14 x15 x16 x17 x18 x19 x20 x21 x22 x23 o.1 o.2.1 o.2.2.1 o.2.2.2.1 o.2.2.2.2.1 x29 x30 x31 x32 To_kinds To_starts To_numbers To_words x37 x38 x39 x40 x41 x42 x43 x44 x45 x46 x47 o.2.2.2.2.2.1 x49 x50 x51 o.2.2.2.2.2.2.1 o.2.2.2.2.2.2.2 Na_count Na_words Na_count_2 Na_words_2 x58 x59 x60 x61 x62 x63 x64 x65 x66 x67 ++ t))) ∧ (∀ {w0 : Int32} {w1 : Int32} {w2 : Int32} {w3 : Int32} {w4 : Int32} {w5 : Int32} {w6 : Nat → Int32} {w7 : Nat → Int32} {o : Int32 × Int32 × Int32 × Int32 × Int32 × Int32 × (Nat → Int32) × (Nat → Int32)} {t : va_W}, f_Re_parse N To_kinds To_starts To_numbers To_words Na_count Na_words Na_count_2 Na_words_2 D 5 0 0 (w0, w1, w2, w3, w4, w5, w6, w7) = some o → Ct g mX4_readProduct (7 + D) 0 0 [.ref (ad 33)] (wlX g ad x0 x1 x2 x3 x4 x5 x6 x7 x8 x9 x10 x11 x12 x13 x14 x15 x16 x17 x18 x19 x20 x21 x22 x23 w0 w1 w2 w3 w4 x29 x30 x31 x32 To_kinds To_starts To_numbers To_words x37 x38 x39 x40 x41 x42 x43 x44 x45 x46 x47 w5 x49 x50 x51 w6 w7 Na_count Na_words Na_count_2 Na_words_2 x58 x59 x60 x61 x62 x63 x64 x65 x66 x67 ++ t) (Dv (none) (wlX g ad x0 x1 x2 x3 x4 x5 x6 x7 x8 x9 x10 x11 x12 x13 x14 x15 x16 x17 x18 x19 x20 x21 x22 x23 o.1 o.2.1 o.2.2.1 o.2.2.2.1 o.2.2.2.2.1 x29 x30 x31 x32 To_kinds To_starts To_numbers To_words x37 x38 x39 x40 x41 x42 x43 x44 x45 x46 x47 o.2.2.2.2.2.1 x49 x50 x51 o.2.2.2.2.2.2.1 o.2.2.2.2.2.2.2 Na_count Na_words Na_count_2 Na_words_2 x58 x59 x60 x61 x62 x63 x64 x65 x66 x67 ++ t))) ∧ (∀ {w0 : Int32} {w1 : Int32} {w2 : Int32} {w3 : Int32} {w4 : Int32} {w5 : Int32} {w6 : Nat → Int32} {w7 : Nat → Int32} {o : Int32 × Int32 × Int32 × Int32 × Int32 × Int32 × (Nat → Int32) × (Nat → Int32)} {t : va_W}, f_Re_parse N To_kinds To_starts To_numbers To_words Na_count Na_words Na_count_2 Na_words_2 D 6 0 0 (w0, w1, w2, w3, w4, w5, w6, w7) = some o → Ct g mX4_readValue (7 + D) 0 0 [.ref (ad 33)] (wlX g ad x0 x1 x2 x3 x4 x5 x6 x7 x8 x9 x10 x11 x12 x13 x14 x15 x16 x17 x18 x19 x20 x21 x22 x23 w0 w1 w2 w3 w4 x29 x30 x31 x32 To_kinds To_starts To_numbers To_words x37 x38 x39 x40 x41 x42 x43 x44 x45 x46 x47 w5 x49 x50 x51 w6 w7 Na_count Na_words Na_count_2 Na_words_2 x58 x59 x60 x61 x62 x63 x64 x65 x66 x67 ++ t) (Dv (none) (wlX g ad x0 x1 x2 x3 x4 x5 x6 x7 x8 x9 x10 x11 x12 x13 x14 x15 x16 x17 x18 x19 x20 x21 x22 x23 o.1 o.2.1 o.2.2.1 o.2.2.2.1 o.2.2.2.2.1 x29 x30 x31 x32 To_kinds To_starts To_numbers To_words x37 x38 x39 x40 x41 x42 x43 x44 x45 x46 x47 o.2.2.2.2.2.1 x49 x50 x51 o.2.2.2.2.2.2.1 o.2.2.2.2.2.2.2 Na_count Na_words Na_count_2 Na_words_2 x58 x59 x60 x61 x62 x63 x64 x65 x66 x67 ++ t))) ∧ (∀ {w0 : Int32} {w1 : Int32} {w2 : Int32} {w3 : Int32} {w4 : Int32} {w5 : Int32} {w6 : Nat → Int32} {w7 : Nat → Int32} {o : Int32 × Int32 × Int32 × Int32 × Int32 × Int32 × (Nat → Int32) × (Nat → Int32)} {t : va_W}, f_Re_parse N To_kinds To_starts To_numbers To_words Na_count Na_words Na_count_2 Na_words_2 D 7 0 0 (w0, w1, w2, w3, w4, w5, w6, w7) = some o → Ct g mX4_readTwoSums (7 + D) 0 0 [.ref (ad 33)] (wlX g ad x0 x1 x2 x3 x4 x5 x6 x7 x8 x9 x10 x11 x12 x13 x14 x15 x16 x17 x18 x19 x20 x21 x22 x23 w0 w1 w2 w3 w4 x29 x30 x31 x32 To_kinds To_starts To_numbers To_words x37 x38 x39 x40 x41 x42 x43 x44 x45 x46 x47 w5 x49 x50 x51 w6 w7 Na_count Na_words Na_count_2 Na_words_2 x58 x59 x60 x61 x62 x63 x64 x65 x66 x67 ++ t) (Dv (none) (wlX g ad x0 x1 x2 x3 x4 x5 x6 x7 x8 x9 x10 x11 x12 x13 x14 x15 x16 x17 x18 x19 x20 x21 x22 x23 o.1 o.2.1 o.2.2.1 o.2.2.2.1 o.2.2.2.2.1 x29 x30 x31 x32 To_kinds To_starts To_numbers To_words x37 x38 x39 x40 x41 x42 x43 x44 x45 x46 x47 o.2.2.2.2.2.1 x49 x50 x51 o.2.2.2.2.2.2.1 o.2.2.2.2.2.2.2 Na_count Na_words Na_count_2 Na_words_2 x58 x59 x60 x61 x62 x63 x64 x65 x66 x67 ++ t))) := by
  intro D
  induction D with
  | zero => exact ⟨(fun h => nomatch (show (none : Option _) = some _ from h)), (fun h => nomatch (show (none : Option _) = some _ from h)), (fun h => nomatch (show (none : Option _) = some _ from h)), (fun h => nomatch (show (none : Option _) = some _ from h)), (fun h => nomatch (show (none : Option _) = some _ from h)), (fun h => nomatch (show (none : Option _) = some _ from h)), (fun h => nomatch (show (none : Option _) = some _ from h)), (fun h => nomatch (show (none : Option _) = some _ from h))⟩
  | succ D ih =>
    obtain ⟨i0, i1, i2, i3, i4, i5, i6, i7⟩ := ih
    exact ⟨(fun h => Ct.ofR (by decide +kernel) rfl (Nat.le_of_ble_eq_true rfl) (rt_Re_readTest i0 i1 i2 i3 i4 i5 i6 i7 (show f_Re_readTest N (f_Re_parse N To_kinds To_starts To_numbers To_words Na_count Na_words Na_count_2 Na_words_2 D) _ _ _ _ _ To_kinds To_starts To_numbers To_words _ _ _ Na_count Na_words Na_count_2 Na_words_2 = some _ from h) ⟨rfl, rfl⟩)), (fun h => Ct.ofR (by decide +kernel) rfl (Nat.le_of_ble_eq_true rfl) (rt_Re_readBoth i0 i1 i2 i3 i4 i5 i6 i7 (show f_Re_readBoth N (f_Re_parse N To_kinds To_starts To_numbers To_words Na_count Na_words Na_count_2 Na_words_2 D) _ _ _ _ _ To_kinds To_starts To_numbers To_words _ _ _ Na_count Na_words Na_count_2 Na_words_2 = some _ from h) ⟨rfl, rfl⟩)), (fun h => Ct.ofR (by decide +kernel) rfl (Nat.le_of_ble_eq_true rfl) (rt_Re_readSingle i0 i1 i2 i3 i4 i5 i6 i7 (show f_Re_readSingle N (f_Re_parse N To_kinds To_starts To_numbers To_words Na_count Na_words Na_count_2 Na_words_2 D) _ _ _ _ _ To_kinds To_starts To_numbers To_words _ _ _ Na_count Na_words Na_count_2 Na_words_2 = some _ from h) ⟨rfl, rfl⟩)), (fun h => Ct.ofR (by decide +kernel) rfl (Nat.le_of_ble_eq_true rfl) (rt_Re_readCompared i0 i1 i2 i3 i4 i5 i6 i7 (show f_Re_readCompared N (f_Re_parse N To_kinds To_starts To_numbers To_words Na_count Na_words Na_count_2 Na_words_2 D) _ _ _ _ _ To_kinds To_starts To_numbers To_words _ _ _ Na_count Na_words Na_count_2 Na_words_2 = some _ from h) ⟨rfl, rfl⟩)), (fun h => Ct.ofR (by decide +kernel) rfl (Nat.le_of_ble_eq_true rfl) (rt_Re_readSum i0 i1 i2 i3 i4 i5 i6 i7 (show f_Re_readSum N (f_Re_parse N To_kinds To_starts To_numbers To_words Na_count Na_words Na_count_2 Na_words_2 D) _ _ _ _ _ To_kinds To_starts To_numbers To_words _ _ _ Na_count Na_words Na_count_2 Na_words_2 = some _ from h) ⟨rfl, rfl⟩)), (fun h => Ct.ofR (by decide +kernel) rfl (Nat.le_of_ble_eq_true rfl) (rt_Re_readProduct i0 i1 i2 i3 i4 i5 i6 i7 (show f_Re_readProduct N (f_Re_parse N To_kinds To_starts To_numbers To_words Na_count Na_words Na_count_2 Na_words_2 D) _ _ _ _ _ To_kinds To_starts To_numbers To_words _ _ _ Na_count Na_words Na_count_2 Na_words_2 = some _ from h) ⟨rfl, rfl⟩)), (fun h => Ct.ofR (by decide +kernel) rfl (Nat.le_of_ble_eq_true rfl) (rt_Re_readValue i0 i1 i2 i3 i4 i5 i6 i7 (show f_Re_readValue N (f_Re_parse N To_kinds To_starts To_numbers To_words Na_count Na_words Na_count_2 Na_words_2 D) _ _ _ _ _ To_kinds To_starts To_numbers To_words _ _ _ Na_count Na_words Na_count_2 Na_words_2 = some _ from h) ⟨rfl, rfl⟩)), (fun h => Ct.ofR (by decide +kernel) rfl (Nat.le_of_ble_eq_true rfl) (rt_Re_readTwoSums i0 i1 i2 i3 i4 i5 i6 i7 (show f_Re_readTwoSums N (f_Re_parse N To_kinds To_starts To_numbers To_words Na_count Na_words Na_count_2 Na_words_2 D) _ _ _ _ _ To_kinds To_starts To_numbers To_words _ _ _ Na_count Na_words Na_count_2 Na_words_2 = some _ from h) ⟨rfl, rfl⟩))⟩
theorem ct_Re_parse_0 {g : GG} {ad : Nat → Nat} {N : Nat} {x0 x1 x3 x4 x5 x11 x12 x18 x19 x20 x29 x30 x31 x37 x39 x40 x41 x47 x58 x59 x60 x61 x63 x64 x65 x66 : Int32} {x2 x6 x7 x8 x9 x10 x13 x14 x15 x16 x17 x21 x22 x23 x42 x43 x44 x45 x46 x49 x50 x51 x62 x67 : Nat → Int32} {x32 : Int64} {x38 : Nat → Int64} {To_kinds : Nat → Int32} {To_starts : Nat → Int32} {To_numbers : Nat → Int32} {To_words : Nat → Int64} {Na_count : Int32} {Na_words : Nat → Int64} {Na_count_2 : Int32} {Na_words_2 : Nat → Int64} : ∀ {w0 : Int32} {w1 : Int32} {w2 : Int32} {w3 : Int32} {w4 : Int32} {w5 : Int32} {w6 : Nat → Int32} {w7 : Nat → Int32} {o : Int32 × Int32 × Int32 × Int32 × Int32 × Int32 × (Nat → Int32) × (Nat → Int32)} {t : va_W}, f_Re_parse N To_kinds To_starts To_numbers To_words Na_count Na_words Na_count_2 Na_words_2 64 0 0 0 (w0, w1, w2, w3, w4, w5, w6, w7) = some o → Ct g mX4_readTest (71) 0 0 [.ref (ad 33)] (wlX g ad x0 x1 x2 x3 x4 x5 x6 x7 x8 x9 x10 x11 x12 x13 x14 x15 x16 x17 x18 x19 x20 x21 x22 x23 w0 w1 w2 w3 w4 x29 x30 x31 x32 To_kinds To_starts To_numbers To_words x37 x38 x39 x40 x41 x42 x43 x44 x45 x46 x47 w5 x49 x50 x51 w6 w7 Na_count Na_words Na_count_2 Na_words_2 x58 x59 x60 x61 x62 x63 x64 x65 x66 x67 ++ t) (Dv (none) (wlX g ad x0 x1 x2 x3 x4 x5 x6 x7 x8 x9 x10 x11 x12 x13 x14 x15 x16 x17 x18 x19 x20 x21 x22 x23 o.1 o.2.1 o.2.2.1 o.2.2.2.1 o.2.2.2.2.1 x29 x30 x31 x32 To_kinds To_starts To_numbers To_words x37 x38 x39 x40 x41 x42 x43 x44 x45 x46 x47 o.2.2.2.2.2.1 x49 x50 x51 o.2.2.2.2.2.2.1 o.2.2.2.2.2.2.2 Na_count Na_words Na_count_2 Na_words_2 x58 x59 x60 x61 x62 x63 x64 x65 x66 x67 ++ t)) := (ct_Re_parse 64).1
theorem ct_Re_parse_1 {g : GG} {ad : Nat → Nat} {N : Nat} {x0 x1 x3 x4 x5 x11 x12 x18 x19 x20 x29 x30 x31 x37 x39 x40 x41 x47 x58 x59 x60 x61 x63 x64 x65 x66 : Int32} {x2 x6 x7 x8 x9 x10 x13 x14 x15 x16 x17 x21 x22 x23 x42 x43 x44 x45 x46 x49 x50 x51 x62 x67 : Nat → Int32} {x32 : Int64} {x38 : Nat → Int64} {To_kinds : Nat → Int32} {To_starts : Nat → Int32} {To_numbers : Nat → Int32} {To_words : Nat → Int64} {Na_count : Int32} {Na_words : Nat → Int64} {Na_count_2 : Int32} {Na_words_2 : Nat → Int64} : ∀ {w0 : Int32} {w1 : Int32} {w2 : Int32} {w3 : Int32} {w4 : Int32} {w5 : Int32} {w6 : Nat → Int32} {w7 : Nat → Int32} {o : Int32 × Int32 × Int32 × Int32 × Int32 × Int32 × (Nat → Int32) × (Nat → Int32)} {t : va_W}, f_Re_parse N To_kinds To_starts To_numbers To_words Na_count Na_words Na_count_2 Na_words_2 64 1 0 0 (w0, w1, w2, w3, w4, w5, w6, w7) = some o → Ct g mX4_readBoth (71) 0 0 [.ref (ad 33)] (wlX g ad x0 x1 x2 x3 x4 x5 x6 x7 x8 x9 x10 x11 x12 x13 x14 x15 x16 x17 x18 x19 x20 x21 x22 x23 w0 w1 w2 w3 w4 x29 x30 x31 x32 To_kinds To_starts To_numbers To_words x37 x38 x39 x40 x41 x42 x43 x44 x45 x46 x47 w5 x49 x50 x51 w6 w7 Na_count Na_words Na_count_2 Na_words_2 x58 x59 x60 x61 x62 x63 x64 x65 x66 x67 ++ t) (Dv (none) (wlX g ad x0 x1 x2 x3 x4 x5 x6 x7 x8 x9 x10 x11 x12 x13 x14 x15 x16 x17 x18 x19 x20 x21 x22 x23 o.1 o.2.1 o.2.2.1 o.2.2.2.1 o.2.2.2.2.1 x29 x30 x31 x32 To_kinds To_starts To_numbers To_words x37 x38 x39 x40 x41 x42 x43 x44 x45 x46 x47 o.2.2.2.2.2.1 x49 x50 x51 o.2.2.2.2.2.2.1 o.2.2.2.2.2.2.2 Na_count Na_words Na_count_2 Na_words_2 x58 x59 x60 x61 x62 x63 x64 x65 x66 x67 ++ t)) := (ct_Re_parse 64).2.1
theorem ct_Re_parse_2 {g : GG} {ad : Nat → Nat} {N : Nat} {x0 x1 x3 x4 x5 x11 x12 x18 x19 x20 x29 x30 x31 x37 x39 x40 x41 x47 x58 x59 x60 x61 x63 x64 x65 x66 : Int32} {x2 x6 x7 x8 x9 x10 x13 x14 x15 x16 x17 x21 x22 x23 x42 x43 x44 x45 x46 x49 x50 x51 x62 x67 : Nat → Int32} {x32 : Int64} {x38 : Nat → Int64} {To_kinds : Nat → Int32} {To_starts : Nat → Int32} {To_numbers : Nat → Int32} {To_words : Nat → Int64} {Na_count : Int32} {Na_words : Nat → Int64} {Na_count_2 : Int32} {Na_words_2 : Nat → Int64} : ∀ {w0 : Int32} {w1 : Int32} {w2 : Int32} {w3 : Int32} {w4 : Int32} {w5 : Int32} {w6 : Nat → Int32} {w7 : Nat → Int32} {o : Int32 × Int32 × Int32 × Int32 × Int32 × Int32 × (Nat → Int32) × (Nat → Int32)} {t : va_W}, f_Re_parse N To_kinds To_starts To_numbers To_words Na_count Na_words Na_count_2 Na_words_2 64 2 0 0 (w0, w1, w2, w3, w4, w5, w6, w7) = some o → Ct g mX4_readSingle (71) 0 0 [.ref (ad 33)] (wlX g ad x0 x1 x2 x3 x4 x5 x6 x7 x8 x9 x10 x11 x12 x13 x14 x15 x16 x17 x18 x19 x20 x21 x22 x23 w0 w1 w2 w3 w4 x29 x30 x31 x32 To_kinds To_starts To_numbers To_words x37 x38 x39 x40 x41 x42 x43 x44 x45 x46 x47 w5 x49 x50 x51 w6 w7 Na_count Na_words Na_count_2 Na_words_2 x58 x59 x60 x61 x62 x63 x64 x65 x66 x67 ++ t) (Dv (none) (wlX g ad x0 x1 x2 x3 x4 x5 x6 x7 x8 x9 x10 x11 x12 x13 x14 x15 x16 x17 x18 x19 x20 x21 x22 x23 o.1 o.2.1 o.2.2.1 o.2.2.2.1 o.2.2.2.2.1 x29 x30 x31 x32 To_kinds To_starts To_numbers To_words x37 x38 x39 x40 x41 x42 x43 x44 x45 x46 x47 o.2.2.2.2.2.1 x49 x50 x51 o.2.2.2.2.2.2.1 o.2.2.2.2.2.2.2 Na_count Na_words Na_count_2 Na_words_2 x58 x59 x60 x61 x62 x63 x64 x65 x66 x67 ++ t)) := (ct_Re_parse 64).2.2.1
theorem ct_Re_parse_3 {g : GG} {ad : Nat → Nat} {N : Nat} {x0 x1 x3 x4 x5 x11 x12 x18 x19 x20 x29 x30 x31 x37 x39 x40 x41 x47 x58 x59 x60 x61 x63 x64 x65 x66 : Int32} {x2 x6 x7 x8 x9 x10 x13 x14 x15 x16 x17 x21 x22 x23 x42 x43 x44 x45 x46 x49 x50 x51 x62 x67 : Nat → Int32} {x32 : Int64} {x38 : Nat → Int64} {To_kinds : Nat → Int32} {To_starts : Nat → Int32} {To_numbers : Nat → Int32} {To_words : Nat → Int64} {Na_count : Int32} {Na_words : Nat → Int64} {Na_count_2 : Int32} {Na_words_2 : Nat → Int64} : ∀ {w0 : Int32} {w1 : Int32} {w2 : Int32} {w3 : Int32} {w4 : Int32} {w5 : Int32} {w6 : Nat → Int32} {w7 : Nat → Int32} {o : Int32 × Int32 × Int32 × Int32 × Int32 × Int32 × (Nat → Int32) × (Nat → Int32)} {t : va_W}, f_Re_parse N To_kinds To_starts To_numbers To_words Na_count Na_words Na_count_2 Na_words_2 64 3 0 0 (w0, w1, w2, w3, w4, w5, w6, w7) = some o → Ct g mX4_readCompared (71) 0 0 [.ref (ad 33)] (wlX g ad x0 x1 x2 x3 x4 x5 x6 x7 x8 x9 x10 x11 x12 x13 x14 x15 x16 x17 x18 x19 x20 x21 x22 x23 w0 w1 w2 w3 w4 x29 x30 x31 x32 To_kinds To_starts To_numbers To_words x37 x38 x39 x40 x41 x42 x43 x44 x45 x46 x47 w5 x49 x50 x51 w6 w7 Na_count Na_words Na_count_2 Na_words_2 x58 x59 x60 x61 x62 x63 x64 x65 x66 x67 ++ t) (Dv (none) (wlX g ad x0 x1 x2 x3 x4 x5 x6 x7 x8 x9 x10 x11 x12 x13 x14 x15 x16 x17 x18 x19 x20 x21 x22 x23 o.1 o.2.1 o.2.2.1 o.2.2.2.1 o.2.2.2.2.1 x29 x30 x31 x32 To_kinds To_starts To_numbers To_words x37 x38 x39 x40 x41 x42 x43 x44 x45 x46 x47 o.2.2.2.2.2.1 x49 x50 x51 o.2.2.2.2.2.2.1 o.2.2.2.2.2.2.2 Na_count Na_words Na_count_2 Na_words_2 x58 x59 x60 x61 x62 x63 x64 x65 x66 x67 ++ t)) := (ct_Re_parse 64).2.2.2.1
theorem ct_Re_parse_4 {g : GG} {ad : Nat → Nat} {N : Nat} {x0 x1 x3 x4 x5 x11 x12 x18 x19 x20 x29 x30 x31 x37 x39 x40 x41 x47 x58 x59 x60 x61 x63 x64 x65 x66 : Int32} {x2 x6 x7 x8 x9 x10 x13 x14 x15 x16 x17 x21 x22 x23 x42 x43 x44 x45 x46 x49 x50 x51 x62 x67 : Nat → Int32} {x32 : Int64} {x38 : Nat → Int64} {To_kinds : Nat → Int32} {To_starts : Nat → Int32} {To_numbers : Nat → Int32} {To_words : Nat → Int64} {Na_count : Int32} {Na_words : Nat → Int64} {Na_count_2 : Int32} {Na_words_2 : Nat → Int64} : ∀ {w0 : Int32} {w1 : Int32} {w2 : Int32} {w3 : Int32} {w4 : Int32} {w5 : Int32} {w6 : Nat → Int32} {w7 : Nat → Int32} {o : Int32 × Int32 × Int32 × Int32 × Int32 × Int32 × (Nat → Int32) × (Nat → Int32)} {t : va_W}, f_Re_parse N To_kinds To_starts To_numbers To_words Na_count Na_words Na_count_2 Na_words_2 64 4 0 0 (w0, w1, w2, w3, w4, w5, w6, w7) = some o → Ct g mX4_readSum (71) 0 0 [.ref (ad 33)] (wlX g ad x0 x1 x2 x3 x4 x5 x6 x7 x8 x9 x10 x11 x12 x13 x14 x15 x16 x17 x18 x19 x20 x21 x22 x23 w0 w1 w2 w3 w4 x29 x30 x31 x32 To_kinds To_starts To_numbers To_words x37 x38 x39 x40 x41 x42 x43 x44 x45 x46 x47 w5 x49 x50 x51 w6 w7 Na_count Na_words Na_count_2 Na_words_2 x58 x59 x60 x61 x62 x63 x64 x65 x66 x67 ++ t) (Dv (none) (wlX g ad x0 x1 x2 x3 x4 x5 x6 x7 x8 x9 x10 x11 x12 x13 x14 x15 x16 x17 x18 x19 x20 x21 x22 x23 o.1 o.2.1 o.2.2.1 o.2.2.2.1 o.2.2.2.2.1 x29 x30 x31 x32 To_kinds To_starts To_numbers To_words x37 x38 x39 x40 x41 x42 x43 x44 x45 x46 x47 o.2.2.2.2.2.1 x49 x50 x51 o.2.2.2.2.2.2.1 o.2.2.2.2.2.2.2 Na_count Na_words Na_count_2 Na_words_2 x58 x59 x60 x61 x62 x63 x64 x65 x66 x67 ++ t)) := (ct_Re_parse 64).2.2.2.2.1
theorem ct_Re_parse_5 {g : GG} {ad : Nat → Nat} {N : Nat} {x0 x1 x3 x4 x5 x11 x12 x18 x19 x20 x29 x30 x31 x37 x39 x40 x41 x47 x58 x59 x60 x61 x63 x64 x65 x66 : Int32} {x2 x6 x7 x8 x9 x10 x13 x14 x15 x16 x17 x21 x22 x23 x42 x43 x44 x45 x46 x49 x50 x51 x62 x67 : Nat → Int32} {x32 : Int64} {x38 : Nat → Int64} {To_kinds : Nat → Int32} {To_starts : Nat → Int32} {To_numbers : Nat → Int32} {To_words : Nat → Int64} {Na_count : Int32} {Na_words : Nat → Int64} {Na_count_2 : Int32} {Na_words_2 : Nat → Int64} : ∀ {w0 : Int32} {w1 : Int32} {w2 : Int32} {w3 : Int32} {w4 : Int32} {w5 : Int32} {w6 : Nat → Int32} {w7 : Nat → Int32} {o : Int32 × Int32 × Int32 × Int32 × Int32 × Int32 × (Nat → Int32) × (Nat → Int32)} {t : va_W}, f_Re_parse N To_kinds To_starts To_numbers To_words Na_count Na_words Na_count_2 Na_words_2 64 5 0 0 (w0, w1, w2, w3, w4, w5, w6, w7) = some o → Ct g mX4_readProduct (71) 0 0 [.ref (ad 33)] (wlX g ad x0 x1 x2 x3 x4 x5 x6 x7 x8 x9 x10 x11 x12 x13 x14 x15 x16 x17 x18 x19 x20 x21 x22 x23 w0 w1 w2 w3 w4 x29 x30 x31 x32 To_kinds To_starts To_numbers To_words x37 x38 x39 x40 x41 x42 x43 x44 x45 x46 x47 w5 x49 x50 x51 w6 w7 Na_count Na_words Na_count_2 Na_words_2 x58 x59 x60 x61 x62 x63 x64 x65 x66 x67 ++ t) (Dv (none) (wlX g ad x0 x1 x2 x3 x4 x5 x6 x7 x8 x9 x10 x11 x12 x13 x14 x15 x16 x17 x18 x19 x20 x21 x22 x23 o.1 o.2.1 o.2.2.1 o.2.2.2.1 o.2.2.2.2.1 x29 x30 x31 x32 To_kinds To_starts To_numbers To_words x37 x38 x39 x40 x41 x42 x43 x44 x45 x46 x47 o.2.2.2.2.2.1 x49 x50 x51 o.2.2.2.2.2.2.1 o.2.2.2.2.2.2.2 Na_count Na_words Na_count_2 Na_words_2 x58 x59 x60 x61 x62 x63 x64 x65 x66 x67 ++ t)) := (ct_Re_parse 64).2.2.2.2.2.1
theorem ct_Re_parse_6 {g : GG} {ad : Nat → Nat} {N : Nat} {x0 x1 x3 x4 x5 x11 x12 x18 x19 x20 x29 x30 x31 x37 x39 x40 x41 x47 x58 x59 x60 x61 x63 x64 x65 x66 : Int32} {x2 x6 x7 x8 x9 x10 x13 x14 x15 x16 x17 x21 x22 x23 x42 x43 x44 x45 x46 x49 x50 x51 x62 x67 : Nat → Int32} {x32 : Int64} {x38 : Nat → Int64} {To_kinds : Nat → Int32} {To_starts : Nat → Int32} {To_numbers : Nat → Int32} {To_words : Nat → Int64} {Na_count : Int32} {Na_words : Nat → Int64} {Na_count_2 : Int32} {Na_words_2 : Nat → Int64} : ∀ {w0 : Int32} {w1 : Int32} {w2 : Int32} {w3 : Int32} {w4 : Int32} {w5 : Int32} {w6 : Nat → Int32} {w7 : Nat → Int32} {o : Int32 × Int32 × Int32 × Int32 × Int32 × Int32 × (Nat → Int32) × (Nat → Int32)} {t : va_W}, f_Re_parse N To_kinds To_starts To_numbers To_words Na_count Na_words Na_count_2 Na_words_2 64 6 0 0 (w0, w1, w2, w3, w4, w5, w6, w7) = some o → Ct g mX4_readValue (71) 0 0 [.ref (ad 33)] (wlX g ad x0 x1 x2 x3 x4 x5 x6 x7 x8 x9 x10 x11 x12 x13 x14 x15 x16 x17 x18 x19 x20 x21 x22 x23 w0 w1 w2 w3 w4 x29 x30 x31 x32 To_kinds To_starts To_numbers To_words x37 x38 x39 x40 x41 x42 x43 x44 x45 x46 x47 w5 x49 x50 x51 w6 w7 Na_count Na_words Na_count_2 Na_words_2 x58 x59 x60 x61 x62 x63 x64 x65 x66 x67 ++ t) (Dv (none) (wlX g ad x0 x1 x2 x3 x4 x5 x6 x7 x8 x9 x10 x11 x12 x13 x14 x15 x16 x17 x18 x19 x20 x21 x22 x23 o.1 o.2.1 o.2.2.1 o.2.2.2.1 o.2.2.2.2.1 x29 x30 x31 x32 To_kinds To_starts To_numbers To_words x37 x38 x39 x40 x41 x42 x43 x44 x45 x46 x47 o.2.2.2.2.2.1 x49 x50 x51 o.2.2.2.2.2.2.1 o.2.2.2.2.2.2.2 Na_count Na_words Na_count_2 Na_words_2 x58 x59 x60 x61 x62 x63 x64 x65 x66 x67 ++ t)) := (ct_Re_parse 64).2.2.2.2.2.2.1
theorem ct_Re_parse_7 {g : GG} {ad : Nat → Nat} {N : Nat} {x0 x1 x3 x4 x5 x11 x12 x18 x19 x20 x29 x30 x31 x37 x39 x40 x41 x47 x58 x59 x60 x61 x63 x64 x65 x66 : Int32} {x2 x6 x7 x8 x9 x10 x13 x14 x15 x16 x17 x21 x22 x23 x42 x43 x44 x45 x46 x49 x50 x51 x62 x67 : Nat → Int32} {x32 : Int64} {x38 : Nat → Int64} {To_kinds : Nat → Int32} {To_starts : Nat → Int32} {To_numbers : Nat → Int32} {To_words : Nat → Int64} {Na_count : Int32} {Na_words : Nat → Int64} {Na_count_2 : Int32} {Na_words_2 : Nat → Int64} : ∀ {w0 : Int32} {w1 : Int32} {w2 : Int32} {w3 : Int32} {w4 : Int32} {w5 : Int32} {w6 : Nat → Int32} {w7 : Nat → Int32} {o : Int32 × Int32 × Int32 × Int32 × Int32 × Int32 × (Nat → Int32) × (Nat → Int32)} {t : va_W}, f_Re_parse N To_kinds To_starts To_numbers To_words Na_count Na_words Na_count_2 Na_words_2 64 7 0 0 (w0, w1, w2, w3, w4, w5, w6, w7) = some o → Ct g mX4_readTwoSums (71) 0 0 [.ref (ad 33)] (wlX g ad x0 x1 x2 x3 x4 x5 x6 x7 x8 x9 x10 x11 x12 x13 x14 x15 x16 x17 x18 x19 x20 x21 x22 x23 w0 w1 w2 w3 w4 x29 x30 x31 x32 To_kinds To_starts To_numbers To_words x37 x38 x39 x40 x41 x42 x43 x44 x45 x46 x47 w5 x49 x50 x51 w6 w7 Na_count Na_words Na_count_2 Na_words_2 x58 x59 x60 x61 x62 x63 x64 x65 x66 x67 ++ t) (Dv (none) (wlX g ad x0 x1 x2 x3 x4 x5 x6 x7 x8 x9 x10 x11 x12 x13 x14 x15 x16 x17 x18 x19 x20 x21 x22 x23 o.1 o.2.1 o.2.2.1 o.2.2.2.1 o.2.2.2.2.1 x29 x30 x31 x32 To_kinds To_starts To_numbers To_words x37 x38 x39 x40 x41 x42 x43 x44 x45 x46 x47 o.2.2.2.2.2.1 x49 x50 x51 o.2.2.2.2.2.2.1 o.2.2.2.2.2.2.2 Na_count Na_words Na_count_2 Na_words_2 x58 x59 x60 x61 x62 x63 x64 x65 x66 x67 ++ t)) := (ct_Re_parse 64).2.2.2.2.2.2.2
