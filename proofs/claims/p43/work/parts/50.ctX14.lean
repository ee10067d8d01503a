set_option maxRecDepth 20000 in
set_option maxHeartbeats 4000000 in
theorem rt_Co_reckon {g : GG} {ad : Nat → Nat} {t : va_W} {x0 x1 x3 x4 x5 x11 x12 x18 x19 x20 x24 x25 x26 x27 x28 x29 x30 x31 x37 x39 x40 x41 x47 x48 x54 x56 x59 x60 x61 x63 x64 x65 x66 : Int32} {x2 x6 x7 x8 x9 x10 x13 x14 x15 x16 x17 x21 x22 x23 x33 x34 x35 x42 x43 x44 x45 x46 x49 x50 x51 x52 x53 x67 : Nat → Int32} {x32 : Int64} {x36 x38 x55 x57 : Nat → Int64} {Co_top : Int32} {Co_stack : Nat → Int32} {p1 : Int32} {o : Int32 × (Nat → Int32)} {Q : Rs → va_W → Prop} (h : f_Co_reckon Co_top Co_stack p1 = some o) (hq : Q (.inl (none)) (wlX g ad x0 x1 x2 x3 x4 x5 x6 x7 x8 x9 x10 x11 x12 x13 x14 x15 x16 x17 x18 x19 x20 x21 x22 x23 x24 x25 x26 x27 x28 x29 x30 x31 x32 x33 x34 x35 x36 x37 x38 x39 x40 x41 x42 x43 x44 x45 x46 x47 x48 x49 x50 x51 x52 x53 x54 x55 x56 x57 o.1 x59 x60 x61 o.2 x63 x64 x65 x66 x67 ++ t)) : R g mX1_reckon 3 0 0 0 [(0, .ref (ad 71)), (1, .int p1)] [] (wlX g ad x0 x1 x2 x3 x4 x5 x6 x7 x8 x9 x10 x11 x12 x13 x14 x15 x16 x17 x18 x19 x20 x21 x22 x23 x24 x25 x26 x27 x28 x29 x30 x31 x32 x33 x34 x35 x36 x37 x38 x39 x40 x41 x42 x43 x44 x45 x46 x47 x48 x49 x50 x51 x52 x53 x54 x55 x56 x57 Co_top x59 x60 x61 Co_stack x63 x64 x65 x66 x67 ++ t) Q := by
  unfold f_Co_reckon at h
  refine r_aload_n 0 dX1_reckon_0 rfl ?_
  obtain ⟨r1075, hc1076, h⟩ := ob (fun z9 => z9) rfl h
  refine c_V (rest := []) 0 0 _ dX1_reckon_1 kv_X1_91 (ct_Co_pop hc1076) rfl rfl lX_71 rfl (Nat.le_of_ble_eq_true rfl) (by decide) (by decide) ?_
  refine r_istore_n [(2, .int r1075.1), (0, .ref (ad 71)), (1, .int p1)] dX1_reckon_4 (by decide) rfl ?_
  refine r_iload_n 2 dX1_reckon_5 rfl ?_
  refine r_sipush (v := (134 : Int32)) dX1_reckon_6 (by decide) ?_
  refine r_icmp_ne (tgt := 21) dX1_reckon_9 (by decide) (fun hc1077 => ?_) (fun hc1077 => ?_)
  · have h := iq (fun z9 => z9) hc1077 h
    refine r_iload_n 2 dX1_reckon_21 rfl ?_
    refine r_sipush (v := (220 : Int32)) dX1_reckon_22 (by decide) ?_
    refine r_icmp_ne (tgt := 47) dX1_reckon_25 (by decide) (fun hc1078 => ?_) (fun hc1078 => ?_)
    · have h := iq (fun z9 => z9) hc1078 h
      refine r_aload_n 1 dX1_reckon_47 rfl ?_
      refine r_iload_n 2 dX1_reckon_48 rfl ?_
      refine r_aload_n 1 dX1_reckon_49 rfl ?_
      obtain ⟨r1079, hc1080, h⟩ := ob (fun z9 => z9) rfl h
      refine c_V (rest := [.int p1, .ref (ad 71)]) 0 0 _ dX1_reckon_50 kv_X1_91 (ct_Co_pop hc1080) rfl rfl lX_71 rfl (Nat.le_of_ble_eq_true rfl) (by decide) (by decide) ?_
      refine r_iload_n 0 dX1_reckon_53 rfl ?_
      refine c_S (rest := [.ref (ad 71)]) 0 0 dX1_reckon_54 ks_X1_136 (ct_Co_combine rfl) rfl rfl (Nat.le_of_ble_eq_true rfl) (by decide) (by decide) ?_
      obtain ⟨r1081, hc1082, h⟩ := ob (fun z9 => z9) rfl h
      refine c_Vv (rest := []) 0 0 _ dX1_reckon_57 kv_X1_85 (ct_Co_push hc1082) rfl rfl lX_71 rfl (Nat.le_of_ble_eq_true rfl) (by decide) (by decide) ?_
      refine r_vret dX1_reckon_60 rfl ?_
      have h := Option.some.inj (show some _ = some o from h)
      subst h
      exact hq
    · have h := ip (fun z9 => z9) hc1078 h
      refine r_aload_n 1 dX1_reckon_28 rfl ?_
      refine r_iload_n 0 dX1_reckon_29 rfl ?_
      refine r_if_ne (tgt := 37) dX1_reckon_30 (by decide) (fun hc1083 => ?_) (fun hc1083 => ?_)
      · have h := iq (fun z9 => z9) hc1083 h
        refine r_iconst (v := (0 : Int32)) dX1_reckon_37 (by decide) ?_
        refine c_SN (rest := [.ref (ad 71)]) 0 0 dX1_reckon_38 kq_X1_128 (ct_Main_one rfl) rfl rfl (Nat.le_of_ble_eq_true rfl) (by decide) (by decide) ?_
        obtain ⟨r1084, hc1085, h⟩ := ob (fun z9 => z9) rfl h
        refine c_Vv (rest := []) 0 0 _ dX1_reckon_41 kv_X1_85 (ct_Co_push hc1085) rfl rfl lX_71 rfl (Nat.le_of_ble_eq_true rfl) (by decide) (by decide) ?_
        refine r_goto (tgt := 60) dX1_reckon_44 (by decide) ?_
        refine r_vret dX1_reckon_60 rfl ?_
        have h := Option.some.inj (show some _ = some o from h)
        subst h
        exact hq
      · have h := ip (fun z9 => z9) hc1083 h
        refine r_iconst (v := (1 : Int32)) dX1_reckon_33 (by decide) ?_
        refine r_goto (tgt := 38) dX1_reckon_34 (by decide) ?_
        refine c_SN (rest := [.ref (ad 71)]) 0 0 dX1_reckon_38 kq_X1_128 (ct_Main_one rfl) rfl rfl (Nat.le_of_ble_eq_true rfl) (by decide) (by decide) ?_
        obtain ⟨r1086, hc1087, h⟩ := ob (fun z9 => z9) rfl h
        refine c_Vv (rest := []) 0 0 _ dX1_reckon_41 kv_X1_85 (ct_Co_push hc1087) rfl rfl lX_71 rfl (Nat.le_of_ble_eq_true rfl) (by decide) (by decide) ?_
        refine r_goto (tgt := 60) dX1_reckon_44 (by decide) ?_
        refine r_vret dX1_reckon_60 rfl ?_
        have h := Option.some.inj (show some _ = some o from h)
        subst h
        exact hq
  · have h := ip (fun z9 => z9) hc1077 h
    refine r_aload_n 1 dX1_reckon_12 rfl ?_
    refine r_iload_n 0 dX1_reckon_13 rfl ?_
    refine r_ineg dX1_reckon_14 ?_
    obtain ⟨r1088, hc1089, h⟩ := ob (fun z9 => z9) rfl h
    refine c_Vv (rest := []) 0 0 _ dX1_reckon_15 kv_X1_85 (ct_Co_push hc1089) rfl rfl lX_71 rfl (Nat.le_of_ble_eq_true rfl) (by decide) (by decide) ?_
    refine r_goto (tgt := 60) dX1_reckon_18 (by decide) ?_
    refine r_vret dX1_reckon_60 rfl ?_
    have h := Option.some.inj (show some _ = some o from h)
    subst h
    exact hq
theorem ct_Co_reckon {g : GG} {ad : Nat → Nat} {t : va_W} {x0 x1 x3 x4 x5 x11 x12 x18 x19 x20 x24 x25 x26 x27 x28 x29 x30 x31 x37 x39 x40 x41 x47 x48 x54 x56 x59 x60 x61 x63 x64 x65 x66 : Int32} {x2 x6 x7 x8 x9 x10 x13 x14 x15 x16 x17 x21 x22 x23 x33 x34 x35 x42 x43 x44 x45 x46 x49 x50 x51 x52 x53 x67 : Nat → Int32} {x32 : Int64} {x36 x38 x55 x57 : Nat → Int64} {Co_top : Int32} {Co_stack : Nat → Int32} {p1 : Int32} {o : Int32 × (Nat → Int32)} (h : f_Co_reckon Co_top Co_stack p1 = some o) : Ct g mX1_reckon 3 0 0 [.ref (ad 71), .int p1] (wlX g ad x0 x1 x2 x3 x4 x5 x6 x7 x8 x9 x10 x11 x12 x13 x14 x15 x16 x17 x18 x19 x20 x21 x22 x23 x24 x25 x26 x27 x28 x29 x30 x31 x32 x33 x34 x35 x36 x37 x38 x39 x40 x41 x42 x43 x44 x45 x46 x47 x48 x49 x50 x51 x52 x53 x54 x55 x56 x57 Co_top x59 x60 x61 Co_stack x63 x64 x65 x66 x67 ++ t) (Dv (none) (wlX g ad x0 x1 x2 x3 x4 x5 x6 x7 x8 x9 x10 x11 x12 x13 x14 x15 x16 x17 x18 x19 x20 x21 x22 x23 x24 x25 x26 x27 x28 x29 x30 x31 x32 x33 x34 x35 x36 x37 x38 x39 x40 x41 x42 x43 x44 x45 x46 x47 x48 x49 x50 x51 x52 x53 x54 x55 x56 x57 o.1 x59 x60 x61 o.2 x63 x64 x65 x66 x67 ++ t)) := Ct.ofR (by decide +kernel) rfl (Nat.le_of_ble_eq_true rfl) (rt_Co_reckon h ⟨rfl, rfl⟩)
set_option maxRecDepth 20000 in
set_option maxHeartbeats 4000000 in
theorem rt_Co_holds {g : GG} {ad : Nat → Nat} {t : va_W} {x0 x1 x3 x11 x12 x24 x25 x26 x27 x28 x29 x30 x31 x37 x39 x40 x41 x47 x48 x54 x56 x61 x63 x64 x65 x66 : Int32} {x2 x13 x14 x22 x23 x33 x34 x35 x42 x43 x44 x45 x46 x49 x50 x51 x52 x53 x67 : Nat → Int32} {x32 : Int64} {x36 x38 x55 x57 : Nat → Int64} {N : Nat} {Tap_tellerCount : Int32} {Cl_count : Int32} {Cl_tellers : Nat → Int32} {Cl_kinds : Nat → Int32} {Cl_events : Nat → Int32} {Cl_firsts : Nat → Int32} {Cl_lasts : Nat → Int32} {Or_ends : Nat → Int32} {Or_stepKinds : Nat → Int32} {Or_stepParts : Nat → Int32} {Ve_judged : Int32} {Ve_liarSet : Int32} {Ve_setCount : Int32} {Ve_against : Nat → Int32} {Co_top : Int32} {Co_doubted : Int32} {Co_evening : Int32} {Co_stack : Nat → Int32} {p1 : Int32} {o : Int32 × Int32 × Int32 × Int32 × Int32 × (Nat → Int32)} {Q : Rs → va_W → Prop} (h : f_Co_holds N Tap_tellerCount Cl_count Cl_tellers Cl_kinds Cl_events Cl_firsts Cl_lasts Or_ends Or_stepKinds Or_stepParts Ve_judged Ve_liarSet Ve_setCount Ve_against Co_top Co_doubted Co_evening Co_stack p1 = some o) (hq : Q (.inl (some (.int o.1))) (wlX g ad x0 x1 x2 x3 Tap_tellerCount Cl_count Cl_tellers Cl_kinds Cl_events Cl_firsts Cl_lasts x11 x12 x13 x14 Or_ends Or_stepKinds Or_stepParts o.2.1 o.2.2.1 o.2.2.2.1 Ve_against x22 x23 x24 x25 x26 x27 x28 x29 x30 x31 x32 x33 x34 x35 x36 x37 x38 x39 x40 x41 x42 x43 x44 x45 x46 x47 x48 x49 x50 x51 x52 x53 x54 x55 x56 x57 o.2.2.2.2.1 Co_doubted Co_evening x61 o.2.2.2.2.2 x63 x64 x65 x66 x67 ++ t)) : R g mX1_holds 6 0 0 0 [(0, .ref (ad 71)), (1, .int p1)] [] (wlX g ad x0 x1 x2 x3 Tap_tellerCount Cl_count Cl_tellers Cl_kinds Cl_events Cl_firsts Cl_lasts x11 x12 x13 x14 Or_ends Or_stepKinds Or_stepParts Ve_judged Ve_liarSet Ve_setCount Ve_against x22 x23 x24 x25 x26 x27 x28 x29 x30 x31 x32 x33 x34 x35 x36 x37 x38 x39 x40 x41 x42 x43 x44 x45 x46 x47 x48 x49 x50 x51 x52 x53 x54 x55 x56 x57 Co_top Co_doubted Co_evening x61 Co_stack x63 x64 x65 x66 x67 ++ t) Q := by
  unfold f_Co_holds at h
  refine r_aload_n 0 dX1_holds_0 rfl ?_
  refine r_getf (v := .ref (ad 3)) _ dX1_holds_1 fl_X1_9 lX_71 rfl ?_
  refine r_getf (v := .ref (ad 15)) _ dX1_holds_4 fl_X1_38 lX_3 rfl ?_
  refine r_iload_n 1 dX1_holds_7 rfl ?_
  refine c_V (rest := []) 0 0 _ dX1_holds_8 kv_X1_66 (ct_Or_startOf rfl) rfl rfl lX_15 rfl (Nat.le_of_ble_eq_true rfl) (by decide) (by decide) ?_
  refine r_istore_n [(2, .int (f_Or_startOf Or_ends p1)), (0, .ref (ad 71)), (1, .int p1)] dX1_holds_11 (by decide) rfl ?_
  refine r_aload_n 1 dX1_holds_12 rfl ?_
  refine r_getf (v := .ref (ad 3)) _ dX1_holds_13 fl_X1_9 lX_71 rfl ?_
  refine r_getf (v := .ref (ad 15)) _ dX1_holds_16 fl_X1_38 lX_3 rfl ?_
  refine r_getf (v := .ref (ad 20)) _ dX1_holds_19 fl_X1_69 lX_15 rfl ?_
  refine r_iload_n 2 dX1_holds_22 rfl ?_
  refine c_V (rest := []) 0 0 _ dX1_holds_23 kv_X1_59 (ct_Row_get lX_20 lX_21 (Nat.le_of_ble_eq_true rfl)) rfl rfl lX_20 rfl (Nat.le_of_ble_eq_true rfl) (by decide) (by decide) ?_
  refine r_istore_n [(3, .int (rget 16 Or_ends p1)), (2, .int (f_Or_startOf Or_ends p1)), (0, .ref (ad 71)), (1, .int p1)] dX1_holds_26 (by decide) rfl ?_
  refine r_iload_n 1 dX1_holds_27 rfl ?_
  refine r_iload_n 0 dX1_holds_28 rfl ?_
  refine r_icmp_lt (tgt := 34) dX1_holds_29 (by decide) (fun hc1090 => ?_) (fun hc1090 => ?_)
  · have h := ip (fun z9 => z9) hc1090 h
    refine r_aload_n 2 dX1_holds_34 rfl ?_
    refine r_iconst (v := (0 : Int32)) dX1_holds_35 (by decide) ?_
    refine r_putf _ dX1_holds_36 fl_X1_72 lX_71 (Nat.le_of_ble_eq_true rfl) rfl rfl (sX_58 _) ?_
    refine r_iload_n 1 dX1_holds_39 rfl ?_
    refine r_istore [(4, .int (f_Or_startOf Or_ends p1)), (3, .int (rget 16 Or_ends p1)), (2, .int (f_Or_startOf Or_ends p1)), (0, .ref (ad 71)), (1, .int p1)] dX1_holds_40 (by decide) rfl ?_
    refine r_ls [3, 1, 0] (ls2 := [(0, .ref (ad 71)), (3, .int (rget 16 Or_ends p1)), (4, .int (f_Or_startOf Or_ends p1))]) rfl ?_
    have L1 : ∀ (n1 : Nat) (c3_1 : Int32) (l4_1 : Int32) (Ve_judged_1 : Int32) (Ve_liarSet_1 : Int32) (Ve_setCount_1 : Int32) (Co_top_1 : Int32) (Co_stack_1 : Nat → Int32), (fun z9 => z9) (lpS (f_Co_holds_L42 N Tap_tellerCount Cl_count Cl_tellers Cl_kinds Cl_events Cl_firsts Cl_lasts Or_stepKinds Or_stepParts Ve_against Co_doubted Co_evening c3_1) none n1 (l4_1, Ve_judged_1, Ve_liarSet_1, Ve_setCount_1, Co_top_1, Co_stack_1)) = some o → R g mX1_holds 6 0 0 42 [(0, .ref (ad 71)), (3, .int c3_1), (4, .int l4_1)] [] (wlX g ad x0 x1 x2 x3 Tap_tellerCount Cl_count Cl_tellers Cl_kinds Cl_events Cl_firsts Cl_lasts x11 x12 x13 x14 Or_ends Or_stepKinds Or_stepParts Ve_judged_1 Ve_liarSet_1 Ve_setCount_1 Ve_against x22 x23 x24 x25 x26 x27 x28 x29 x30 x31 x32 x33 x34 x35 x36 x37 x38 x39 x40 x41 x42 x43 x44 x45 x46 x47 x48 x49 x50 x51 x52 x53 x54 x55 x56 x57 Co_top_1 Co_doubted Co_evening x61 Co_stack_1 x63 x64 x65 x66 x67 ++ t) Q := by
      intro n1
      induction n1 with
      | zero => intro c3_1 l4_1 Ve_judged_1 Ve_liarSet_1 Ve_setCount_1 Co_top_1 Co_stack_1 h; exact nomatch (show (none : Option _) = some _ from h)
      | succ n1 ih1 =>
        intro c3_1 l4_1 Ve_judged_1 Ve_liarSet_1 Ve_setCount_1 Co_top_1 Co_stack_1 h
        have h : (fun z9 => (lC (f_Co_holds_L42 N Tap_tellerCount Cl_count Cl_tellers Cl_kinds Cl_events Cl_firsts Cl_lasts Or_stepKinds Or_stepParts Ve_against Co_doubted Co_evening c3_1) none n1 z9)) (f_Co_holds_L42 N Tap_tellerCount Cl_count Cl_tellers Cl_kinds Cl_events Cl_firsts Cl_lasts Or_stepKinds Or_stepParts Ve_against Co_doubted Co_evening c3_1 (l4_1, Ve_judged_1, Ve_liarSet_1, Ve_setCount_1, Co_top_1, Co_stack_1)) = some o := h
        unfold f_Co_holds_L42 at h
        try dsimp only at h
        refine r_iload 2 dX1_holds_42 rfl ?_
        refine r_iload_n 1 dX1_holds_44 rfl ?_
        refine r_icmp_ge (tgt := 129) dX1_holds_45 (by decide) (fun hc1091 => ?_) (fun hc1091 => ?_)
        · have h := ip (fun z9 => (lC (f_Co_holds_L42 N Tap_tellerCount Cl_count Cl_tellers Cl_kinds Cl_events Cl_firsts Cl_lasts Or_stepKinds Or_stepParts Ve_against Co_doubted Co_evening c3_1) none n1 z9)) hc1091 h
          refine r_aload_n 0 dX1_holds_129 rfl ?_
          obtain ⟨r1092, hc1093, h⟩ := ob (fun z9 => (lC (f_Co_holds_L42 N Tap_tellerCount Cl_count Cl_tellers Cl_kinds Cl_events Cl_firsts Cl_lasts Or_stepKinds Or_stepParts Ve_against Co_doubted Co_evening c3_1) none n1 z9)) rfl h
          refine c_V (rest := []) 0 0 _ dX1_holds_130 kv_X1_91 (ct_Co_pop hc1093) rfl rfl lX_71 rfl (Nat.le_of_ble_eq_true rfl) (by decide) (by decide) ?_
          refine r_if_eq (tgt := 140) dX1_holds_133 (by decide) (fun hc1094 => ?_) (fun hc1094 => ?_)
          · have h := ip (fun z9 => (lC (f_Co_holds_L42 N Tap_tellerCount Cl_count Cl_tellers Cl_kinds Cl_events Cl_firsts Cl_lasts Or_stepKinds Or_stepParts Ve_against Co_doubted Co_evening c3_1) none n1 z9)) hc1094 h
            refine r_iconst (v := (0 : Int32)) dX1_holds_140 (by decide) ?_
            refine r_zret dX1_holds_141 rfl (by decide) ?_
            have h := Option.some.inj (show some _ = some o from h)
            subst h
            exact hq
          · have h := iq (fun z9 => (lC (f_Co_holds_L42 N Tap_tellerCount Cl_count Cl_tellers Cl_kinds Cl_events Cl_firsts Cl_lasts Or_stepKinds Or_stepParts Ve_against Co_doubted Co_evening c3_1) none n1 z9)) hc1094 h
            refine r_iconst (v := (1 : Int32)) dX1_holds_136 (by decide) ?_
            refine r_goto (tgt := 141) dX1_holds_137 (by decide) ?_
            refine r_zret dX1_holds_141 rfl (by decide) ?_
            have h := Option.some.inj (show some _ = some o from h)
            subst h
            exact hq
        · have h := iq (fun z9 => (lC (f_Co_holds_L42 N Tap_tellerCount Cl_count Cl_tellers Cl_kinds Cl_events Cl_firsts Cl_lasts Or_stepKinds Or_stepParts Ve_against Co_doubted Co_evening c3_1) none n1 z9)) hc1091 h
          refine r_aload_n 0 dX1_holds_48 rfl ?_
          refine r_getf (v := .ref (ad 3)) _ dX1_holds_49 fl_X1_9 lX_71 rfl ?_
          refine r_getf (v := .ref (ad 15)) _ dX1_holds_52 fl_X1_38 lX_3 rfl ?_
          refine r_getf (v := .ref (ad 22)) _ dX1_holds_55 fl_X1_75 lX_15 rfl ?_
          refine r_iload 2 dX1_holds_58 rfl ?_
          refine c_V (rest := []) 0 0 _ dX1_holds_60 kv_X1_59 (ct_Row_get lX_22 lX_23 (Nat.le_of_ble_eq_true rfl)) rfl rfl lX_22 rfl (Nat.le_of_ble_eq_true rfl) (by decide) (by decide) ?_
          refine r_istore [(5, .int (rget 400 Or_stepKinds l4_1)), (0, .ref (ad 71)), (3, .int c3_1), (4, .int l4_1)] dX1_holds_63 (by decide) rfl ?_
          refine r_iload 0 dX1_holds_65 rfl ?_
          refine r_sipush (v := (131 : Int32)) dX1_holds_67 (by decide) ?_
          refine r_icmp_eq (tgt := 89) dX1_holds_70 (by decide) (fun hc1095 => ?_) (fun hc1095 => ?_)
          · have h := ip (fun z9 => (lC (f_Co_holds_L42 N Tap_tellerCount Cl_count Cl_tellers Cl_kinds Cl_events Cl_firsts Cl_lasts Or_stepKinds Or_stepParts Ve_against Co_doubted Co_evening c3_1) none n1 z9)) hc1095 h
            refine r_aload_n 1 dX1_holds_89 rfl ?_
            refine r_aload_n 1 dX1_holds_90 rfl ?_
            refine r_iload 0 dX1_holds_91 rfl ?_
            refine r_aload_n 1 dX1_holds_93 rfl ?_
            refine r_getf (v := .ref (ad 3)) _ dX1_holds_94 fl_X1_9 lX_71 rfl ?_
            refine r_getf (v := .ref (ad 15)) _ dX1_holds_97 fl_X1_38 lX_3 rfl ?_
            refine r_getf (v := .ref (ad 24)) _ dX1_holds_100 fl_X1_78 lX_15 rfl ?_
            refine r_iload 3 dX1_holds_103 rfl ?_
            refine c_V (rest := [.int (rget 400 Or_stepKinds l4_1), .ref (ad 71), .ref (ad 71)]) 0 0 _ dX1_holds_105 kv_X1_59 (ct_Row_get lX_24 lX_25 (Nat.le_of_ble_eq_true rfl)) rfl rfl lX_24 rfl (Nat.le_of_ble_eq_true rfl) (by decide) (by decide) ?_
            obtain ⟨r1096, hc1097, h⟩ := ob (fun z9 => (lC (f_Co_holds_L42 N Tap_tellerCount Cl_count Cl_tellers Cl_kinds Cl_events Cl_firsts Cl_lasts Or_stepKinds Or_stepParts Ve_against Co_doubted Co_evening c3_1) none n1 z9)) rfl h
            refine c_V (rest := [.ref (ad 71)]) 0 0 _ dX1_holds_108 kv_X1_81 (ct_Co_fact hc1097) rfl rfl lX_71 rfl (Nat.le_of_ble_eq_true rfl) (by decide) (by decide) ?_
            obtain ⟨r1098, hc1099, h⟩ := ob (fun z9 => (lC (f_Co_holds_L42 N Tap_tellerCount Cl_count Cl_tellers Cl_kinds Cl_events Cl_firsts Cl_lasts Or_stepKinds Or_stepParts Ve_against Co_doubted Co_evening c3_1) none n1 z9)) rfl h
            refine c_Vv (rest := []) 0 0 _ dX1_holds_111 kv_X1_85 (ct_Co_push hc1099) rfl rfl lX_71 rfl (Nat.le_of_ble_eq_true rfl) (by decide) (by decide) ?_
            refine r_goto (tgt := 123) dX1_holds_114 (by decide) ?_
            refine r_iinc (v2 := (l4_1 + (1 : Int32))) 3 [(4, .int (l4_1 + (1 : Int32))), (5, .int (rget 400 Or_stepKinds l4_1)), (0, .ref (ad 71)), (3, .int c3_1)] dX1_holds_123 rfl rfl (by decide) rfl ?_
            refine r_goto (tgt := 42) dX1_holds_126 (by decide) ?_
            refine r_ls [2, 3, 0] (ls2 := [(0, .ref (ad 71)), (3, .int c3_1), (4, .int (l4_1 + (1 : Int32)))]) rfl ?_
            exact ih1 c3_1 (l4_1 + (1 : Int32)) r1096.2.1 r1096.2.2.1 r1096.2.2.2 r1098.1 r1098.2 h
          · have h := iq (fun z9 => (lC (f_Co_holds_L42 N Tap_tellerCount Cl_count Cl_tellers Cl_kinds Cl_events Cl_firsts Cl_lasts Or_stepKinds Or_stepParts Ve_against Co_doubted Co_evening c3_1) none n1 z9)) hc1095 h
            refine r_iload 0 dX1_holds_73 rfl ?_
            refine r_sipush (v := (210 : Int32)) dX1_holds_75 (by decide) ?_
            refine r_icmp_lt (tgt := 117) dX1_holds_78 (by decide) (fun hc1100 => ?_) (fun hc1100 => ?_)
            · have h := ip (fun z9 => (lC (f_Co_holds_L42 N Tap_tellerCount Cl_count Cl_tellers Cl_kinds Cl_events Cl_firsts Cl_lasts Or_stepKinds Or_stepParts Ve_against Co_doubted Co_evening c3_1) none n1 z9)) hc1100 h
              refine r_aload_n 1 dX1_holds_117 rfl ?_
              refine r_iload 0 dX1_holds_118 rfl ?_
              obtain ⟨r1101, hc1102, h⟩ := ob (fun z9 => (lC (f_Co_holds_L42 N Tap_tellerCount Cl_count Cl_tellers Cl_kinds Cl_events Cl_firsts Cl_lasts Or_stepKinds Or_stepParts Ve_against Co_doubted Co_evening c3_1) none n1 z9)) rfl h
              refine c_Vv (rest := []) 0 0 _ dX1_holds_120 kv_X1_88 (ct_Co_reckon hc1102) rfl rfl lX_71 rfl (Nat.le_of_ble_eq_true rfl) (by decide) (by decide) ?_
              refine r_iinc (v2 := (l4_1 + (1 : Int32))) 3 [(4, .int (l4_1 + (1 : Int32))), (5, .int (rget 400 Or_stepKinds l4_1)), (0, .ref (ad 71)), (3, .int c3_1)] dX1_holds_123 rfl rfl (by decide) rfl ?_
              refine r_goto (tgt := 42) dX1_holds_126 (by decide) ?_
              refine r_ls [2, 3, 0] (ls2 := [(0, .ref (ad 71)), (3, .int c3_1), (4, .int (l4_1 + (1 : Int32)))]) rfl ?_
              exact ih1 c3_1 (l4_1 + (1 : Int32)) Ve_judged_1 Ve_liarSet_1 Ve_setCount_1 r1101.1 r1101.2 h
            · have h := iq (fun z9 => (lC (f_Co_holds_L42 N Tap_tellerCount Cl_count Cl_tellers Cl_kinds Cl_events Cl_firsts Cl_lasts Or_stepKinds Or_stepParts Ve_against Co_doubted Co_evening c3_1) none n1 z9)) hc1100 h
              refine r_iload 0 dX1_holds_81 rfl ?_
              refine r_sipush (v := (219 : Int32)) dX1_holds_83 (by decide) ?_
              refine r_icmp_gt (tgt := 117) dX1_holds_86 (by decide) (fun hc1103 => ?_) (fun hc1103 => ?_)
              · have h := ip (fun z9 => (lC (f_Co_holds_L42 N Tap_tellerCount Cl_count Cl_tellers Cl_kinds Cl_events Cl_firsts Cl_lasts Or_stepKinds Or_stepParts Ve_against Co_doubted Co_evening c3_1) none n1 z9)) hc1103 h
                refine r_aload_n 1 dX1_holds_117 rfl ?_
                refine r_iload 0 dX1_holds_118 rfl ?_
                obtain ⟨r1104, hc1105, h⟩ := ob (fun z9 => (lC (f_Co_holds_L42 N Tap_tellerCount Cl_count Cl_tellers Cl_kinds Cl_events Cl_firsts Cl_lasts Or_stepKinds Or_stepParts Ve_against Co_doubted Co_evening c3_1) none n1 z9)) rfl h
                refine c_Vv (rest := []) 0 0 _ dX1_holds_120 kv_X1_88 (ct_Co_reckon hc1105) rfl rfl lX_71 rfl (Nat.le_of_ble_eq_true rfl) (by decide) (by decide) ?_
                refine r_iinc (v2 := (l4_1 + (1 : Int32))) 3 [(4, .int (l4_1 + (1 : Int32))), (5, .int (rget 400 Or_stepKinds l4_1)), (0, .ref (ad 71)), (3, .int c3_1)] dX1_holds_123 rfl rfl (by decide) rfl ?_
                refine r_goto (tgt := 42) dX1_holds_126 (by decide) ?_
                refine r_ls [2, 3, 0] (ls2 := [(0, .ref (ad 71)), (3, .int c3_1), (4, .int (l4_1 + (1 : Int32)))]) rfl ?_
                exact ih1 c3_1 (l4_1 + (1 : Int32)) Ve_judged_1 Ve_liarSet_1 Ve_setCount_1 r1104.1 r1104.2 h
              · have h := iq (fun z9 => (lC (f_Co_holds_L42 N Tap_tellerCount Cl_count Cl_tellers Cl_kinds Cl_events Cl_firsts Cl_lasts Or_stepKinds Or_stepParts Ve_against Co_doubted Co_evening c3_1) none n1 z9)) hc1103 h
                refine r_aload_n 1 dX1_holds_89 rfl ?_
                refine r_aload_n 1 dX1_holds_90 rfl ?_
                refine r_iload 0 dX1_holds_91 rfl ?_
                refine r_aload_n 1 dX1_holds_93 rfl ?_
                refine r_getf (v := .ref (ad 3)) _ dX1_holds_94 fl_X1_9 lX_71 rfl ?_
                refine r_getf (v := .ref (ad 15)) _ dX1_holds_97 fl_X1_38 lX_3 rfl ?_
                refine r_getf (v := .ref (ad 24)) _ dX1_holds_100 fl_X1_78 lX_15 rfl ?_
                refine r_iload 3 dX1_holds_103 rfl ?_
                refine c_V (rest := [.int (rget 400 Or_stepKinds l4_1), .ref (ad 71), .ref (ad 71)]) 0 0 _ dX1_holds_105 kv_X1_59 (ct_Row_get lX_24 lX_25 (Nat.le_of_ble_eq_true rfl)) rfl rfl lX_24 rfl (Nat.le_of_ble_eq_true rfl) (by decide) (by decide) ?_
                obtain ⟨r1106, hc1107, h⟩ := ob (fun z9 => (lC (f_Co_holds_L42 N Tap_tellerCount Cl_count Cl_tellers Cl_kinds Cl_events Cl_firsts Cl_lasts Or_stepKinds Or_stepParts Ve_against Co_doubted Co_evening c3_1) none n1 z9)) rfl h
                refine c_V (rest := [.ref (ad 71)]) 0 0 _ dX1_holds_108 kv_X1_81 (ct_Co_fact hc1107) rfl rfl lX_71 rfl (Nat.le_of_ble_eq_true rfl) (by decide) (by decide) ?_
                obtain ⟨r1108, hc1109, h⟩ := ob (fun z9 => (lC (f_Co_holds_L42 N Tap_tellerCount Cl_count Cl_tellers Cl_kinds Cl_events Cl_firsts Cl_lasts Or_stepKinds Or_stepParts Ve_against Co_doubted Co_evening c3_1) none n1 z9)) rfl h
                refine c_Vv (rest := []) 0 0 _ dX1_holds_111 kv_X1_85 (ct_Co_push hc1109) rfl rfl lX_71 rfl (Nat.le_of_ble_eq_true rfl) (by decide) (by decide) ?_
                refine r_goto (tgt := 123) dX1_holds_114 (by decide) ?_
                refine r_iinc (v2 := (l4_1 + (1 : Int32))) 3 [(4, .int (l4_1 + (1 : Int32))), (5, .int (rget 400 Or_stepKinds l4_1)), (0, .ref (ad 71)), (3, .int c3_1)] dX1_holds_123 rfl rfl (by decide) rfl ?_
                refine r_goto (tgt := 42) dX1_holds_126 (by decide) ?_
                refine r_ls [2, 3, 0] (ls2 := [(0, .ref (ad 71)), (3, .int c3_1), (4, .int (l4_1 + (1 : Int32)))]) rfl ?_
                exact ih1 c3_1 (l4_1 + (1 : Int32)) r1106.2.1 r1106.2.2.1 r1106.2.2.2 r1108.1 r1108.2 h
    exact L1 _ (rget 16 Or_ends p1) (f_Or_startOf Or_ends p1) Ve_judged Ve_liarSet Ve_setCount (0 : Int32) Co_stack h
  · have h := iq (fun z9 => z9) hc1090 h
    refine r_iconst (v := (1 : Int32)) dX1_holds_32 (by decide) ?_
    refine r_zret dX1_holds_33 rfl (by decide) ?_
    have h := Option.some.inj (show some _ = some o from h)
    subst h
    exact hq
theorem ct_Co_holds {g : GG} {ad : Nat → Nat} {t : va_W} {x0 x1 x3 x11 x12 x24 x25 x26 x27 x28 x29 x30 x31 x37 x39 x40 x41 x47 x48 x54 x56 x61 x63 x64 x65 x66 : Int32} {x2 x13 x14 x22 x23 x33 x34 x35 x42 x43 x44 x45 x46 x49 x50 x51 x52 x53 x67 : Nat → Int32} {x32 : Int64} {x36 x38 x55 x57 : Nat → Int64} {N : Nat} {Tap_tellerCount : Int32} {Cl_count : Int32} {Cl_tellers : Nat → Int32} {Cl_kinds : Nat → Int32} {Cl_events : Nat → Int32} {Cl_firsts : Nat → Int32} {Cl_lasts : Nat → Int32} {Or_ends : Nat → Int32} {Or_stepKinds : Nat → Int32} {Or_stepParts : Nat → Int32} {Ve_judged : Int32} {Ve_liarSet : Int32} {Ve_setCount : Int32} {Ve_against : Nat → Int32} {Co_top : Int32} {Co_doubted : Int32} {Co_evening : Int32} {Co_stack : Nat → Int32} {p1 : Int32} {o : Int32 × Int32 × Int32 × Int32 × Int32 × (Nat → Int32)} (h : f_Co_holds N Tap_tellerCount Cl_count Cl_tellers Cl_kinds Cl_events Cl_firsts Cl_lasts Or_ends Or_stepKinds Or_stepParts Ve_judged Ve_liarSet Ve_setCount Ve_against Co_top Co_doubted Co_evening Co_stack p1 = some o) : Ct g mX1_holds 6 0 0 [.ref (ad 71), .int p1] (wlX g ad x0 x1 x2 x3 Tap_tellerCount Cl_count Cl_tellers Cl_kinds Cl_events Cl_firsts Cl_lasts x11 x12 x13 x14 Or_ends Or_stepKinds Or_stepParts Ve_judged Ve_liarSet Ve_setCount Ve_against x22 x23 x24 x25 x26 x27 x28 x29 x30 x31 x32 x33 x34 x35 x36 x37 x38 x39 x40 x41 x42 x43 x44 x45 x46 x47 x48 x49 x50 x51 x52 x53 x54 x55 x56 x57 Co_top Co_doubted Co_evening x61 Co_stack x63 x64 x65 x66 x67 ++ t) (Dv (some (.int o.1)) (wlX g ad x0 x1 x2 x3 Tap_tellerCount Cl_count Cl_tellers Cl_kinds Cl_events Cl_firsts Cl_lasts x11 x12 x13 x14 Or_ends Or_stepKinds Or_stepParts o.2.1 o.2.2.1 o.2.2.2.1 Ve_against x22 x23 x24 x25 x26 x27 x28 x29 x30 x31 x32 x33 x34 x35 x36 x37 x38 x39 x40 x41 x42 x43 x44 x45 x46 x47 x48 x49 x50 x51 x52 x53 x54 x55 x56 x57 o.2.2.2.2.1 Co_doubted Co_evening x61 o.2.2.2.2.2 x63 x64 x65 x66 x67 ++ t)) := Ct.ofR (by decide +kernel) rfl (Nat.le_of_ble_eq_true rfl) (rt_Co_holds h ⟨rfl, rfl⟩)
set_option maxRecDepth 20000 in
set_option maxHeartbeats 4000000 in
theorem rt_Co_carryOut {g : GG} {ad : Nat → Nat} {t : va_W} {x0 x1 x3 x4 x5 x11 x12 x18 x19 x20 x24 x25 x26 x27 x28 x29 x30 x31 x37 x39 x40 x41 x47 x48 x54 x56 x58 x60 x63 x64 x65 x66 : Int32} {x2 x6 x7 x8 x9 x10 x15 x16 x17 x21 x22 x23 x33 x34 x35 x42 x43 x44 x45 x46 x49 x50 x51 x52 x53 x62 x67 : Nat → Int32} {x32 : Int64} {x36 x38 x55 x57 : Nat → Int64} {Or_doubts : Nat → Int32} {Or_tellers : Nat → Int32} {Co_doubted : Int32} {Co_carriedOut : Int32} {p1 : Int32} {o : Int32 × Int32} {Q : Rs → va_W → Prop} (h : f_Co_carryOut Or_doubts Or_tellers Co_doubted Co_carriedOut p1 = some o) (hq : Q (.inl (none)) (wlX g ad x0 x1 x2 x3 x4 x5 x6 x7 x8 x9 x10 x11 x12 Or_doubts Or_tellers x15 x16 x17 x18 x19 x20 x21 x22 x23 x24 x25 x26 x27 x28 x29 x30 x31 x32 x33 x34 x35 x36 x37 x38 x39 x40 x41 x42 x43 x44 x45 x46 x47 x48 x49 x50 x51 x52 x53 x54 x55 x56 x57 x58 o.1 x60 o.2 x62 x63 x64 x65 x66 x67 ++ t)) : R g mX1_carryOut 2 0 0 0 [(0, .ref (ad 71)), (1, .int p1)] [] (wlX g ad x0 x1 x2 x3 x4 x5 x6 x7 x8 x9 x10 x11 x12 Or_doubts Or_tellers x15 x16 x17 x18 x19 x20 x21 x22 x23 x24 x25 x26 x27 x28 x29 x30 x31 x32 x33 x34 x35 x36 x37 x38 x39 x40 x41 x42 x43 x44 x45 x46 x47 x48 x49 x50 x51 x52 x53 x54 x55 x56 x57 x58 Co_doubted x60 Co_carriedOut x62 x63 x64 x65 x66 x67 ++ t) Q := by
  unfold f_Co_carryOut at h
  refine r_iconst (v := (1 : Int32)) dX1_carryOut_0 (by decide) ?_
  refine r_aload_n 0 dX1_carryOut_1 rfl ?_
  refine r_getf (v := .ref (ad 3)) _ dX1_carryOut_2 fl_X1_9 lX_71 rfl ?_
  refine r_getf (v := .ref (ad 15)) _ dX1_carryOut_5 fl_X1_38 lX_3 rfl ?_
  refine r_getf (v := .ref (ad 18)) _ dX1_carryOut_8 fl_X1_56 lX_15 rfl ?_
  refine r_iload_n 1 dX1_carryOut_11 rfl ?_
  refine c_V (rest := [.int (1 : Int32)]) 0 0 _ dX1_carryOut_12 kv_X1_59 (ct_Row_get lX_18 lX_19 (Nat.le_of_ble_eq_true rfl)) rfl rfl lX_18 rfl (Nat.le_of_ble_eq_true rfl) (by decide) (by decide) ?_
  refine r_ishl dX1_carryOut_15 ?_
  refine r_istore_n [(2, .int ((1 : Int32) <<< ((rget 16 Or_tellers p1) &&& 31))), (0, .ref (ad 71)), (1, .int p1)] dX1_carryOut_16 (by decide) rfl ?_
  refine r_aload_n 1 dX1_carryOut_17 rfl ?_
  refine r_getf (v := .ref (ad 3)) _ dX1_carryOut_18 fl_X1_9 lX_71 rfl ?_
  refine r_getf (v := .ref (ad 15)) _ dX1_carryOut_21 fl_X1_38 lX_3 rfl ?_
  refine r_getf (v := .ref (ad 16)) _ dX1_carryOut_24 fl_X1_63 lX_15 rfl ?_
  refine r_iload_n 2 dX1_carryOut_27 rfl ?_
  refine c_V (rest := []) 0 0 _ dX1_carryOut_28 kv_X1_59 (ct_Row_get lX_16 lX_17 (Nat.le_of_ble_eq_true rfl)) rfl rfl lX_16 rfl (Nat.le_of_ble_eq_true rfl) (by decide) (by decide) ?_
  refine r_if_eq (tgt := 43) dX1_carryOut_31 (by decide) (fun hc1110 => ?_) (fun hc1110 => ?_)
  · have h := ip (fun z9 => z9) hc1110 h
    refine r_aload_n 1 dX1_carryOut_43 rfl ?_
    refine r_getf (v := .int Co_doubted) _ dX1_carryOut_44 fl_X1_28 lX_71 rfl ?_
    refine r_iload_n 0 dX1_carryOut_47 rfl ?_
    refine r_iconst (v := (-1 : Int32)) dX1_carryOut_48 (by decide) ?_
    refine r_ixor dX1_carryOut_49 ?_
    refine r_iand dX1_carryOut_50 ?_
    refine r_istore_n [(3, .int (Co_doubted &&& (((1 : Int32) <<< ((rget 16 Or_tellers p1) &&& 31)) ^^^ (-1 : Int32)))), (2, .int ((1 : Int32) <<< ((rget 16 Or_tellers p1) &&& 31))), (0, .ref (ad 71)), (1, .int p1)] dX1_carryOut_51 (by decide) rfl ?_
    refine r_iload_n 0 dX1_carryOut_52 rfl ?_
    refine r_aload_n 2 dX1_carryOut_53 rfl ?_
    refine r_getf (v := .int Co_doubted) _ dX1_carryOut_54 fl_X1_28 lX_71 rfl ?_
    refine r_icmp_eq (tgt := 75) dX1_carryOut_57 (by decide) (fun hc1111 => ?_) (fun hc1111 => ?_)
    · have h := ip (fun z9 => z9) hc1111 h
      refine r_vret dX1_carryOut_75 rfl ?_
      have h := Option.some.inj (show some _ = some o from h)
      subst h
      exact hq
    · have h := iq (fun z9 => z9) hc1111 h
      refine r_aload_n 2 dX1_carryOut_60 rfl ?_
      refine r_iload_n 0 dX1_carryOut_61 rfl ?_
      refine r_putf _ dX1_carryOut_62 fl_X1_28 lX_71 (Nat.le_of_ble_eq_true rfl) rfl rfl (sX_59 _) ?_
      refine r_aload_n 2 dX1_carryOut_65 rfl ?_
      refine r_dup dX1_carryOut_66 rfl ?_
      refine r_getf (v := .int Co_carriedOut) _ dX1_carryOut_67 fl_X1_35 lX_71 rfl ?_
      refine r_iconst (v := (1 : Int32)) dX1_carryOut_70 (by decide) ?_
      refine r_iadd dX1_carryOut_71 ?_
      refine r_putf _ dX1_carryOut_72 fl_X1_35 lX_71 (Nat.le_of_ble_eq_true rfl) rfl rfl (sX_61 _) ?_
      refine r_vret dX1_carryOut_75 rfl ?_
      have h := Option.some.inj (show some _ = some o from h)
      subst h
      exact hq
  · have h := iq (fun z9 => z9) hc1110 h
    refine r_aload_n 1 dX1_carryOut_34 rfl ?_
    refine r_getf (v := .int Co_doubted) _ dX1_carryOut_35 fl_X1_28 lX_71 rfl ?_
    refine r_iload_n 0 dX1_carryOut_38 rfl ?_
    refine r_ior dX1_carryOut_39 ?_
    refine r_goto (tgt := 51) dX1_carryOut_40 (by decide) ?_
    refine r_istore_n [(3, .int (Co_doubted ||| ((1 : Int32) <<< ((rget 16 Or_tellers p1) &&& 31)))), (2, .int ((1 : Int32) <<< ((rget 16 Or_tellers p1) &&& 31))), (0, .ref (ad 71)), (1, .int p1)] dX1_carryOut_51 (by decide) rfl ?_
    refine r_iload_n 0 dX1_carryOut_52 rfl ?_
    refine r_aload_n 2 dX1_carryOut_53 rfl ?_
    refine r_getf (v := .int Co_doubted) _ dX1_carryOut_54 fl_X1_28 lX_71 rfl ?_
    refine r_icmp_eq (tgt := 75) dX1_carryOut_57 (by decide) (fun hc1112 => ?_) (fun hc1112 => ?_)
    · have h := ip (fun z9 => z9) hc1112 h
      refine r_vret dX1_carryOut_75 rfl ?_
      have h := Option.some.inj (show some _ = some o from h)
      subst h
      exact hq
    · have h := iq (fun z9 => z9) hc1112 h
      refine r_aload_n 2 dX1_carryOut_60 rfl ?_
      refine r_iload_n 0 dX1_carryOut_61 rfl ?_
      refine r_putf _ dX1_carryOut_62 fl_X1_28 lX_71 (Nat.le_of_ble_eq_true rfl) rfl rfl (sX_59 _) ?_
      refine r_aload_n 2 dX1_carryOut_65 rfl ?_
      refine r_dup dX1_carryOut_66 rfl ?_
      refine r_getf (v := .int Co_carriedOut) _ dX1_carryOut_67 fl_X1_35 lX_71 rfl ?_
      refine r_iconst (v := (1 : Int32)) dX1_carryOut_70 (by decide) ?_
      refine r_iadd dX1_carryOut_71 ?_
      refine r_putf _ dX1_carryOut_72 fl_X1_35 lX_71 (Nat.le_of_ble_eq_true rfl) rfl rfl (sX_61 _) ?_
      refine r_vret dX1_carryOut_75 rfl ?_
      have h := Option.some.inj (show some _ = some o from h)
      subst h
      exact hq
theorem ct_Co_carryOut {g : GG} {ad : Nat → Nat} {t : va_W} {x0 x1 x3 x4 x5 x11 x12 x18 x19 x20 x24 x25 x26 x27 x28 x29 x30 x31 x37 x39 x40 x41 x47 x48 x54 x56 x58 x60 x63 x64 x65 x66 : Int32} {x2 x6 x7 x8 x9 x10 x15 x16 x17 x21 x22 x23 x33 x34 x35 x42 x43 x44 x45 x46 x49 x50 x51 x52 x53 x62 x67 : Nat → Int32} {x32 : Int64} {x36 x38 x55 x57 : Nat → Int64} {Or_doubts : Nat → Int32} {Or_tellers : Nat → Int32} {Co_doubted : Int32} {Co_carriedOut : Int32} {p1 : Int32} {o : Int32 × Int32} (h : f_Co_carryOut Or_doubts Or_tellers Co_doubted Co_carriedOut p1 = some o) : Ct g mX1_carryOut 2 0 0 [.ref (ad 71), .int p1] (wlX g ad x0 x1 x2 x3 x4 x5 x6 x7 x8 x9 x10 x11 x12 Or_doubts Or_tellers x15 x16 x17 x18 x19 x20 x21 x22 x23 x24 x25 x26 x27 x28 x29 x30 x31 x32 x33 x34 x35 x36 x37 x38 x39 x40 x41 x42 x43 x44 x45 x46 x47 x48 x49 x50 x51 x52 x53 x54 x55 x56 x57 x58 Co_doubted x60 Co_carriedOut x62 x63 x64 x65 x66 x67 ++ t) (Dv (none) (wlX g ad x0 x1 x2 x3 x4 x5 x6 x7 x8 x9 x10 x11 x12 Or_doubts Or_tellers x15 x16 x17 x18 x19 x20 x21 x22 x23 x24 x25 x26 x27 x28 x29 x30 x31 x32 x33 x34 x35 x36 x37 x38 x39 x40 x41 x42 x43 x44 x45 x46 x47 x48 x49 x50 x51 x52 x53 x54 x55 x56 x57 x58 o.1 x60 o.2 x62 x63 x64 x65 x66 x67 ++ t)) := Ct.ofR (by decide +kernel) rfl (Nat.le_of_ble_eq_true rfl) (rt_Co_carryOut h ⟨rfl, rfl⟩)
set_option maxRecDepth 20000 in
set_option maxHeartbeats 4000000 in
theorem rt_Co_passOne {g : GG} {ad : Nat → Nat} {t : va_W} {x0 x1 x3 x12 x24 x25 x26 x27 x28 x29 x30 x31 x37 x39 x40 x41 x47 x48 x54 x56 x63 x64 x65 x66 : Int32} {x2 x22 x23 x33 x34 x35 x42 x43 x44 x45 x46 x49 x50 x51 x52 x53 x67 : Nat → Int32} {x32 : Int64} {x36 x38 x55 x57 : Nat → Int64} {N : Nat} {Tap_tellerCount : Int32} {Cl_count : Int32} {Cl_tellers : Nat → Int32} {Cl_kinds : Nat → Int32} {Cl_events : Nat → Int32} {Cl_firsts : Nat → Int32} {Cl_lasts : Nat → Int32} {Or_count : Int32} {Or_doubts : Nat → Int32} {Or_tellers : Nat → Int32} {Or_ends : Nat → Int32} {Or_stepKinds : Nat → Int32} {Or_stepParts : Nat → Int32} {Ve_judged : Int32} {Ve_liarSet : Int32} {Ve_setCount : Int32} {Ve_against : Nat → Int32} {Co_top : Int32} {Co_doubted : Int32} {Co_evening : Int32} {Co_carriedOut : Int32} {Co_stack : Nat → Int32} {o : Int32 × Int32 × Int32 × Int32 × Int32 × Int32 × Int32 × (Nat → Int32)} {Q : Rs → va_W → Prop} (h : f_Co_passOne N Tap_tellerCount Cl_count Cl_tellers Cl_kinds Cl_events Cl_firsts Cl_lasts Or_count Or_doubts Or_tellers Or_ends Or_stepKinds Or_stepParts Ve_judged Ve_liarSet Ve_setCount Ve_against Co_top Co_doubted Co_evening Co_carriedOut Co_stack = some o) (hq : Q (.inl (none)) (wlX g ad x0 x1 x2 x3 Tap_tellerCount Cl_count Cl_tellers Cl_kinds Cl_events Cl_firsts Cl_lasts Or_count x12 Or_doubts Or_tellers Or_ends Or_stepKinds Or_stepParts o.1 o.2.1 o.2.2.1 Ve_against x22 x23 x24 x25 x26 x27 x28 x29 x30 x31 x32 x33 x34 x35 x36 x37 x38 x39 x40 x41 x42 x43 x44 x45 x46 x47 x48 x49 x50 x51 x52 x53 x54 x55 x56 x57 o.2.2.2.1 o.2.2.2.2.1 o.2.2.2.2.2.1 o.2.2.2.2.2.2.1 o.2.2.2.2.2.2.2 x63 x64 x65 x66 x67 ++ t)) : R g mX1_passOne 7 0 0 0 [(0, .ref (ad 71))] [] (wlX g ad x0 x1 x2 x3 Tap_tellerCount Cl_count Cl_tellers Cl_kinds Cl_events Cl_firsts Cl_lasts Or_count x12 Or_doubts Or_tellers Or_ends Or_stepKinds Or_stepParts Ve_judged Ve_liarSet Ve_setCount Ve_against x22 x23 x24 x25 x26 x27 x28 x29 x30 x31 x32 x33 x34 x35 x36 x37 x38 x39 x40 x41 x42 x43 x44 x45 x46 x47 x48 x49 x50 x51 x52 x53 x54 x55 x56 x57 Co_top Co_doubted Co_evening Co_carriedOut Co_stack x63 x64 x65 x66 x67 ++ t) Q := by
  unfold f_Co_passOne at h
  refine r_iconst (v := (0 : Int32)) dX1_passOne_0 (by decide) ?_
  refine r_istore_n [(1, .int (0 : Int32)), (0, .ref (ad 71))] dX1_passOne_1 (by decide) rfl ?_
  refine r_ls [1, 0] (ls2 := [(0, .ref (ad 71)), (1, .int (0 : Int32))]) rfl ?_
  have L1 : ∀ (n1 : Nat) (l1_1 : Int32) (Ve_judged_1 : Int32) (Ve_liarSet_1 : Int32) (Ve_setCount_1 : Int32) (Co_top_1 : Int32) (Co_doubted_1 : Int32) (Co_carriedOut_1 : Int32) (Co_stack_1 : Nat → Int32), (fun z9 => z9) (lpS (f_Co_passOne_L2 N Tap_tellerCount Cl_count Cl_tellers Cl_kinds Cl_events Cl_firsts Cl_lasts Or_count Or_doubts Or_tellers Or_ends Or_stepKinds Or_stepParts Ve_against Co_evening) none n1 (l1_1, Ve_judged_1, Ve_liarSet_1, Ve_setCount_1, Co_top_1, Co_doubted_1, Co_carriedOut_1, Co_stack_1)) = some o → R g mX1_passOne 7 0 0 2 [(0, .ref (ad 71)), (1, .int l1_1)] [] (wlX g ad x0 x1 x2 x3 Tap_tellerCount Cl_count Cl_tellers Cl_kinds Cl_events Cl_firsts Cl_lasts Or_count x12 Or_doubts Or_tellers Or_ends Or_stepKinds Or_stepParts Ve_judged_1 Ve_liarSet_1 Ve_setCount_1 Ve_against x22 x23 x24 x25 x26 x27 x28 x29 x30 x31 x32 x33 x34 x35 x36 x37 x38 x39 x40 x41 x42 x43 x44 x45 x46 x47 x48 x49 x50 x51 x52 x53 x54 x55 x56 x57 Co_top_1 Co_doubted_1 Co_evening Co_carriedOut_1 Co_stack_1 x63 x64 x65 x66 x67 ++ t) Q := by
    intro n1
    induction n1 with
    | zero => intro l1_1 Ve_judged_1 Ve_liarSet_1 Ve_setCount_1 Co_top_1 Co_doubted_1 Co_carriedOut_1 Co_stack_1 h; exact nomatch (show (none : Option _) = some _ from h)
    | succ n1 ih1 =>
      intro l1_1 Ve_judged_1 Ve_liarSet_1 Ve_setCount_1 Co_top_1 Co_doubted_1 Co_carriedOut_1 Co_stack_1 h
      have h : (fun z9 => (lC (f_Co_passOne_L2 N Tap_tellerCount Cl_count Cl_tellers Cl_kinds Cl_events Cl_firsts Cl_lasts Or_count Or_doubts Or_tellers Or_ends Or_stepKinds Or_stepParts Ve_against Co_evening) none n1 z9)) (f_Co_passOne_L2 N Tap_tellerCount Cl_count Cl_tellers Cl_kinds Cl_events Cl_firsts Cl_lasts Or_count Or_doubts Or_tellers Or_ends Or_stepKinds Or_stepParts Ve_against Co_evening (l1_1, Ve_judged_1, Ve_liarSet_1, Ve_setCount_1, Co_top_1, Co_doubted_1, Co_carriedOut_1, Co_stack_1)) = some o := h
      unfold f_Co_passOne_L2 at h
      try dsimp only at h
      refine r_iload_n 1 dX1_passOne_2 rfl ?_
      refine r_aload_n 0 dX1_passOne_3 rfl ?_
      refine r_getf (v := .ref (ad 3)) _ dX1_passOne_4 fl_X1_9 lX_71 rfl ?_
      refine r_getf (v := .ref (ad 15)) _ dX1_passOne_7 fl_X1_38 lX_3 rfl ?_
      refine r_getf (v := .int Or_count) _ dX1_passOne_10 fl_X1_44 lX_15 rfl ?_
      refine r_icmp_ge (tgt := 35) dX1_passOne_13 (by decide) (fun hc1113 => ?_) (fun hc1113 => ?_)
      · have h := ip (fun z9 => (lC (f_Co_passOne_L2 N Tap_tellerCount Cl_count Cl_tellers Cl_kinds Cl_events Cl_firsts Cl_lasts Or_count Or_doubts Or_tellers Or_ends Or_stepKinds Or_stepParts Ve_against Co_evening) none n1 z9)) hc1113 h
        refine r_aload_n 0 dX1_passOne_35 rfl ?_
        refine r_dup dX1_passOne_36 rfl ?_
        refine r_getf (v := .int Co_evening) _ dX1_passOne_37 fl_X1_32 lX_71 rfl ?_
        refine r_iconst (v := (1 : Int32)) dX1_passOne_40 (by decide) ?_
        refine r_iadd dX1_passOne_41 ?_
        refine r_putf _ dX1_passOne_42 fl_X1_32 lX_71 (Nat.le_of_ble_eq_true rfl) rfl rfl (sX_60 _) ?_
        refine r_vret dX1_passOne_45 rfl ?_
        have h := Option.some.inj (show some _ = some o from h)
        subst h
        exact hq
      · have h := iq (fun z9 => (lC (f_Co_passOne_L2 N Tap_tellerCount Cl_count Cl_tellers Cl_kinds Cl_events Cl_firsts Cl_lasts Or_count Or_doubts Or_tellers Or_ends Or_stepKinds Or_stepParts Ve_against Co_evening) none n1 z9)) hc1113 h
        refine r_aload_n 0 dX1_passOne_16 rfl ?_
        refine r_iload_n 1 dX1_passOne_17 rfl ?_
        obtain ⟨r1114, hc1115, h⟩ := ob (fun z9 => (lC (f_Co_passOne_L2 N Tap_tellerCount Cl_count Cl_tellers Cl_kinds Cl_events Cl_firsts Cl_lasts Or_count Or_doubts Or_tellers Or_ends Or_stepKinds Or_stepParts Ve_against Co_evening) none n1 z9)) rfl h
        refine c_V (rest := []) 0 0 _ dX1_passOne_18 kv_X1_49 (ct_Co_holds hc1115) rfl rfl lX_71 rfl (Nat.le_of_ble_eq_true rfl) (by decide) (by decide) ?_
        refine r_if_eq (tgt := 29) dX1_passOne_21 (by decide) (fun hc1116 => ?_) (fun hc1116 => ?_)
        · have h := ip (fun z9 => (lC (f_Co_passOne_L2 N Tap_tellerCount Cl_count Cl_tellers Cl_kinds Cl_events Cl_firsts Cl_lasts Or_count Or_doubts Or_tellers Or_ends Or_stepKinds Or_stepParts Ve_against Co_evening) none n1 z9)) hc1116 h
          refine r_iinc (v2 := (l1_1 + (1 : Int32))) 1 [(1, .int (l1_1 + (1 : Int32))), (0, .ref (ad 71))] dX1_passOne_29 rfl rfl (by decide) rfl ?_
          refine r_goto (tgt := 2) dX1_passOne_32 (by decide) ?_
          refine r_ls [1, 0] (ls2 := [(0, .ref (ad 71)), (1, .int (l1_1 + (1 : Int32)))]) rfl ?_
          exact ih1 (l1_1 + (1 : Int32)) r1114.2.1 r1114.2.2.1 r1114.2.2.2.1 r1114.2.2.2.2.1 Co_doubted_1 Co_carriedOut_1 r1114.2.2.2.2.2 h
        · have h := iq (fun z9 => (lC (f_Co_passOne_L2 N Tap_tellerCount Cl_count Cl_tellers Cl_kinds Cl_events Cl_firsts Cl_lasts Or_count Or_doubts Or_tellers Or_ends Or_stepKinds Or_stepParts Ve_against Co_evening) none n1 z9)) hc1116 h
          refine r_aload_n 0 dX1_passOne_24 rfl ?_
          refine r_iload_n 1 dX1_passOne_25 rfl ?_
          obtain ⟨r1117, hc1118, h⟩ := ob (fun z9 => (lC (f_Co_passOne_L2 N Tap_tellerCount Cl_count Cl_tellers Cl_kinds Cl_events Cl_firsts Cl_lasts Or_count Or_doubts Or_tellers Or_ends Or_stepKinds Or_stepParts Ve_against Co_evening) none n1 z9)) rfl h
          refine c_Vv (rest := []) 0 0 _ dX1_passOne_26 kv_X1_53 (ct_Co_carryOut hc1118) rfl rfl lX_71 rfl (Nat.le_of_ble_eq_true rfl) (by decide) (by decide) ?_
          refine r_iinc (v2 := (l1_1 + (1 : Int32))) 1 [(1, .int (l1_1 + (1 : Int32))), (0, .ref (ad 71))] dX1_passOne_29 rfl rfl (by decide) rfl ?_
          refine r_goto (tgt := 2) dX1_passOne_32 (by decide) ?_
          refine r_ls [1, 0] (ls2 := [(0, .ref (ad 71)), (1, .int (l1_1 + (1 : Int32)))]) rfl ?_
          exact ih1 (l1_1 + (1 : Int32)) r1114.2.1 r1114.2.2.1 r1114.2.2.2.1 r1114.2.2.2.2.1 r1117.1 r1117.2 r1114.2.2.2.2.2 h
  exact L1 _ (0 : Int32) Ve_judged Ve_liarSet Ve_setCount Co_top Co_doubted Co_carriedOut Co_stack h
theorem ct_Co_passOne {g : GG} {ad : Nat → Nat} {t : va_W} {x0 x1 x3 x12 x24 x25 x26 x27 x28 x29 x30 x31 x37 x39 x40 x41 x47 x48 x54 x56 x63 x64 x65 x66 : Int32} {x2 x22 x23 x33 x34 x35 x42 x43 x44 x45 x46 x49 x50 x51 x52 x53 x67 : Nat → Int32} {x32 : Int64} {x36 x38 x55 x57 : Nat → Int64} {N : Nat} {Tap_tellerCount : Int32} {Cl_count : Int32} {Cl_tellers : Nat → Int32} {Cl_kinds : Nat → Int32} {Cl_events : Nat → Int32} {Cl_firsts : Nat → Int32} {Cl_lasts : Nat → Int32} {Or_count : Int32} {Or_doubts : Nat → Int32} {Or_tellers : Nat → Int32} {Or_ends : Nat → Int32} {Or_stepKinds : Nat → Int32} {Or_stepParts : Nat → Int32} {Ve_judged : Int32} {Ve_liarSet : Int32} {Ve_setCount : Int32} {Ve_against : Nat → Int32} {Co_top : Int32} {Co_doubted : Int32} {Co_evening : Int32} {Co_carriedOut : Int32} {Co_stack : Nat → Int32} {o : Int32 × Int32 × Int32 × Int32 × Int32 × Int32 × Int32 × (Nat → Int32)} (h : f_Co_passOne N Tap_tellerCount Cl_count Cl_tellers Cl_kinds Cl_events Cl_firsts Cl_lasts Or_count Or_doubts Or_tellers Or_ends Or_stepKinds Or_stepParts Ve_judged Ve_liarSet Ve_setCount Ve_against Co_top Co_doubted Co_evening Co_carriedOut Co_stack = some o) : Ct g mX1_passOne 7 0 0 [.ref (ad 71)] (wlX g ad x0 x1 x2 x3 Tap_tellerCount Cl_count Cl_tellers Cl_kinds Cl_events Cl_firsts Cl_lasts Or_count x12 Or_doubts Or_tellers Or_ends Or_stepKinds Or_stepParts Ve_judged Ve_liarSet Ve_setCount Ve_against x22 x23 x24 x25 x26 x27 x28 x29 x30 x31 x32 x33 x34 x35 x36 x37 x38 x39 x40 x41 x42 x43 x44 x45 x46 x47 x48 x49 x50 x51 x52 x53 x54 x55 x56 x57 Co_top Co_doubted Co_evening Co_carriedOut Co_stack x63 x64 x65 x66 x67 ++ t) (Dv (none) (wlX g ad x0 x1 x2 x3 Tap_tellerCount Cl_count Cl_tellers Cl_kinds Cl_events Cl_firsts Cl_lasts Or_count x12 Or_doubts Or_tellers Or_ends Or_stepKinds Or_stepParts o.1 o.2.1 o.2.2.1 Ve_against x22 x23 x24 x25 x26 x27 x28 x29 x30 x31 x32 x33 x34 x35 x36 x37 x38 x39 x40 x41 x42 x43 x44 x45 x46 x47 x48 x49 x50 x51 x52 x53 x54 x55 x56 x57 o.2.2.2.1 o.2.2.2.2.1 o.2.2.2.2.2.1 o.2.2.2.2.2.2.1 o.2.2.2.2.2.2.2 x63 x64 x65 x66 x67 ++ t)) := Ct.ofR (by decide +kernel) rfl (Nat.le_of_ble_eq_true rfl) (rt_Co_passOne h ⟨rfl, rfl⟩)
set_option maxRecDepth 20000 in
set_option maxHeartbeats 4000000 in
theorem rt_Main_passEvenings {g : GG} {ad : Nat → Nat} {t : va_W} {x0 x1 x3 x12 x24 x25 x26 x27 x28 x29 x30 x31 x37 x39 x40 x41 x47 x48 x54 x56 x63 x64 x65 x66 : Int32} {x2 x22 x23 x33 x34 x35 x42 x43 x44 x45 x46 x49 x50 x51 x52 x53 x67 : Nat → Int32} {x32 : Int64} {x36 x38 x55 x57 : Nat → Int64} {N : Nat} {Tap_tellerCount : Int32} {Cl_count : Int32} {Cl_tellers : Nat → Int32} {Cl_kinds : Nat → Int32} {Cl_events : Nat → Int32} {Cl_firsts : Nat → Int32} {Cl_lasts : Nat → Int32} {Or_count : Int32} {Or_doubts : Nat → Int32} {Or_tellers : Nat → Int32} {Or_ends : Nat → Int32} {Or_stepKinds : Nat → Int32} {Or_stepParts : Nat → Int32} {Ve_judged : Int32} {Ve_liarSet : Int32} {Ve_setCount : Int32} {Ve_against : Nat → Int32} {Co_top : Int32} {Co_doubted : Int32} {Co_evening : Int32} {Co_carriedOut : Int32} {Co_stack : Nat → Int32} {p1 : Int32} {o : (Int32 × Int32 × Int32 × Int32 × Int32 × Int32 × Int32 × Int32 × (Nat → Int32)) ⊕ String} {Q : Rs → va_W → Prop} (h : f_Main_passEvenings N Tap_tellerCount Cl_count Cl_tellers Cl_kinds Cl_events Cl_firsts Cl_lasts Or_count Or_doubts Or_tellers Or_ends Or_stepKinds Or_stepParts Ve_judged Ve_liarSet Ve_setCount Ve_against Co_top Co_doubted Co_evening Co_carriedOut Co_stack p1 = some o) (hq1 : ∀ q, o = .inl q → Q (.inl (some (.int q.1))) (wlX g ad x0 x1 x2 x3 Tap_tellerCount Cl_count Cl_tellers Cl_kinds Cl_events Cl_firsts Cl_lasts Or_count x12 Or_doubts Or_tellers Or_ends Or_stepKinds Or_stepParts q.2.1 q.2.2.1 q.2.2.2.1 Ve_against x22 x23 x24 x25 x26 x27 x28 x29 x30 x31 x32 x33 x34 x35 x36 x37 x38 x39 x40 x41 x42 x43 x44 x45 x46 x47 x48 x49 x50 x51 x52 x53 x54 x55 x56 x57 q.2.2.2.2.1 q.2.2.2.2.2.1 q.2.2.2.2.2.2.1 q.2.2.2.2.2.2.2.1 q.2.2.2.2.2.2.2.2 x63 x64 x65 x66 x67 ++ t)) (hq2 : ∀ E, o = .inr E → Q (.inr E) (wlX g ad x0 x1 x2 x3 Tap_tellerCount Cl_count Cl_tellers Cl_kinds Cl_events Cl_firsts Cl_lasts Or_count x12 Or_doubts Or_tellers Or_ends Or_stepKinds Or_stepParts Ve_judged Ve_liarSet Ve_setCount Ve_against x22 x23 x24 x25 x26 x27 x28 x29 x30 x31 x32 x33 x34 x35 x36 x37 x38 x39 x40 x41 x42 x43 x44 x45 x46 x47 x48 x49 x50 x51 x52 x53 x54 x55 x56 x57 Co_top Co_doubted Co_evening Co_carriedOut Co_stack x63 x64 x65 x66 x67 ++ t)) : R g mX9_passEvenings 8 1 6 0 [(0, .ref (ad 0)), (1, .int p1)] [] (wlX g ad x0 x1 x2 x3 Tap_tellerCount Cl_count Cl_tellers Cl_kinds Cl_events Cl_firsts Cl_lasts Or_count x12 Or_doubts Or_tellers Or_ends Or_stepKinds Or_stepParts Ve_judged Ve_liarSet Ve_setCount Ve_against x22 x23 x24 x25 x26 x27 x28 x29 x30 x31 x32 x33 x34 x35 x36 x37 x38 x39 x40 x41 x42 x43 x44 x45 x46 x47 x48 x49 x50 x51 x52 x53 x54 x55 x56 x57 Co_top Co_doubted Co_evening Co_carriedOut Co_stack x63 x64 x65 x66 x67 ++ t) Q := by
  unfold f_Main_passEvenings at h
  refine r_aload_n 0 dX9_passEvenings_0 rfl ?_
  refine r_iload_n 1 dX9_passEvenings_1 rfl ?_
  obtain ⟨r1119, hc1120, h⟩ := ob (fun z9 => z9) rfl h
  rcases r1119 with q1121 | E1125
  · refine c_Xv (rest := []) 0 0 _ dX9_passEvenings_2 kv_X9_246 (ct_Main_needEvenings hc1120) rfl rfl lX_0 rfl (Nat.le_of_ble_eq_true rfl) (by decide) (by decide) ?_
    try dsimp only [Sum.elim_inl, Sum.elim_inr] at h
    refine r_aload_n 0 dX9_passEvenings_5 rfl ?_
    refine r_getf (v := .ref (ad 71)) _ dX9_passEvenings_6 fl_X9_48 lX_0 rfl ?_
    refine r_getf (v := .int Co_carriedOut) _ dX9_passEvenings_9 fl_X9_116 lX_71 rfl ?_
    refine r_istore_n [(2, .int Co_carriedOut), (0, .ref (ad 0)), (1, .int p1)] dX9_passEvenings_12 (by decide) rfl ?_
    refine r_iconst (v := (0 : Int32)) dX9_passEvenings_13 (by decide) ?_
    refine r_istore_n [(3, .int (0 : Int32)), (2, .int Co_carriedOut), (0, .ref (ad 0)), (1, .int p1)] dX9_passEvenings_14 (by decide) rfl ?_
    refine r_ls [2, 3, 1, 0] (ls2 := [(0, .ref (ad 0)), (1, .int p1), (2, .int Co_carriedOut), (3, .int (0 : Int32))]) rfl ?_
    have L1 : ∀ (n1 : Nat) (l3_1 : Int32) (Ve_judged_1 : Int32) (Ve_liarSet_1 : Int32) (Ve_setCount_1 : Int32) (Co_top_1 : Int32) (Co_doubted_1 : Int32) (Co_evening_1 : Int32) (Co_carriedOut_1 : Int32) (Co_stack_1 : Nat → Int32), (fun z9 => z9) (lpS (f_Main_passEvenings_L15 N Tap_tellerCount Cl_count Cl_tellers Cl_kinds Cl_events Cl_firsts Cl_lasts Or_count Or_doubts Or_tellers Or_ends Or_stepKinds Or_stepParts Ve_against Co_carriedOut p1) none n1 (l3_1, Ve_judged_1, Ve_liarSet_1, Ve_setCount_1, Co_top_1, Co_doubted_1, Co_evening_1, Co_carriedOut_1, Co_stack_1)) = some o → R g mX9_passEvenings 8 0 0 15 [(0, .ref (ad 0)), (1, .int p1), (2, .int Co_carriedOut), (3, .int l3_1)] [] (wlX g ad x0 x1 x2 x3 Tap_tellerCount Cl_count Cl_tellers Cl_kinds Cl_events Cl_firsts Cl_lasts Or_count x12 Or_doubts Or_tellers Or_ends Or_stepKinds Or_stepParts Ve_judged_1 Ve_liarSet_1 Ve_setCount_1 Ve_against x22 x23 x24 x25 x26 x27 x28 x29 x30 x31 x32 x33 x34 x35 x36 x37 x38 x39 x40 x41 x42 x43 x44 x45 x46 x47 x48 x49 x50 x51 x52 x53 x54 x55 x56 x57 Co_top_1 Co_doubted_1 Co_evening_1 Co_carriedOut_1 Co_stack_1 x63 x64 x65 x66 x67 ++ t) Q := by
      intro n1
      induction n1 with
      | zero => intro l3_1 Ve_judged_1 Ve_liarSet_1 Ve_setCount_1 Co_top_1 Co_doubted_1 Co_evening_1 Co_carriedOut_1 Co_stack_1 h; exact nomatch (show (none : Option _) = some _ from h)
      | succ n1 ih1 =>
        intro l3_1 Ve_judged_1 Ve_liarSet_1 Ve_setCount_1 Co_top_1 Co_doubted_1 Co_evening_1 Co_carriedOut_1 Co_stack_1 h
        have h : (fun z9 => (lC (f_Main_passEvenings_L15 N Tap_tellerCount Cl_count Cl_tellers Cl_kinds Cl_events Cl_firsts Cl_lasts Or_count Or_doubts Or_tellers Or_ends Or_stepKinds Or_stepParts Ve_against Co_carriedOut p1) none n1 z9)) (f_Main_passEvenings_L15 N Tap_tellerCount Cl_count Cl_tellers Cl_kinds Cl_events Cl_firsts Cl_lasts Or_count Or_doubts Or_tellers Or_ends Or_stepKinds Or_stepParts Ve_against Co_carriedOut p1 (l3_1, Ve_judged_1, Ve_liarSet_1, Ve_setCount_1, Co_top_1, Co_doubted_1, Co_evening_1, Co_carriedOut_1, Co_stack_1)) = some o := h
        unfold f_Main_passEvenings_L15 at h
        try dsimp only at h
        refine r_iload_n 3 dX9_passEvenings_15 rfl ?_
        refine r_iload_n 1 dX9_passEvenings_16 rfl ?_
        refine r_icmp_ge (tgt := 33) dX9_passEvenings_17 (by decide) (fun hc1122 => ?_) (fun hc1122 => ?_)
        · have h := ip (fun z9 => (lC (f_Main_passEvenings_L15 N Tap_tellerCount Cl_count Cl_tellers Cl_kinds Cl_events Cl_firsts Cl_lasts Or_count Or_doubts Or_tellers Or_ends Or_stepKinds Or_stepParts Ve_against Co_carriedOut p1) none n1 z9)) hc1122 h
          refine r_aload_n 0 dX9_passEvenings_33 rfl ?_
          refine r_getf (v := .ref (ad 71)) _ dX9_passEvenings_34 fl_X9_48 lX_0 rfl ?_
          refine r_getf (v := .int Co_carriedOut_1) _ dX9_passEvenings_37 fl_X9_116 lX_71 rfl ?_
          refine r_iload_n 2 dX9_passEvenings_40 rfl ?_
          refine r_isub dX9_passEvenings_41 ?_
          refine r_iret dX9_passEvenings_42 rfl ?_
          have h := Option.some.inj (show some _ = some o from h)
          subst h
          exact hq1 _ rfl
        · have h := iq (fun z9 => (lC (f_Main_passEvenings_L15 N Tap_tellerCount Cl_count Cl_tellers Cl_kinds Cl_events Cl_firsts Cl_lasts Or_count Or_doubts Or_tellers Or_ends Or_stepKinds Or_stepParts Ve_against Co_carriedOut p1) none n1 z9)) hc1122 h
          refine r_aload_n 0 dX9_passEvenings_20 rfl ?_
          refine r_getf (v := .ref (ad 71)) _ dX9_passEvenings_21 fl_X9_48 lX_0 rfl ?_
          obtain ⟨r1123, hc1124, h⟩ := ob (fun z9 => (lC (f_Main_passEvenings_L15 N Tap_tellerCount Cl_count Cl_tellers Cl_kinds Cl_events Cl_firsts Cl_lasts Or_count Or_doubts Or_tellers Or_ends Or_stepKinds Or_stepParts Ve_against Co_carriedOut p1) none n1 z9)) rfl h
          refine c_Vv (rest := []) 0 0 _ dX9_passEvenings_24 kv_X9_249 (ct_Co_passOne hc1124) rfl rfl lX_71 rfl (Nat.le_of_ble_eq_true rfl) (by decide) (by decide) ?_
          refine r_iinc (v2 := (l3_1 + (1 : Int32))) 3 [(3, .int (l3_1 + (1 : Int32))), (0, .ref (ad 0)), (1, .int p1), (2, .int Co_carriedOut)] dX9_passEvenings_27 rfl rfl (by decide) rfl ?_
          refine r_goto (tgt := 15) dX9_passEvenings_30 (by decide) ?_
          refine r_ls [1, 2, 3, 0] (ls2 := [(0, .ref (ad 0)), (1, .int p1), (2, .int Co_carriedOut), (3, .int (l3_1 + (1 : Int32)))]) rfl ?_
          exact ih1 (l3_1 + (1 : Int32)) r1123.1 r1123.2.1 r1123.2.2.1 r1123.2.2.2.1 r1123.2.2.2.2.1 r1123.2.2.2.2.2.1 r1123.2.2.2.2.2.2.1 r1123.2.2.2.2.2.2.2 h
    exact L1 _ (0 : Int32) Ve_judged Ve_liarSet Ve_setCount Co_top Co_doubted Co_evening Co_carriedOut Co_stack h
  · refine c_Xt (rest := []) 0 0 _ dX9_passEvenings_2 kv_X9_246 (ct_Main_needEvenings hc1120) rfl rfl lX_0 rfl (Nat.le_of_ble_eq_true rfl) (by decide) (by decide) ?_
    refine rx_out rfl ?_
    have h := Option.some.inj (show some _ = some o from h)
    subst h
    exact hq2 _ rfl
theorem ct_Main_passEvenings {g : GG} {ad : Nat → Nat} {t : va_W} {x0 x1 x3 x12 x24 x25 x26 x27 x28 x29 x30 x31 x37 x39 x40 x41 x47 x48 x54 x56 x63 x64 x65 x66 : Int32} {x2 x22 x23 x33 x34 x35 x42 x43 x44 x45 x46 x49 x50 x51 x52 x53 x67 : Nat → Int32} {x32 : Int64} {x36 x38 x55 x57 : Nat → Int64} {N : Nat} {Tap_tellerCount : Int32} {Cl_count : Int32} {Cl_tellers : Nat → Int32} {Cl_kinds : Nat → Int32} {Cl_events : Nat → Int32} {Cl_firsts : Nat → Int32} {Cl_lasts : Nat → Int32} {Or_count : Int32} {Or_doubts : Nat → Int32} {Or_tellers : Nat → Int32} {Or_ends : Nat → Int32} {Or_stepKinds : Nat → Int32} {Or_stepParts : Nat → Int32} {Ve_judged : Int32} {Ve_liarSet : Int32} {Ve_setCount : Int32} {Ve_against : Nat → Int32} {Co_top : Int32} {Co_doubted : Int32} {Co_evening : Int32} {Co_carriedOut : Int32} {Co_stack : Nat → Int32} {p1 : Int32} {o : (Int32 × Int32 × Int32 × Int32 × Int32 × Int32 × Int32 × Int32 × (Nat → Int32)) ⊕ String} (h : f_Main_passEvenings N Tap_tellerCount Cl_count Cl_tellers Cl_kinds Cl_events Cl_firsts Cl_lasts Or_count Or_doubts Or_tellers Or_ends Or_stepKinds Or_stepParts Ve_judged Ve_liarSet Ve_setCount Ve_against Co_top Co_doubted Co_evening Co_carriedOut Co_stack p1 = some o) : Ct g mX9_passEvenings 8 1 6 [.ref (ad 0), .int p1] (wlX g ad x0 x1 x2 x3 Tap_tellerCount Cl_count Cl_tellers Cl_kinds Cl_events Cl_firsts Cl_lasts Or_count x12 Or_doubts Or_tellers Or_ends Or_stepKinds Or_stepParts Ve_judged Ve_liarSet Ve_setCount Ve_against x22 x23 x24 x25 x26 x27 x28 x29 x30 x31 x32 x33 x34 x35 x36 x37 x38 x39 x40 x41 x42 x43 x44 x45 x46 x47 x48 x49 x50 x51 x52 x53 x54 x55 x56 x57 Co_top Co_doubted Co_evening Co_carriedOut Co_stack x63 x64 x65 x66 x67 ++ t) (Dt o (fun q => some (.int q.1)) (fun q => (wlX g ad x0 x1 x2 x3 Tap_tellerCount Cl_count Cl_tellers Cl_kinds Cl_events Cl_firsts Cl_lasts Or_count x12 Or_doubts Or_tellers Or_ends Or_stepKinds Or_stepParts q.2.1 q.2.2.1 q.2.2.2.1 Ve_against x22 x23 x24 x25 x26 x27 x28 x29 x30 x31 x32 x33 x34 x35 x36 x37 x38 x39 x40 x41 x42 x43 x44 x45 x46 x47 x48 x49 x50 x51 x52 x53 x54 x55 x56 x57 q.2.2.2.2.1 q.2.2.2.2.2.1 q.2.2.2.2.2.2.1 q.2.2.2.2.2.2.2.1 q.2.2.2.2.2.2.2.2 x63 x64 x65 x66 x67 ++ t)) (wlX g ad x0 x1 x2 x3 Tap_tellerCount Cl_count Cl_tellers Cl_kinds Cl_events Cl_firsts Cl_lasts Or_count x12 Or_doubts Or_tellers Or_ends Or_stepKinds Or_stepParts Ve_judged Ve_liarSet Ve_setCount Ve_against x22 x23 x24 x25 x26 x27 x28 x29 x30 x31 x32 x33 x34 x35 x36 x37 x38 x39 x40 x41 x42 x43 x44 x45 x46 x47 x48 x49 x50 x51 x52 x53 x54 x55 x56 x57 Co_top Co_doubted Co_evening Co_carriedOut Co_stack x63 x64 x65 x66 x67 ++ t)) := Ct.ofR (by decide +kernel) rfl (Nat.le_of_ble_eq_true rfl) (rt_Main_passEvenings h (fun q e => by subst e; exact ⟨rfl, rfl⟩) (fun E e => by subst e; exact ⟨rfl, rfl⟩))
set_option maxRecDepth 20000 in
set_option maxHeartbeats 4000000 in
theorem rt_Co_copyFrom {g : GG} {ad : Nat → Nat} {t : va_W} {x0 x1 x3 x4 x5 x11 x12 x18 x19 x20 x24 x25 x26 x27 x28 x29 x30 x31 x37 x39 x40 x41 x47 x48 x54 x56 x58 x63 : Int32} {x2 x6 x7 x8 x9 x10 x13 x14 x15 x16 x17 x21 x22 x23 x33 x34 x35 x42 x43 x44 x45 x46 x49 x50 x51 x52 x53 x62 x67 : Nat → Int32} {x32 : Int64} {x36 x38 x55 x57 : Nat → Int64} {Co_doubted : Int32} {Co_evening : Int32} {Co_carriedOut : Int32} {Co_doubted_2 : Int32} {Co_evening_2 : Int32} {Co_carriedOut_2 : Int32} {o : Int32 × Int32 × Int32} {Q : Rs → va_W → Prop} (h : f_Co_copyFrom Co_doubted Co_evening Co_carriedOut Co_doubted_2 Co_evening_2 Co_carriedOut_2 = some o) (hq : Q (.inl (none)) (wlX g ad x0 x1 x2 x3 x4 x5 x6 x7 x8 x9 x10 x11 x12 x13 x14 x15 x16 x17 x18 x19 x20 x21 x22 x23 x24 x25 x26 x27 x28 x29 x30 x31 x32 x33 x34 x35 x36 x37 x38 x39 x40 x41 x42 x43 x44 x45 x46 x47 x48 x49 x50 x51 x52 x53 x54 x55 x56 x57 x58 Co_doubted Co_evening Co_carriedOut x62 x63 o.1 o.2.1 o.2.2 x67 ++ t)) : R g mX1_copyFrom 1 0 0 0 [(0, .ref (ad 74)), (1, .ref (ad 71))] [] (wlX g ad x0 x1 x2 x3 x4 x5 x6 x7 x8 x9 x10 x11 x12 x13 x14 x15 x16 x17 x18 x19 x20 x21 x22 x23 x24 x25 x26 x27 x28 x29 x30 x31 x32 x33 x34 x35 x36 x37 x38 x39 x40 x41 x42 x43 x44 x45 x46 x47 x48 x49 x50 x51 x52 x53 x54 x55 x56 x57 x58 Co_doubted Co_evening Co_carriedOut x62 x63 Co_doubted_2 Co_evening_2 Co_carriedOut_2 x67 ++ t) Q := by
  unfold f_Co_copyFrom at h
  refine r_aload_n 0 dX1_copyFrom_0 rfl ?_
  refine r_aload_n 1 dX1_copyFrom_1 rfl ?_
  refine r_getf (v := .int Co_doubted) _ dX1_copyFrom_2 fl_X1_28 lX_71 rfl ?_
  refine r_putf _ dX1_copyFrom_5 fl_X1_28 lX_74 (Nat.le_of_ble_eq_true rfl) rfl rfl (sX_64 _) ?_
  refine r_aload_n 0 dX1_copyFrom_8 rfl ?_
  refine r_aload_n 1 dX1_copyFrom_9 rfl ?_
  refine r_getf (v := .int Co_evening) _ dX1_copyFrom_10 fl_X1_32 lX_71 rfl ?_
  refine r_putf _ dX1_copyFrom_13 fl_X1_32 lX_74 (Nat.le_of_ble_eq_true rfl) rfl rfl (sX_65 _) ?_
  refine r_aload_n 0 dX1_copyFrom_16 rfl ?_
  refine r_aload_n 1 dX1_copyFrom_17 rfl ?_
  refine r_getf (v := .int Co_carriedOut) _ dX1_copyFrom_18 fl_X1_35 lX_71 rfl ?_
  refine r_putf _ dX1_copyFrom_21 fl_X1_35 lX_74 (Nat.le_of_ble_eq_true rfl) rfl rfl (sX_66 _) ?_
  refine r_vret dX1_copyFrom_24 rfl ?_
  have h := Option.some.inj (show some _ = some o from h)
  subst h
  exact hq
theorem ct_Co_copyFrom {g : GG} {ad : Nat → Nat} {t : va_W} {x0 x1 x3 x4 x5 x11 x12 x18 x19 x20 x24 x25 x26 x27 x28 x29 x30 x31 x37 x39 x40 x41 x47 x48 x54 x56 x58 x63 : Int32} {x2 x6 x7 x8 x9 x10 x13 x14 x15 x16 x17 x21 x22 x23 x33 x34 x35 x42 x43 x44 x45 x46 x49 x50 x51 x52 x53 x62 x67 : Nat → Int32} {x32 : Int64} {x36 x38 x55 x57 : Nat → Int64} {Co_doubted : Int32} {Co_evening : Int32} {Co_carriedOut : Int32} {Co_doubted_2 : Int32} {Co_evening_2 : Int32} {Co_carriedOut_2 : Int32} {o : Int32 × Int32 × Int32} (h : f_Co_copyFrom Co_doubted Co_evening Co_carriedOut Co_doubted_2 Co_evening_2 Co_carriedOut_2 = some o) : Ct g mX1_copyFrom 1 0 0 [.ref (ad 74), .ref (ad 71)] (wlX g ad x0 x1 x2 x3 x4 x5 x6 x7 x8 x9 x10 x11 x12 x13 x14 x15 x16 x17 x18 x19 x20 x21 x22 x23 x24 x25 x26 x27 x28 x29 x30 x31 x32 x33 x34 x35 x36 x37 x38 x39 x40 x41 x42 x43 x44 x45 x46 x47 x48 x49 x50 x51 x52 x53 x54 x55 x56 x57 x58 Co_doubted Co_evening Co_carriedOut x62 x63 Co_doubted_2 Co_evening_2 Co_carriedOut_2 x67 ++ t) (Dv (none) (wlX g ad x0 x1 x2 x3 x4 x5 x6 x7 x8 x9 x10 x11 x12 x13 x14 x15 x16 x17 x18 x19 x20 x21 x22 x23 x24 x25 x26 x27 x28 x29 x30 x31 x32 x33 x34 x35 x36 x37 x38 x39 x40 x41 x42 x43 x44 x45 x46 x47 x48 x49 x50 x51 x52 x53 x54 x55 x56 x57 x58 Co_doubted Co_evening Co_carriedOut x62 x63 o.1 o.2.1 o.2.2 x67 ++ t)) := Ct.ofR (by decide +kernel) rfl (Nat.le_of_ble_eq_true rfl) (rt_Co_copyFrom h ⟨rfl, rfl⟩)
