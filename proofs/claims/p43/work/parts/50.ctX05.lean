set_option maxRecDepth 20000 in
set_option maxHeartbeats 4000000 in
theorem rt_Re_readHours {g : GG} {ad : Nat → Nat} {t : va_W} {x0 x1 x3 x4 x5 x11 x12 x18 x19 x20 x26 x29 x30 x31 x37 x39 x40 x47 x48 x54 x56 x58 x59 x60 x61 x63 x64 x65 x66 : Int32} {x2 x6 x7 x8 x9 x10 x13 x14 x15 x16 x17 x21 x22 x23 x49 x50 x51 x52 x53 x62 x67 : Nat → Int32} {x32 : Int64} {x36 x38 x55 x57 : Nat → Int64} {Re_at : Int32} {Re_kind : Int32} {Re_error : Int32} {Re_errorPlace : Int32} {To_kinds : Nat → Int32} {To_starts : Nat → Int32} {To_numbers : Nat → Int32} {Cl_count : Int32} {Cl_tellers : Nat → Int32} {Cl_kinds : Nat → Int32} {Cl_events : Nat → Int32} {Cl_firsts : Nat → Int32} {Cl_lasts : Nat → Int32} {p1 : Int32} {p2 : Int32} {o : Int32 × Int32 × Int32 × Int32 × Int32 × (Nat → Int32) × (Nat → Int32) × (Nat → Int32) × (Nat → Int32) × (Nat → Int32)} {Q : Rs → va_W → Prop} (h : f_Re_readHours Re_at Re_kind Re_error Re_errorPlace To_kinds To_starts To_numbers Cl_count Cl_tellers Cl_kinds Cl_events Cl_firsts Cl_lasts p1 p2 = some o) (hq : Q (.inl (none)) (wlX g ad x0 x1 x2 x3 x4 x5 x6 x7 x8 x9 x10 x11 x12 x13 x14 x15 x16 x17 x18 x19 x20 x21 x22 x23 o.1 o.2.1 x26 o.2.2.1 o.2.2.2.1 x29 x30 x31 x32 To_kinds To_starts To_numbers x36 x37 x38 x39 x40 o.2.2.2.2.1 o.2.2.2.2.2.1 o.2.2.2.2.2.2.1 o.2.2.2.2.2.2.2.1 o.2.2.2.2.2.2.2.2.1 o.2.2.2.2.2.2.2.2.2 x47 x48 x49 x50 x51 x52 x53 x54 x55 x56 x57 x58 x59 x60 x61 x62 x63 x64 x65 x66 x67 ++ t)) : R g mX4_readHours 6 0 0 0 [(0, .ref (ad 33)), (1, .int p1), (2, .int p2)] [] (wlX g ad x0 x1 x2 x3 x4 x5 x6 x7 x8 x9 x10 x11 x12 x13 x14 x15 x16 x17 x18 x19 x20 x21 x22 x23 Re_at Re_kind x26 Re_error Re_errorPlace x29 x30 x31 x32 To_kinds To_starts To_numbers x36 x37 x38 x39 x40 Cl_count Cl_tellers Cl_kinds Cl_events Cl_firsts Cl_lasts x47 x48 x49 x50 x51 x52 x53 x54 x55 x56 x57 x58 x59 x60 x61 x62 x63 x64 x65 x66 x67 ++ t) Q := by
  unfold f_Re_readHours at h
  refine r_aload_n 0 dX4_readHours_0 rfl ?_
  obtain ⟨r524, hc525, h⟩ := ob (fun z9 => z9) rfl h
  refine c_Vv (rest := []) 0 0 _ dX4_readHours_1 kv_X4_105 (ct_Re_advance hc525) rfl rfl lX_33 rfl (Nat.le_of_ble_eq_true rfl) (by decide) (by decide) ?_
  refine r_aload_n 0 dX4_readHours_4 rfl ?_
  refine r_iconst (v := (0 : Int32)) dX4_readHours_5 (by decide) ?_
  obtain ⟨r526, hc527, h⟩ := ob (fun z9 => z9) rfl h
  refine c_V (rest := []) 0 0 _ dX4_readHours_6 kv_X4_142 (ct_Re_readHour hc527) rfl rfl lX_33 rfl (Nat.le_of_ble_eq_true rfl) (by decide) (by decide) ?_
  refine r_istore_n [(3, .int r526.1), (0, .ref (ad 33)), (1, .int p1), (2, .int p2)] dX4_readHours_9 (by decide) rfl ?_
  refine r_iload_n 0 dX4_readHours_10 rfl ?_
  refine r_istore [(4, .int r526.1), (3, .int r526.1), (0, .ref (ad 33)), (1, .int p1), (2, .int p2)] dX4_readHours_11 (by decide) rfl ?_
  refine r_aload_n 2 dX4_readHours_13 rfl ?_
  refine r_getf (v := .int r526.2.2.1) _ dX4_readHours_14 fl_X4_42 lX_33 rfl ?_
  refine r_sipush (v := (204 : Int32)) dX4_readHours_17 (by decide) ?_
  refine r_icmp_ne (tgt := 34) dX4_readHours_20 (by decide) (fun hc528 => ?_) (fun hc528 => ?_)
  · have h := iq (fun z9 => z9) hc528 h
    refine r_aload_n 2 dX4_readHours_34 rfl ?_
    refine r_getf (v := .int r526.2.2.2.1) _ dX4_readHours_35 fl_X4_46 lX_33 rfl ?_
    refine r_if_ne (tgt := 57) dX4_readHours_38 (by decide) (fun hc529 => ?_) (fun hc529 => ?_)
    · have h := iq (fun z9 => z9) hc529 h
      refine r_vret dX4_readHours_57 rfl ?_
      have h := Option.some.inj (show some _ = some o from h)
      subst h
      exact hq
    · have h := ip (fun z9 => z9) hc529 h
      refine r_aload_n 2 dX4_readHours_41 rfl ?_
      refine r_getf (v := .ref (ad 44)) _ dX4_readHours_42 fl_X4_23 lX_33 rfl ?_
      refine r_getf (v := .ref (ad 45)) _ dX4_readHours_45 fl_X4_124 lX_44 rfl ?_
      refine r_iload_n 3 dX4_readHours_48 rfl ?_
      refine r_iconst (v := (0 : Int32)) dX4_readHours_49 (by decide) ?_
      refine r_iload_n 4 dX4_readHours_50 rfl ?_
      refine r_iload_n 1 dX4_readHours_51 rfl ?_
      refine r_iload 0 dX4_readHours_52 rfl ?_
      obtain ⟨r530, hc531, h⟩ := ob (fun z9 => z9) rfl h
      refine c_Vv (rest := []) 0 0 _ dX4_readHours_54 kv_X4_145 (ct_Cl_add hc531) rfl rfl lX_45 rfl (Nat.le_of_ble_eq_true rfl) (by decide) (by decide) ?_
      refine r_vret dX4_readHours_57 rfl ?_
      have h := Option.some.inj (show some _ = some o from h)
      subst h
      exact hq
  · have h := ip (fun z9 => z9) hc528 h
    refine r_aload_n 2 dX4_readHours_23 rfl ?_
    obtain ⟨r532, hc533, h⟩ := ob (fun z9 => z9) rfl h
    refine c_Vv (rest := []) 0 0 _ dX4_readHours_24 kv_X4_105 (ct_Re_advance hc533) rfl rfl lX_33 rfl (Nat.le_of_ble_eq_true rfl) (by decide) (by decide) ?_
    refine r_aload_n 2 dX4_readHours_27 rfl ?_
    refine r_iload_n 1 dX4_readHours_28 rfl ?_
    obtain ⟨r534, hc535, h⟩ := ob (fun z9 => z9) rfl h
    refine c_V (rest := []) 0 0 _ dX4_readHours_29 kv_X4_142 (ct_Re_readHour hc535) rfl rfl lX_33 rfl (Nat.le_of_ble_eq_true rfl) (by decide) (by decide) ?_
    refine r_istore [(4, .int r534.1), (3, .int r526.1), (0, .ref (ad 33)), (1, .int p1), (2, .int p2)] dX4_readHours_32 (by decide) rfl ?_
    refine r_aload_n 2 dX4_readHours_34 rfl ?_
    refine r_getf (v := .int r534.2.2.2.1) _ dX4_readHours_35 fl_X4_46 lX_33 rfl ?_
    refine r_if_ne (tgt := 57) dX4_readHours_38 (by decide) (fun hc536 => ?_) (fun hc536 => ?_)
    · have h := iq (fun z9 => z9) hc536 h
      refine r_vret dX4_readHours_57 rfl ?_
      have h := Option.some.inj (show some _ = some o from h)
      subst h
      exact hq
    · have h := ip (fun z9 => z9) hc536 h
      refine r_aload_n 2 dX4_readHours_41 rfl ?_
      refine r_getf (v := .ref (ad 44)) _ dX4_readHours_42 fl_X4_23 lX_33 rfl ?_
      refine r_getf (v := .ref (ad 45)) _ dX4_readHours_45 fl_X4_124 lX_44 rfl ?_
      refine r_iload_n 3 dX4_readHours_48 rfl ?_
      refine r_iconst (v := (0 : Int32)) dX4_readHours_49 (by decide) ?_
      refine r_iload_n 4 dX4_readHours_50 rfl ?_
      refine r_iload_n 1 dX4_readHours_51 rfl ?_
      refine r_iload 0 dX4_readHours_52 rfl ?_
      obtain ⟨r537, hc538, h⟩ := ob (fun z9 => z9) rfl h
      refine c_Vv (rest := []) 0 0 _ dX4_readHours_54 kv_X4_145 (ct_Cl_add hc538) rfl rfl lX_45 rfl (Nat.le_of_ble_eq_true rfl) (by decide) (by decide) ?_
      refine r_vret dX4_readHours_57 rfl ?_
      have h := Option.some.inj (show some _ = some o from h)
      subst h
      exact hq
theorem ct_Re_readHours {g : GG} {ad : Nat → Nat} {t : va_W} {x0 x1 x3 x4 x5 x11 x12 x18 x19 x20 x26 x29 x30 x31 x37 x39 x40 x47 x48 x54 x56 x58 x59 x60 x61 x63 x64 x65 x66 : Int32} {x2 x6 x7 x8 x9 x10 x13 x14 x15 x16 x17 x21 x22 x23 x49 x50 x51 x52 x53 x62 x67 : Nat → Int32} {x32 : Int64} {x36 x38 x55 x57 : Nat → Int64} {Re_at : Int32} {Re_kind : Int32} {Re_error : Int32} {Re_errorPlace : Int32} {To_kinds : Nat → Int32} {To_starts : Nat → Int32} {To_numbers : Nat → Int32} {Cl_count : Int32} {Cl_tellers : Nat → Int32} {Cl_kinds : Nat → Int32} {Cl_events : Nat → Int32} {Cl_firsts : Nat → Int32} {Cl_lasts : Nat → Int32} {p1 : Int32} {p2 : Int32} {o : Int32 × Int32 × Int32 × Int32 × Int32 × (Nat → Int32) × (Nat → Int32) × (Nat → Int32) × (Nat → Int32) × (Nat → Int32)} (h : f_Re_readHours Re_at Re_kind Re_error Re_errorPlace To_kinds To_starts To_numbers Cl_count Cl_tellers Cl_kinds Cl_events Cl_firsts Cl_lasts p1 p2 = some o) : Ct g mX4_readHours 6 0 0 [.ref (ad 33), .int p1, .int p2] (wlX g ad x0 x1 x2 x3 x4 x5 x6 x7 x8 x9 x10 x11 x12 x13 x14 x15 x16 x17 x18 x19 x20 x21 x22 x23 Re_at Re_kind x26 Re_error Re_errorPlace x29 x30 x31 x32 To_kinds To_starts To_numbers x36 x37 x38 x39 x40 Cl_count Cl_tellers Cl_kinds Cl_events Cl_firsts Cl_lasts x47 x48 x49 x50 x51 x52 x53 x54 x55 x56 x57 x58 x59 x60 x61 x62 x63 x64 x65 x66 x67 ++ t) (Dv (none) (wlX g ad x0 x1 x2 x3 x4 x5 x6 x7 x8 x9 x10 x11 x12 x13 x14 x15 x16 x17 x18 x19 x20 x21 x22 x23 o.1 o.2.1 x26 o.2.2.1 o.2.2.2.1 x29 x30 x31 x32 To_kinds To_starts To_numbers x36 x37 x38 x39 x40 o.2.2.2.2.1 o.2.2.2.2.2.1 o.2.2.2.2.2.2.1 o.2.2.2.2.2.2.2.1 o.2.2.2.2.2.2.2.2.1 o.2.2.2.2.2.2.2.2.2 x47 x48 x49 x50 x51 x52 x53 x54 x55 x56 x57 x58 x59 x60 x61 x62 x63 x64 x65 x66 x67 ++ t)) := Ct.ofR (by decide +kernel) rfl (Nat.le_of_ble_eq_true rfl) (rt_Re_readHours h ⟨rfl, rfl⟩)
set_option maxRecDepth 20000 in
set_option maxHeartbeats 4000000 in
theorem rt_Re_readClaim {g : GG} {ad : Nat → Nat} {t : va_W} {x0 x1 x3 x4 x5 x11 x12 x18 x19 x20 x26 x29 x30 x31 x37 x39 x40 x47 x48 x58 x59 x60 x61 x63 x64 x65 x66 : Int32} {x2 x6 x7 x8 x9 x10 x13 x14 x15 x16 x17 x21 x22 x23 x49 x50 x51 x52 x53 x62 x67 : Nat → Int32} {x32 : Int64} {x38 : Nat → Int64} {Re_at : Int32} {Re_kind : Int32} {Re_error : Int32} {Re_errorPlace : Int32} {To_kinds : Nat → Int32} {To_starts : Nat → Int32} {To_numbers : Nat → Int32} {To_words : Nat → Int64} {Cl_count : Int32} {Cl_tellers : Nat → Int32} {Cl_kinds : Nat → Int32} {Cl_events : Nat → Int32} {Cl_firsts : Nat → Int32} {Cl_lasts : Nat → Int32} {Na_count : Int32} {Na_words : Nat → Int64} {Na_count_2 : Int32} {Na_words_2 : Nat → Int64} {o : Int32 × Int32 × Int32 × Int32 × Int32 × (Nat → Int32) × (Nat → Int32) × (Nat → Int32) × (Nat → Int32) × (Nat → Int32)} {Q : Rs → va_W → Prop} (h : f_Re_readClaim Re_at Re_kind Re_error Re_errorPlace To_kinds To_starts To_numbers To_words Cl_count Cl_tellers Cl_kinds Cl_events Cl_firsts Cl_lasts Na_count Na_words Na_count_2 Na_words_2 = some o) (hq : Q (.inl (none)) (wlX g ad x0 x1 x2 x3 x4 x5 x6 x7 x8 x9 x10 x11 x12 x13 x14 x15 x16 x17 x18 x19 x20 x21 x22 x23 o.1 o.2.1 x26 o.2.2.1 o.2.2.2.1 x29 x30 x31 x32 To_kinds To_starts To_numbers To_words x37 x38 x39 x40 o.2.2.2.2.1 o.2.2.2.2.2.1 o.2.2.2.2.2.2.1 o.2.2.2.2.2.2.2.1 o.2.2.2.2.2.2.2.2.1 o.2.2.2.2.2.2.2.2.2 x47 x48 x49 x50 x51 x52 x53 Na_count Na_words Na_count_2 Na_words_2 x58 x59 x60 x61 x62 x63 x64 x65 x66 x67 ++ t)) : R g mX4_readClaim 7 0 0 0 [(0, .ref (ad 33))] [] (wlX g ad x0 x1 x2 x3 x4 x5 x6 x7 x8 x9 x10 x11 x12 x13 x14 x15 x16 x17 x18 x19 x20 x21 x22 x23 Re_at Re_kind x26 Re_error Re_errorPlace x29 x30 x31 x32 To_kinds To_starts To_numbers To_words x37 x38 x39 x40 Cl_count Cl_tellers Cl_kinds Cl_events Cl_firsts Cl_lasts x47 x48 x49 x50 x51 x52 x53 Na_count Na_words Na_count_2 Na_words_2 x58 x59 x60 x61 x62 x63 x64 x65 x66 x67 ++ t) Q := by
  unfold f_Re_readClaim at h
  refine r_aload_n 0 dX4_readClaim_0 rfl ?_
  refine r_getf (v := .ref (ad 44)) _ dX4_readClaim_1 fl_X4_23 lX_33 rfl ?_
  refine r_getf (v := .ref (ad 45)) _ dX4_readClaim_4 fl_X4_124 lX_44 rfl ?_
  refine c_V (rest := []) 0 0 _ dX4_readClaim_7 kv_X4_128 (ct_Cl_isFull rfl) rfl rfl lX_45 rfl (Nat.le_of_ble_eq_true rfl) (by decide) (by decide) ?_
  refine r_if_eq (tgt := 18) dX4_readClaim_10 (by decide) (fun hc539 => ?_) (fun hc539 => ?_)
  · have h := ip (fun z9 => z9) hc539 h
    refine r_aload_n 0 dX4_readClaim_18 rfl ?_
    obtain ⟨r540, hc541, h⟩ := ob (fun z9 => z9) rfl h
    refine c_Vv (rest := []) 0 0 _ dX4_readClaim_19 kv_X4_105 (ct_Re_advance hc541) rfl rfl lX_33 rfl (Nat.le_of_ble_eq_true rfl) (by decide) (by decide) ?_
    refine r_aload_n 0 dX4_readClaim_22 rfl ?_
    refine r_aload_n 0 dX4_readClaim_23 rfl ?_
    refine r_getf (v := .ref (ad 69)) _ dX4_readClaim_24 fl_X4_36 lX_33 rfl ?_
    obtain ⟨r542, hc543, h⟩ := ob (fun z9 => z9) rfl h
    refine c_V (rest := []) 0 0 _ dX4_readClaim_27 kv_X4_131 (ct_Re_readKnown_v1 hc543) rfl rfl lX_33 rfl (Nat.le_of_ble_eq_true rfl) (by decide) (by decide) ?_
    refine r_istore_n [(1, .int r542.1), (0, .ref (ad 33))] dX4_readClaim_30 (by decide) rfl ?_
    refine r_aload_n 1 dX4_readClaim_31 rfl ?_
    refine r_aload_n 1 dX4_readClaim_32 rfl ?_
    refine r_getf (v := .ref (ad 67)) _ dX4_readClaim_33 fl_X4_32 lX_33 rfl ?_
    obtain ⟨r544, hc545, h⟩ := ob (fun z9 => z9) rfl h
    refine c_V (rest := []) 0 0 _ dX4_readClaim_36 kv_X4_131 (ct_Re_readKnown hc545) rfl rfl lX_33 rfl (Nat.le_of_ble_eq_true rfl) (by decide) (by decide) ?_
    refine r_istore_n [(2, .int r544.1), (1, .int r542.1), (0, .ref (ad 33))] dX4_readClaim_39 (by decide) rfl ?_
    refine r_aload_n 2 dX4_readClaim_40 rfl ?_
    refine r_getf (v := .int r544.2.2.1) _ dX4_readClaim_41 fl_X4_42 lX_33 rfl ?_
    refine r_sipush (v := (203 : Int32)) dX4_readClaim_44 (by decide) ?_
    refine r_icmp_ne (tgt := 59) dX4_readClaim_47 (by decide) (fun hc546 => ?_) (fun hc546 => ?_)
    · have h := iq (fun z9 => z9) hc546 h
      refine r_aload_n 2 dX4_readClaim_59 rfl ?_
      refine r_getf (v := .int r544.2.2.1) _ dX4_readClaim_60 fl_X4_42 lX_33 rfl ?_
      refine r_sipush (v := (205 : Int32)) dX4_readClaim_63 (by decide) ?_
      refine r_icmp_eq (tgt := 79) dX4_readClaim_66 (by decide) (fun hc547 => ?_) (fun hc547 => ?_)
      · have h := ip (fun z9 => z9) hc547 h
        refine r_aload_n 2 dX4_readClaim_79 rfl ?_
        refine r_iload_n 1 dX4_readClaim_80 rfl ?_
        refine r_iload_n 0 dX4_readClaim_81 rfl ?_
        obtain ⟨r548, hc549, h⟩ := ob (fun z9 => z9) rfl h
        refine c_Vv (rest := []) 0 0 _ dX4_readClaim_82 kv_X4_139 (ct_Re_readOther hc549) rfl rfl lX_33 rfl (Nat.le_of_ble_eq_true rfl) (by decide) (by decide) ?_
        refine r_goto (tgt := 92) dX4_readClaim_85 (by decide) ?_
        refine r_vret dX4_readClaim_92 rfl ?_
        have h := Option.some.inj (show some _ = some o from h)
        subst h
        exact hq
      · have h := iq (fun z9 => z9) hc547 h
        refine r_aload_n 2 dX4_readClaim_69 rfl ?_
        refine r_getf (v := .int r544.2.2.1) _ dX4_readClaim_70 fl_X4_42 lX_33 rfl ?_
        refine r_sipush (v := (206 : Int32)) dX4_readClaim_73 (by decide) ?_
        refine r_icmp_ne (tgt := 88) dX4_readClaim_76 (by decide) (fun hc550 => ?_) (fun hc550 => ?_)
        · have h := iq (fun z9 => z9) hc550 h
          refine r_aload_n 2 dX4_readClaim_88 rfl ?_
          obtain ⟨r551, hc552, h⟩ := ob (fun z9 => z9) rfl h
          refine c_Vv (rest := []) 0 0 _ dX4_readClaim_89 kv_X4_59 (ct_Re_fail hc552) rfl rfl lX_33 rfl (Nat.le_of_ble_eq_true rfl) (by decide) (by decide) ?_
          refine r_vret dX4_readClaim_92 rfl ?_
          have h := Option.some.inj (show some _ = some o from h)
          subst h
          exact hq
        · have h := ip (fun z9 => z9) hc550 h
          refine r_aload_n 2 dX4_readClaim_79 rfl ?_
          refine r_iload_n 1 dX4_readClaim_80 rfl ?_
          refine r_iload_n 0 dX4_readClaim_81 rfl ?_
          obtain ⟨r553, hc554, h⟩ := ob (fun z9 => z9) rfl h
          refine c_Vv (rest := []) 0 0 _ dX4_readClaim_82 kv_X4_139 (ct_Re_readOther hc554) rfl rfl lX_33 rfl (Nat.le_of_ble_eq_true rfl) (by decide) (by decide) ?_
          refine r_goto (tgt := 92) dX4_readClaim_85 (by decide) ?_
          refine r_vret dX4_readClaim_92 rfl ?_
          have h := Option.some.inj (show some _ = some o from h)
          subst h
          exact hq
    · have h := ip (fun z9 => z9) hc546 h
      refine r_aload_n 2 dX4_readClaim_50 rfl ?_
      refine r_iload_n 1 dX4_readClaim_51 rfl ?_
      refine r_iload_n 0 dX4_readClaim_52 rfl ?_
      obtain ⟨r555, hc556, h⟩ := ob (fun z9 => z9) rfl h
      refine c_Vv (rest := []) 0 0 _ dX4_readClaim_53 kv_X4_135 (ct_Re_readHours hc556) rfl rfl lX_33 rfl (Nat.le_of_ble_eq_true rfl) (by decide) (by decide) ?_
      refine r_goto (tgt := 92) dX4_readClaim_56 (by decide) ?_
      refine r_vret dX4_readClaim_92 rfl ?_
      have h := Option.some.inj (show some _ = some o from h)
      subst h
      exact hq
  · have h := iq (fun z9 => z9) hc539 h
    refine r_aload_n 0 dX4_readClaim_13 rfl ?_
    refine r_iconst (v := (4 : Int32)) dX4_readClaim_14 (by decide) ?_
    obtain ⟨r557, hc558, h⟩ := ob (fun z9 => z9) rfl h
    refine c_Vv (rest := []) 0 0 _ dX4_readClaim_15 kv_X4_102 (ct_Re_note hc558) rfl rfl lX_33 rfl (Nat.le_of_ble_eq_true rfl) (by decide) (by decide) ?_
    refine r_aload_n 0 dX4_readClaim_18 rfl ?_
    obtain ⟨r559, hc560, h⟩ := ob (fun z9 => z9) rfl h
    refine c_Vv (rest := []) 0 0 _ dX4_readClaim_19 kv_X4_105 (ct_Re_advance hc560) rfl rfl lX_33 rfl (Nat.le_of_ble_eq_true rfl) (by decide) (by decide) ?_
    refine r_aload_n 0 dX4_readClaim_22 rfl ?_
    refine r_aload_n 0 dX4_readClaim_23 rfl ?_
    refine r_getf (v := .ref (ad 69)) _ dX4_readClaim_24 fl_X4_36 lX_33 rfl ?_
    obtain ⟨r561, hc562, h⟩ := ob (fun z9 => z9) rfl h
    refine c_V (rest := []) 0 0 _ dX4_readClaim_27 kv_X4_131 (ct_Re_readKnown_v1 hc562) rfl rfl lX_33 rfl (Nat.le_of_ble_eq_true rfl) (by decide) (by decide) ?_
    refine r_istore_n [(1, .int r561.1), (0, .ref (ad 33))] dX4_readClaim_30 (by decide) rfl ?_
    refine r_aload_n 1 dX4_readClaim_31 rfl ?_
    refine r_aload_n 1 dX4_readClaim_32 rfl ?_
    refine r_getf (v := .ref (ad 67)) _ dX4_readClaim_33 fl_X4_32 lX_33 rfl ?_
    obtain ⟨r563, hc564, h⟩ := ob (fun z9 => z9) rfl h
    refine c_V (rest := []) 0 0 _ dX4_readClaim_36 kv_X4_131 (ct_Re_readKnown hc564) rfl rfl lX_33 rfl (Nat.le_of_ble_eq_true rfl) (by decide) (by decide) ?_
    refine r_istore_n [(2, .int r563.1), (1, .int r561.1), (0, .ref (ad 33))] dX4_readClaim_39 (by decide) rfl ?_
    refine r_aload_n 2 dX4_readClaim_40 rfl ?_
    refine r_getf (v := .int r563.2.2.1) _ dX4_readClaim_41 fl_X4_42 lX_33 rfl ?_
    refine r_sipush (v := (203 : Int32)) dX4_readClaim_44 (by decide) ?_
    refine r_icmp_ne (tgt := 59) dX4_readClaim_47 (by decide) (fun hc565 => ?_) (fun hc565 => ?_)
    · have h := iq (fun z9 => z9) hc565 h
      refine r_aload_n 2 dX4_readClaim_59 rfl ?_
      refine r_getf (v := .int r563.2.2.1) _ dX4_readClaim_60 fl_X4_42 lX_33 rfl ?_
      refine r_sipush (v := (205 : Int32)) dX4_readClaim_63 (by decide) ?_
      refine r_icmp_eq (tgt := 79) dX4_readClaim_66 (by decide) (fun hc566 => ?_) (fun hc566 => ?_)
      · have h := ip (fun z9 => z9) hc566 h
        refine r_aload_n 2 dX4_readClaim_79 rfl ?_
        refine r_iload_n 1 dX4_readClaim_80 rfl ?_
        refine r_iload_n 0 dX4_readClaim_81 rfl ?_
        obtain ⟨r567, hc568, h⟩ := ob (fun z9 => z9) rfl h
        refine c_Vv (rest := []) 0 0 _ dX4_readClaim_82 kv_X4_139 (ct_Re_readOther hc568) rfl rfl lX_33 rfl (Nat.le_of_ble_eq_true rfl) (by decide) (by decide) ?_
        refine r_goto (tgt := 92) dX4_readClaim_85 (by decide) ?_
        refine r_vret dX4_readClaim_92 rfl ?_
        have h := Option.some.inj (show some _ = some o from h)
        subst h
        exact hq
      · have h := iq (fun z9 => z9) hc566 h
        refine r_aload_n 2 dX4_readClaim_69 rfl ?_
        refine r_getf (v := .int r563.2.2.1) _ dX4_readClaim_70 fl_X4_42 lX_33 rfl ?_
        refine r_sipush (v := (206 : Int32)) dX4_readClaim_73 (by decide) ?_
        refine r_icmp_ne (tgt := 88) dX4_readClaim_76 (by decide) (fun hc569 => ?_) (fun hc569 => ?_)
        · have h := iq (fun z9 => z9) hc569 h
          refine r_aload_n 2 dX4_readClaim_88 rfl ?_
          obtain ⟨r570, hc571, h⟩ := ob (fun z9 => z9) rfl h
          refine c_Vv (rest := []) 0 0 _ dX4_readClaim_89 kv_X4_59 (ct_Re_fail hc571) rfl rfl lX_33 rfl (Nat.le_of_ble_eq_true rfl) (by decide) (by decide) ?_
          refine r_vret dX4_readClaim_92 rfl ?_
          have h := Option.some.inj (show some _ = some o from h)
          subst h
          exact hq
        · have h := ip (fun z9 => z9) hc569 h
          refine r_aload_n 2 dX4_readClaim_79 rfl ?_
          refine r_iload_n 1 dX4_readClaim_80 rfl ?_
          refine r_iload_n 0 dX4_readClaim_81 rfl ?_
          obtain ⟨r572, hc573, h⟩ := ob (fun z9 => z9) rfl h
          refine c_Vv (rest := []) 0 0 _ dX4_readClaim_82 kv_X4_139 (ct_Re_readOther hc573) rfl rfl lX_33 rfl (Nat.le_of_ble_eq_true rfl) (by decide) (by decide) ?_
          refine r_goto (tgt := 92) dX4_readClaim_85 (by decide) ?_
          refine r_vret dX4_readClaim_92 rfl ?_
          have h := Option.some.inj (show some _ = some o from h)
          subst h
          exact hq
    · have h := ip (fun z9 => z9) hc565 h
      refine r_aload_n 2 dX4_readClaim_50 rfl ?_
      refine r_iload_n 1 dX4_readClaim_51 rfl ?_
      refine r_iload_n 0 dX4_readClaim_52 rfl ?_
      obtain ⟨r574, hc575, h⟩ := ob (fun z9 => z9) rfl h
      refine c_Vv (rest := []) 0 0 _ dX4_readClaim_53 kv_X4_135 (ct_Re_readHours hc575) rfl rfl lX_33 rfl (Nat.le_of_ble_eq_true rfl) (by decide) (by decide) ?_
      refine r_goto (tgt := 92) dX4_readClaim_56 (by decide) ?_
      refine r_vret dX4_readClaim_92 rfl ?_
      have h := Option.some.inj (show some _ = some o from h)
      subst h
      exact hq
theorem ct_Re_readClaim {g : GG} {ad : Nat → Nat} {t : va_W} {x0 x1 x3 x4 x5 x11 x12 x18 x19 x20 x26 x29 x30 x31 x37 x39 x40 x47 x48 x58 x59 x60 x61 x63 x64 x65 x66 : Int32} {x2 x6 x7 x8 x9 x10 x13 x14 x15 x16 x17 x21 x22 x23 x49 x50 x51 x52 x53 x62 x67 : Nat → Int32} {x32 : Int64} {x38 : Nat → Int64} {Re_at : Int32} {Re_kind : Int32} {Re_error : Int32} {Re_errorPlace : Int32} {To_kinds : Nat → Int32} {To_starts : Nat → Int32} {To_numbers : Nat → Int32} {To_words : Nat → Int64} {Cl_count : Int32} {Cl_tellers : Nat → Int32} {Cl_kinds : Nat → Int32} {Cl_events : Nat → Int32} {Cl_firsts : Nat → Int32} {Cl_lasts : Nat → Int32} {Na_count : Int32} {Na_words : Nat → Int64} {Na_count_2 : Int32} {Na_words_2 : Nat → Int64} {o : Int32 × Int32 × Int32 × Int32 × Int32 × (Nat → Int32) × (Nat → Int32) × (Nat → Int32) × (Nat → Int32) × (Nat → Int32)} (h : f_Re_readClaim Re_at Re_kind Re_error Re_errorPlace To_kinds To_starts To_numbers To_words Cl_count Cl_tellers Cl_kinds Cl_events Cl_firsts Cl_lasts Na_count Na_words Na_count_2 Na_words_2 = some o) : Ct g mX4_readClaim 7 0 0 [.ref (ad 33)] (wlX g ad x0 x1 x2 x3 x4 x5 x6 x7 x8 x9 x10 x11 x12 x13 x14 x15 x16 x17 x18 x19 x20 x21 x22 x23 Re_at Re_kind x26 Re_error Re_errorPlace x29 x30 x31 x32 To_kinds To_starts To_numbers To_words x37 x38 x39 x40 Cl_count Cl_tellers Cl_kinds Cl_events Cl_firsts Cl_lasts x47 x48 x49 x50 x51 x52 x53 Na_count Na_words Na_count_2 Na_words_2 x58 x59 x60 x61 x62 x63 x64 x65 x66 x67 ++ t) (Dv (none) (wlX g ad x0 x1 x2 x3 x4 x5 x6 x7 x8 x9 x10 x11 x12 x13 x14 x15 x16 x17 x18 x19 x20 x21 x22 x23 o.1 o.2.1 x26 o.2.2.1 o.2.2.2.1 x29 x30 x31 x32 To_kinds To_starts To_numbers To_words x37 x38 x39 x40 o.2.2.2.2.1 o.2.2.2.2.2.1 o.2.2.2.2.2.2.1 o.2.2.2.2.2.2.2.1 o.2.2.2.2.2.2.2.2.1 o.2.2.2.2.2.2.2.2.2 x47 x48 x49 x50 x51 x52 x53 Na_count Na_words Na_count_2 Na_words_2 x58 x59 x60 x61 x62 x63 x64 x65 x66 x67 ++ t)) := Ct.ofR (by decide +kernel) rfl (Nat.le_of_ble_eq_true rfl) (rt_Re_readClaim h ⟨rfl, rfl⟩)
set_option maxRecDepth 20000 in
set_option maxHeartbeats 4000000 in
theorem rt_Re_readNew {g : GG} {ad : Nat → Nat} {t : va_W} {x0 x1 x3 x4 x5 x11 x12 x18 x19 x20 x26 x29 x30 x31 x37 x39 x40 x41 x47 x48 x54 x58 x59 x60 x61 x63 x64 x65 x66 : Int32} {x2 x6 x7 x8 x9 x10 x13 x14 x15 x16 x17 x21 x22 x23 x35 x42 x43 x44 x45 x46 x49 x50 x51 x52 x53 x62 x67 : Nat → Int32} {x32 : Int64} {x38 x55 : Nat → Int64} {Re_at : Int32} {Re_kind : Int32} {Re_error : Int32} {Re_errorPlace : Int32} {To_kinds : Nat → Int32} {To_starts : Nat → Int32} {To_words : Nat → Int64} {Na_count : Int32} {Na_words : Nat → Int64} {o : Int32 × Int32 × Int32 × Int32 × Int32 × (Nat → Int64)} {Q : Rs → va_W → Prop} (h : f_Re_readNew Re_at Re_kind Re_error Re_errorPlace To_kinds To_starts To_words Na_count Na_words = some o) (hq : Q (.inl (none)) (wlX g ad x0 x1 x2 x3 x4 x5 x6 x7 x8 x9 x10 x11 x12 x13 x14 x15 x16 x17 x18 x19 x20 x21 x22 x23 o.1 o.2.1 x26 o.2.2.1 o.2.2.2.1 x29 x30 x31 x32 To_kinds To_starts x35 To_words x37 x38 x39 x40 x41 x42 x43 x44 x45 x46 x47 x48 x49 x50 x51 x52 x53 x54 x55 o.2.2.2.2.1 o.2.2.2.2.2 x58 x59 x60 x61 x62 x63 x64 x65 x66 x67 ++ t)) : R g mX4_readNew 4 0 0 0 [(0, .ref (ad 33)), (1, .ref (ad 69))] [] (wlX g ad x0 x1 x2 x3 x4 x5 x6 x7 x8 x9 x10 x11 x12 x13 x14 x15 x16 x17 x18 x19 x20 x21 x22 x23 Re_at Re_kind x26 Re_error Re_errorPlace x29 x30 x31 x32 To_kinds To_starts x35 To_words x37 x38 x39 x40 x41 x42 x43 x44 x45 x46 x47 x48 x49 x50 x51 x52 x53 x54 x55 Na_count Na_words x58 x59 x60 x61 x62 x63 x64 x65 x66 x67 ++ t) Q := by
  unfold f_Re_readNew at h
  refine r_aload_n 0 dX4_readNew_0 rfl ?_
  obtain ⟨r576, hc577, h⟩ := ob (fun z9 => z9) rfl h
  refine c_Vv (rest := []) 0 0 _ dX4_readNew_1 kv_X4_105 (ct_Re_advance hc577) rfl rfl lX_33 rfl (Nat.le_of_ble_eq_true rfl) (by decide) (by decide) ?_
  refine r_aload_n 0 dX4_readNew_4 rfl ?_
  refine r_getf (v := .int r576.2) _ dX4_readNew_5 fl_X4_42 lX_33 rfl ?_
  refine r_sipush (v := (130 : Int32)) dX4_readNew_8 (by decide) ?_
  refine r_icmp_eq (tgt := 19) dX4_readNew_11 (by decide) (fun hc578 => ?_) (fun hc578 => ?_)
  · have h := ip (fun z9 => z9) hc578 h
    refine r_aload_n 1 dX4_readNew_19 rfl ?_
    refine r_aload_n 0 dX4_readNew_20 rfl ?_
    refine r_getf (v := .ref (ad 34)) _ dX4_readNew_21 fl_X4_14 lX_33 rfl ?_
    refine r_aload_n 0 dX4_readNew_24 rfl ?_
    refine r_getf (v := .int r576.1) _ dX4_readNew_25 fl_X4_80 lX_33 rfl ?_
    obtain ⟨r579, hc580, h⟩ := ob (fun z9 => z9) rfl h
    refine c_V (rest := [.ref (ad 69)]) 0 0 _ dX4_readNew_28 kv_X4_108 (ct_To_wordAt hc580) rfl rfl lX_34 rfl (Nat.le_of_ble_eq_true rfl) (by decide) (by decide) ?_
    refine c_V (rest := []) 0 0 _ dX4_readNew_31 kv_X4_112 (ct_Na_find lX_69 lX_70 (Nat.le_of_ble_eq_true rfl)) rfl rfl lX_69 rfl (Nat.le_of_ble_eq_true rfl) (by decide) (by decide) ?_
    refine r_if_lt (tgt := 45) dX4_readNew_34 (by decide) (fun hc581 => ?_) (fun hc581 => ?_)
    · have h := ip (fun z9 => z9) hc581 h
      refine r_aload_n 1 dX4_readNew_45 rfl ?_
      refine c_V (rest := []) 0 0 _ dX4_readNew_46 kv_X4_116 (ct_Na_isFull lX_69 lX_70 (Nat.le_of_ble_eq_true rfl)) rfl rfl lX_69 rfl (Nat.le_of_ble_eq_true rfl) (by decide) (by decide) ?_
      refine r_if_eq (tgt := 60) dX4_readNew_49 (by decide) (fun hc582 => ?_) (fun hc582 => ?_)
      · have h := ip (fun z9 => z9) hc582 h
        refine r_aload_n 1 dX4_readNew_60 rfl ?_
        refine r_aload_n 0 dX4_readNew_61 rfl ?_
        refine r_getf (v := .ref (ad 34)) _ dX4_readNew_62 fl_X4_14 lX_33 rfl ?_
        refine r_aload_n 0 dX4_readNew_65 rfl ?_
        refine r_getf (v := .int r576.1) _ dX4_readNew_66 fl_X4_80 lX_33 rfl ?_
        obtain ⟨r583, hc584, h⟩ := ob (fun z9 => z9) rfl h
        refine c_V (rest := [.ref (ad 69)]) 0 0 _ dX4_readNew_69 kv_X4_108 (ct_To_wordAt hc584) rfl rfl lX_34 rfl (Nat.le_of_ble_eq_true rfl) (by decide) (by decide) ?_
        refine c_Vv (rest := []) 0 0 _ dX4_readNew_72 kv_X4_120 (ct_Na_add lX_69 lX_70 (fun _ => sX_57 _) (fun _ => sX_56 _) (fun e => by simp only [nadd_f e, nacnt_f e]) (Nat.le_of_ble_eq_true rfl)) rfl rfl lX_69 rfl (Nat.le_of_ble_eq_true rfl) (by decide) (by decide) ?_
        refine r_aload_n 0 dX4_readNew_75 rfl ?_
        obtain ⟨r585, hc586, h⟩ := ob (fun z9 => z9) rfl h
        refine c_Vv (rest := []) 0 0 _ dX4_readNew_76 kv_X4_105 (ct_Re_advance hc586) rfl rfl lX_33 rfl (Nat.le_of_ble_eq_true rfl) (by decide) (by decide) ?_
        refine r_vret dX4_readNew_79 rfl ?_
        have h := Option.some.inj (show some _ = some o from h)
        subst h
        exact hq
      · have h := iq (fun z9 => z9) hc582 h
        refine r_aload_n 0 dX4_readNew_52 rfl ?_
        refine r_iconst (v := (4 : Int32)) dX4_readNew_53 (by decide) ?_
        obtain ⟨r587, hc588, h⟩ := ob (fun z9 => z9) rfl h
        refine c_Vv (rest := []) 0 0 _ dX4_readNew_54 kv_X4_102 (ct_Re_note hc588) rfl rfl lX_33 rfl (Nat.le_of_ble_eq_true rfl) (by decide) (by decide) ?_
        refine r_goto (tgt := 75) dX4_readNew_57 (by decide) ?_
        refine r_aload_n 0 dX4_readNew_75 rfl ?_
        obtain ⟨r589, hc590, h⟩ := ob (fun z9 => z9) rfl h
        refine c_Vv (rest := []) 0 0 _ dX4_readNew_76 kv_X4_105 (ct_Re_advance hc590) rfl rfl lX_33 rfl (Nat.le_of_ble_eq_true rfl) (by decide) (by decide) ?_
        refine r_vret dX4_readNew_79 rfl ?_
        have h := Option.some.inj (show some _ = some o from h)
        subst h
        exact hq
    · have h := iq (fun z9 => z9) hc581 h
      refine r_aload_n 0 dX4_readNew_37 rfl ?_
      refine r_iconst (v := (2 : Int32)) dX4_readNew_38 (by decide) ?_
      obtain ⟨r591, hc592, h⟩ := ob (fun z9 => z9) rfl h
      refine c_Vv (rest := []) 0 0 _ dX4_readNew_39 kv_X4_102 (ct_Re_note hc592) rfl rfl lX_33 rfl (Nat.le_of_ble_eq_true rfl) (by decide) (by decide) ?_
      refine r_goto (tgt := 75) dX4_readNew_42 (by decide) ?_
      refine r_aload_n 0 dX4_readNew_75 rfl ?_
      obtain ⟨r593, hc594, h⟩ := ob (fun z9 => z9) rfl h
      refine c_Vv (rest := []) 0 0 _ dX4_readNew_76 kv_X4_105 (ct_Re_advance hc594) rfl rfl lX_33 rfl (Nat.le_of_ble_eq_true rfl) (by decide) (by decide) ?_
      refine r_vret dX4_readNew_79 rfl ?_
      have h := Option.some.inj (show some _ = some o from h)
      subst h
      exact hq
  · have h := iq (fun z9 => z9) hc578 h
    refine r_aload_n 0 dX4_readNew_14 rfl ?_
    obtain ⟨r595, hc596, h⟩ := ob (fun z9 => z9) rfl h
    refine c_Vv (rest := []) 0 0 _ dX4_readNew_15 kv_X4_59 (ct_Re_fail hc596) rfl rfl lX_33 rfl (Nat.le_of_ble_eq_true rfl) (by decide) (by decide) ?_
    refine r_vret dX4_readNew_18 rfl ?_
    have h := Option.some.inj (show some _ = some o from h)
    subst h
    exact hq
theorem ct_Re_readNew {g : GG} {ad : Nat → Nat} {t : va_W} {x0 x1 x3 x4 x5 x11 x12 x18 x19 x20 x26 x29 x30 x31 x37 x39 x40 x41 x47 x48 x54 x58 x59 x60 x61 x63 x64 x65 x66 : Int32} {x2 x6 x7 x8 x9 x10 x13 x14 x15 x16 x17 x21 x22 x23 x35 x42 x43 x44 x45 x46 x49 x50 x51 x52 x53 x62 x67 : Nat → Int32} {x32 : Int64} {x38 x55 : Nat → Int64} {Re_at : Int32} {Re_kind : Int32} {Re_error : Int32} {Re_errorPlace : Int32} {To_kinds : Nat → Int32} {To_starts : Nat → Int32} {To_words : Nat → Int64} {Na_count : Int32} {Na_words : Nat → Int64} {o : Int32 × Int32 × Int32 × Int32 × Int32 × (Nat → Int64)} (h : f_Re_readNew Re_at Re_kind Re_error Re_errorPlace To_kinds To_starts To_words Na_count Na_words = some o) : Ct g mX4_readNew 4 0 0 [.ref (ad 33), .ref (ad 69)] (wlX g ad x0 x1 x2 x3 x4 x5 x6 x7 x8 x9 x10 x11 x12 x13 x14 x15 x16 x17 x18 x19 x20 x21 x22 x23 Re_at Re_kind x26 Re_error Re_errorPlace x29 x30 x31 x32 To_kinds To_starts x35 To_words x37 x38 x39 x40 x41 x42 x43 x44 x45 x46 x47 x48 x49 x50 x51 x52 x53 x54 x55 Na_count Na_words x58 x59 x60 x61 x62 x63 x64 x65 x66 x67 ++ t) (Dv (none) (wlX g ad x0 x1 x2 x3 x4 x5 x6 x7 x8 x9 x10 x11 x12 x13 x14 x15 x16 x17 x18 x19 x20 x21 x22 x23 o.1 o.2.1 x26 o.2.2.1 o.2.2.2.1 x29 x30 x31 x32 To_kinds To_starts x35 To_words x37 x38 x39 x40 x41 x42 x43 x44 x45 x46 x47 x48 x49 x50 x51 x52 x53 x54 x55 o.2.2.2.2.1 o.2.2.2.2.2 x58 x59 x60 x61 x62 x63 x64 x65 x66 x67 ++ t)) := Ct.ofR (by decide +kernel) rfl (Nat.le_of_ble_eq_true rfl) (rt_Re_readNew h ⟨rfl, rfl⟩)
set_option maxRecDepth 20000 in
set_option maxHeartbeats 4000000 in
theorem rt_Re_readNew_v1 {g : GG} {ad : Nat → Nat} {t : va_W} {x0 x1 x3 x4 x5 x11 x12 x18 x19 x20 x26 x29 x30 x31 x37 x39 x40 x41 x47 x48 x56 x58 x59 x60 x61 x63 x64 x65 x66 : Int32} {x2 x6 x7 x8 x9 x10 x13 x14 x15 x16 x17 x21 x22 x23 x35 x42 x43 x44 x45 x46 x49 x50 x51 x52 x53 x62 x67 : Nat → Int32} {x32 : Int64} {x38 x57 : Nat → Int64} {Re_at : Int32} {Re_kind : Int32} {Re_error : Int32} {Re_errorPlace : Int32} {To_kinds : Nat → Int32} {To_starts : Nat → Int32} {To_words : Nat → Int64} {Na_count : Int32} {Na_words : Nat → Int64} {o : Int32 × Int32 × Int32 × Int32 × Int32 × (Nat → Int64)} {Q : Rs → va_W → Prop} (h : f_Re_readNew_v1 Re_at Re_kind Re_error Re_errorPlace To_kinds To_starts To_words Na_count Na_words = some o) (hq : Q (.inl (none)) (wlX g ad x0 x1 x2 x3 x4 x5 x6 x7 x8 x9 x10 x11 x12 x13 x14 x15 x16 x17 x18 x19 x20 x21 x22 x23 o.1 o.2.1 x26 o.2.2.1 o.2.2.2.1 x29 x30 x31 x32 To_kinds To_starts x35 To_words x37 x38 x39 x40 x41 x42 x43 x44 x45 x46 x47 x48 x49 x50 x51 x52 x53 o.2.2.2.2.1 o.2.2.2.2.2 x56 x57 x58 x59 x60 x61 x62 x63 x64 x65 x66 x67 ++ t)) : R g mX4_readNew 4 0 0 0 [(0, .ref (ad 33)), (1, .ref (ad 67))] [] (wlX g ad x0 x1 x2 x3 x4 x5 x6 x7 x8 x9 x10 x11 x12 x13 x14 x15 x16 x17 x18 x19 x20 x21 x22 x23 Re_at Re_kind x26 Re_error Re_errorPlace x29 x30 x31 x32 To_kinds To_starts x35 To_words x37 x38 x39 x40 x41 x42 x43 x44 x45 x46 x47 x48 x49 x50 x51 x52 x53 Na_count Na_words x56 x57 x58 x59 x60 x61 x62 x63 x64 x65 x66 x67 ++ t) Q := by
  unfold f_Re_readNew_v1 at h
  refine r_aload_n 0 dX4_readNew_0 rfl ?_
  obtain ⟨r597, hc598, h⟩ := ob (fun z9 => z9) rfl h
  refine c_Vv (rest := []) 0 0 _ dX4_readNew_1 kv_X4_105 (ct_Re_advance hc598) rfl rfl lX_33 rfl (Nat.le_of_ble_eq_true rfl) (by decide) (by decide) ?_
  refine r_aload_n 0 dX4_readNew_4 rfl ?_
  refine r_getf (v := .int r597.2) _ dX4_readNew_5 fl_X4_42 lX_33 rfl ?_
  refine r_sipush (v := (130 : Int32)) dX4_readNew_8 (by decide) ?_
  refine r_icmp_eq (tgt := 19) dX4_readNew_11 (by decide) (fun hc599 => ?_) (fun hc599 => ?_)
  · have h := ip (fun z9 => z9) hc599 h
    refine r_aload_n 1 dX4_readNew_19 rfl ?_
    refine r_aload_n 0 dX4_readNew_20 rfl ?_
    refine r_getf (v := .ref (ad 34)) _ dX4_readNew_21 fl_X4_14 lX_33 rfl ?_
    refine r_aload_n 0 dX4_readNew_24 rfl ?_
    refine r_getf (v := .int r597.1) _ dX4_readNew_25 fl_X4_80 lX_33 rfl ?_
    obtain ⟨r600, hc601, h⟩ := ob (fun z9 => z9) rfl h
    refine c_V (rest := [.ref (ad 67)]) 0 0 _ dX4_readNew_28 kv_X4_108 (ct_To_wordAt hc601) rfl rfl lX_34 rfl (Nat.le_of_ble_eq_true rfl) (by decide) (by decide) ?_
    refine c_V (rest := []) 0 0 _ dX4_readNew_31 kv_X4_112 (ct_Na_find lX_67 lX_68 (Nat.le_of_ble_eq_true rfl)) rfl rfl lX_67 rfl (Nat.le_of_ble_eq_true rfl) (by decide) (by decide) ?_
    refine r_if_lt (tgt := 45) dX4_readNew_34 (by decide) (fun hc602 => ?_) (fun hc602 => ?_)
    · have h := ip (fun z9 => z9) hc602 h
      refine r_aload_n 1 dX4_readNew_45 rfl ?_
      refine c_V (rest := []) 0 0 _ dX4_readNew_46 kv_X4_116 (ct_Na_isFull lX_67 lX_68 (Nat.le_of_ble_eq_true rfl)) rfl rfl lX_67 rfl (Nat.le_of_ble_eq_true rfl) (by decide) (by decide) ?_
      refine r_if_eq (tgt := 60) dX4_readNew_49 (by decide) (fun hc603 => ?_) (fun hc603 => ?_)
      · have h := ip (fun z9 => z9) hc603 h
        refine r_aload_n 1 dX4_readNew_60 rfl ?_
        refine r_aload_n 0 dX4_readNew_61 rfl ?_
        refine r_getf (v := .ref (ad 34)) _ dX4_readNew_62 fl_X4_14 lX_33 rfl ?_
        refine r_aload_n 0 dX4_readNew_65 rfl ?_
        refine r_getf (v := .int r597.1) _ dX4_readNew_66 fl_X4_80 lX_33 rfl ?_
        obtain ⟨r604, hc605, h⟩ := ob (fun z9 => z9) rfl h
        refine c_V (rest := [.ref (ad 67)]) 0 0 _ dX4_readNew_69 kv_X4_108 (ct_To_wordAt hc605) rfl rfl lX_34 rfl (Nat.le_of_ble_eq_true rfl) (by decide) (by decide) ?_
        refine c_Vv (rest := []) 0 0 _ dX4_readNew_72 kv_X4_120 (ct_Na_add lX_67 lX_68 (fun _ => sX_55 _) (fun _ => sX_54 _) (fun e => by simp only [nadd_f e, nacnt_f e]) (Nat.le_of_ble_eq_true rfl)) rfl rfl lX_67 rfl (Nat.le_of_ble_eq_true rfl) (by decide) (by decide) ?_
        refine r_aload_n 0 dX4_readNew_75 rfl ?_
        obtain ⟨r606, hc607, h⟩ := ob (fun z9 => z9) rfl h
        refine c_Vv (rest := []) 0 0 _ dX4_readNew_76 kv_X4_105 (ct_Re_advance hc607) rfl rfl lX_33 rfl (Nat.le_of_ble_eq_true rfl) (by decide) (by decide) ?_
        refine r_vret dX4_readNew_79 rfl ?_
        have h := Option.some.inj (show some _ = some o from h)
        subst h
        exact hq
      · have h := iq (fun z9 => z9) hc603 h
        refine r_aload_n 0 dX4_readNew_52 rfl ?_
        refine r_iconst (v := (4 : Int32)) dX4_readNew_53 (by decide) ?_
        obtain ⟨r608, hc609, h⟩ := ob (fun z9 => z9) rfl h
        refine c_Vv (rest := []) 0 0 _ dX4_readNew_54 kv_X4_102 (ct_Re_note hc609) rfl rfl lX_33 rfl (Nat.le_of_ble_eq_true rfl) (by decide) (by decide) ?_
        refine r_goto (tgt := 75) dX4_readNew_57 (by decide) ?_
        refine r_aload_n 0 dX4_readNew_75 rfl ?_
        obtain ⟨r610, hc611, h⟩ := ob (fun z9 => z9) rfl h
        refine c_Vv (rest := []) 0 0 _ dX4_readNew_76 kv_X4_105 (ct_Re_advance hc611) rfl rfl lX_33 rfl (Nat.le_of_ble_eq_true rfl) (by decide) (by decide) ?_
        refine r_vret dX4_readNew_79 rfl ?_
        have h := Option.some.inj (show some _ = some o from h)
        subst h
        exact hq
    · have h := iq (fun z9 => z9) hc602 h
      refine r_aload_n 0 dX4_readNew_37 rfl ?_
      refine r_iconst (v := (2 : Int32)) dX4_readNew_38 (by decide) ?_
      obtain ⟨r612, hc613, h⟩ := ob (fun z9 => z9) rfl h
      refine c_Vv (rest := []) 0 0 _ dX4_readNew_39 kv_X4_102 (ct_Re_note hc613) rfl rfl lX_33 rfl (Nat.le_of_ble_eq_true rfl) (by decide) (by decide) ?_
      refine r_goto (tgt := 75) dX4_readNew_42 (by decide) ?_
      refine r_aload_n 0 dX4_readNew_75 rfl ?_
      obtain ⟨r614, hc615, h⟩ := ob (fun z9 => z9) rfl h
      refine c_Vv (rest := []) 0 0 _ dX4_readNew_76 kv_X4_105 (ct_Re_advance hc615) rfl rfl lX_33 rfl (Nat.le_of_ble_eq_true rfl) (by decide) (by decide) ?_
      refine r_vret dX4_readNew_79 rfl ?_
      have h := Option.some.inj (show some _ = some o from h)
      subst h
      exact hq
  · have h := iq (fun z9 => z9) hc599 h
    refine r_aload_n 0 dX4_readNew_14 rfl ?_
    obtain ⟨r616, hc617, h⟩ := ob (fun z9 => z9) rfl h
    refine c_Vv (rest := []) 0 0 _ dX4_readNew_15 kv_X4_59 (ct_Re_fail hc617) rfl rfl lX_33 rfl (Nat.le_of_ble_eq_true rfl) (by decide) (by decide) ?_
    refine r_vret dX4_readNew_18 rfl ?_
    have h := Option.some.inj (show some _ = some o from h)
    subst h
    exact hq
theorem ct_Re_readNew_v1 {g : GG} {ad : Nat → Nat} {t : va_W} {x0 x1 x3 x4 x5 x11 x12 x18 x19 x20 x26 x29 x30 x31 x37 x39 x40 x41 x47 x48 x56 x58 x59 x60 x61 x63 x64 x65 x66 : Int32} {x2 x6 x7 x8 x9 x10 x13 x14 x15 x16 x17 x21 x22 x23 x35 x42 x43 x44 x45 x46 x49 x50 x51 x52 x53 x62 x67 : Nat → Int32} {x32 : Int64} {x38 x57 : Nat → Int64} {Re_at : Int32} {Re_kind : Int32} {Re_error : Int32} {Re_errorPlace : Int32} {To_kinds : Nat → Int32} {To_starts : Nat → Int32} {To_words : Nat → Int64} {Na_count : Int32} {Na_words : Nat → Int64} {o : Int32 × Int32 × Int32 × Int32 × Int32 × (Nat → Int64)} (h : f_Re_readNew_v1 Re_at Re_kind Re_error Re_errorPlace To_kinds To_starts To_words Na_count Na_words = some o) : Ct g mX4_readNew 4 0 0 [.ref (ad 33), .ref (ad 67)] (wlX g ad x0 x1 x2 x3 x4 x5 x6 x7 x8 x9 x10 x11 x12 x13 x14 x15 x16 x17 x18 x19 x20 x21 x22 x23 Re_at Re_kind x26 Re_error Re_errorPlace x29 x30 x31 x32 To_kinds To_starts x35 To_words x37 x38 x39 x40 x41 x42 x43 x44 x45 x46 x47 x48 x49 x50 x51 x52 x53 Na_count Na_words x56 x57 x58 x59 x60 x61 x62 x63 x64 x65 x66 x67 ++ t) (Dv (none) (wlX g ad x0 x1 x2 x3 x4 x5 x6 x7 x8 x9 x10 x11 x12 x13 x14 x15 x16 x17 x18 x19 x20 x21 x22 x23 o.1 o.2.1 x26 o.2.2.1 o.2.2.2.1 x29 x30 x31 x32 To_kinds To_starts x35 To_words x37 x38 x39 x40 x41 x42 x43 x44 x45 x46 x47 x48 x49 x50 x51 x52 x53 o.2.2.2.2.1 o.2.2.2.2.2 x56 x57 x58 x59 x60 x61 x62 x63 x64 x65 x66 x67 ++ t)) := Ct.ofR (by decide +kernel) rfl (Nat.le_of_ble_eq_true rfl) (rt_Re_readNew_v1 h ⟨rfl, rfl⟩)
set_option maxRecDepth 20000 in
set_option maxHeartbeats 4000000 in
theorem rt_Re_read {g : GG} {ad : Nat → Nat} {t : va_W} {x0 x1 x3 x4 x5 x11 x12 x18 x19 x20 x58 x59 x60 x61 x63 x64 x65 x66 : Int32} {x6 x7 x8 x9 x10 x13 x14 x15 x16 x17 x21 x22 x23 x62 x67 : Nat → Int32} {N : Nat} {Main_tape : Nat → Int32} {Re_at : Int32} {Re_kind : Int32} {Re_depth : Int32} {Re_error : Int32} {Re_errorPlace : Int32} {To_size : Int32} {To_place : Int32} {To_number : Int32} {To_word : Int64} {To_kinds : Nat → Int32} {To_starts : Nat → Int32} {To_numbers : Nat → Int32} {To_words : Nat → Int64} {Na_count : Int32} {Na_words : Nat → Int64} {Tap_eventCount : Int32} {Tap_tellerCount : Int32} {Cl_count : Int32} {Cl_tellers : Nat → Int32} {Cl_kinds : Nat → Int32} {Cl_events : Nat → Int32} {Cl_firsts : Nat → Int32} {Cl_lasts : Nat → Int32} {Or_count : Int32} {Or_stepCount : Int32} {Or_doubts : Nat → Int32} {Or_tellers : Nat → Int32} {Or_ends : Nat → Int32} {Or_stepKinds : Nat → Int32} {Or_stepParts : Nat → Int32} {Na_count_2 : Int32} {Na_words_2 : Nat → Int64} {Na_count_3 : Int32} {Na_words_3 : Nat → Int64} {p1 : Int32} {o : Int32 × Int32 × Int32 × Int32 × Int32 × Int32 × Int32 × Int32 × Int32 × Int64 × (Nat → Int32) × (Nat → Int32) × (Nat → Int32) × (Nat → Int64) × Int32 × Int32 × Int32 × (Nat → Int32) × (Nat → Int32) × (Nat → Int32) × (Nat → Int32) × (Nat → Int32) × Int32 × Int32 × (Nat → Int32) × (Nat → Int32) × (Nat → Int32) × (Nat → Int32) × (Nat → Int32) × Int32 × (Nat → Int64) × Int32 × (Nat → Int64)} {Q : Rs → va_W → Prop} (h : f_Re_read N Main_tape Re_at Re_kind Re_depth Re_error Re_errorPlace To_size To_place To_number To_word To_kinds To_starts To_numbers To_words Na_count Na_words Tap_eventCount Tap_tellerCount Cl_count Cl_tellers Cl_kinds Cl_events Cl_firsts Cl_lasts Or_count Or_stepCount Or_doubts Or_tellers Or_ends Or_stepKinds Or_stepParts Na_count_2 Na_words_2 Na_count_3 Na_words_3 p1 = some o) (hq : Q (.inl (some (.int o.1))) (wlX g ad x0 x1 Main_tape x3 x4 x5 x6 x7 x8 x9 x10 x11 x12 x13 x14 x15 x16 x17 x18 x19 x20 x21 x22 x23 o.2.1 o.2.2.1 o.2.2.2.1 o.2.2.2.2.1 o.2.2.2.2.2.1 o.2.2.2.2.2.2.1 o.2.2.2.2.2.2.2.1 o.2.2.2.2.2.2.2.2.1 o.2.2.2.2.2.2.2.2.2.1 o.2.2.2.2.2.2.2.2.2.2.1 o.2.2.2.2.2.2.2.2.2.2.2.1 o.2.2.2.2.2.2.2.2.2.2.2.2.1 o.2.2.2.2.2.2.2.2.2.2.2.2.2.1 Na_count Na_words o.2.2.2.2.2.2.2.2.2.2.2.2.2.2.1 o.2.2.2.2.2.2.2.2.2.2.2.2.2.2.2.1 o.2.2.2.2.2.2.2.2.2.2.2.2.2.2.2.2.1 o.2.2.2.2.2.2.2.2.2.2.2.2.2.2.2.2.2.1 o.2.2.2.2.2.2.2.2.2.2.2.2.2.2.2.2.2.2.1 o.2.2.2.2.2.2.2.2.2.2.2.2.2.2.2.2.2.2.2.1 o.2.2.2.2.2.2.2.2.2.2.2.2.2.2.2.2.2.2.2.2.1 o.2.2.2.2.2.2.2.2.2.2.2.2.2.2.2.2.2.2.2.2.2.1 o.2.2.2.2.2.2.2.2.2.2.2.2.2.2.2.2.2.2.2.2.2.2.1 o.2.2.2.2.2.2.2.2.2.2.2.2.2.2.2.2.2.2.2.2.2.2.2.1 o.2.2.2.2.2.2.2.2.2.2.2.2.2.2.2.2.2.2.2.2.2.2.2.2.1 o.2.2.2.2.2.2.2.2.2.2.2.2.2.2.2.2.2.2.2.2.2.2.2.2.2.1 o.2.2.2.2.2.2.2.2.2.2.2.2.2.2.2.2.2.2.2.2.2.2.2.2.2.2.1 o.2.2.2.2.2.2.2.2.2.2.2.2.2.2.2.2.2.2.2.2.2.2.2.2.2.2.2.1 o.2.2.2.2.2.2.2.2.2.2.2.2.2.2.2.2.2.2.2.2.2.2.2.2.2.2.2.2.1 o.2.2.2.2.2.2.2.2.2.2.2.2.2.2.2.2.2.2.2.2.2.2.2.2.2.2.2.2.2.1 o.2.2.2.2.2.2.2.2.2.2.2.2.2.2.2.2.2.2.2.2.2.2.2.2.2.2.2.2.2.2.1 o.2.2.2.2.2.2.2.2.2.2.2.2.2.2.2.2.2.2.2.2.2.2.2.2.2.2.2.2.2.2.2.1 o.2.2.2.2.2.2.2.2.2.2.2.2.2.2.2.2.2.2.2.2.2.2.2.2.2.2.2.2.2.2.2.2 x58 x59 x60 x61 x62 x63 x64 x65 x66 x67 ++ t)) : R g mX4_read 73 0 0 0 [(0, .ref (ad 33)), (1, .int p1)] [] (wlX g ad x0 x1 Main_tape x3 x4 x5 x6 x7 x8 x9 x10 x11 x12 x13 x14 x15 x16 x17 x18 x19 x20 x21 x22 x23 Re_at Re_kind Re_depth Re_error Re_errorPlace To_size To_place To_number To_word To_kinds To_starts To_numbers To_words Na_count Na_words Tap_eventCount Tap_tellerCount Cl_count Cl_tellers Cl_kinds Cl_events Cl_firsts Cl_lasts Or_count Or_stepCount Or_doubts Or_tellers Or_ends Or_stepKinds Or_stepParts Na_count_2 Na_words_2 Na_count_3 Na_words_3 x58 x59 x60 x61 x62 x63 x64 x65 x66 x67 ++ t) Q := by
  unfold f_Re_read at h
  refine r_aload_n 0 dX4_read_0 rfl ?_
  refine r_iload_n 1 dX4_read_1 rfl ?_
  obtain ⟨r618, hc619, h⟩ := ob (fun z9 => z9) rfl h
  refine c_Vv (rest := []) 0 0 _ dX4_read_2 kv_X4_39 (ct_Re_restart hc619) rfl rfl lX_33 rfl (Nat.le_of_ble_eq_true rfl) (by decide) (by decide) ?_
  refine r_iconst (v := (0 : Int32)) dX4_read_5 (by decide) ?_
  refine r_istore_n [(2, .int (0 : Int32)), (0, .ref (ad 33)), (1, .int p1)] dX4_read_6 (by decide) rfl ?_
  refine r_ls [1, 0] (ls2 := [(0, .ref (ad 33)), (2, .int (0 : Int32))]) rfl ?_
  have L1 : ∀ (n1 : Nat) (To_size_c1 : Int32) (To_place_c1 : Int32) (To_number_c1 : Int32) (To_word_c1 : Int64) (To_kinds_c1 : Nat → Int32) (To_starts_c1 : Nat → Int32) (To_numbers_c1 : Nat → Int32) (To_words_c1 : Nat → Int64) (Tap_eventCount_c1 : Int32) (Tap_tellerCount_c1 : Int32) (l2_1 : Int32) (Re_at_1 : Int32) (Re_kind_1 : Int32) (Re_depth_1 : Int32) (Re_error_1 : Int32) (Re_errorPlace_1 : Int32) (Cl_count_1 : Int32) (Cl_tellers_1 : Nat → Int32) (Cl_kinds_1 : Nat → Int32) (Cl_events_1 : Nat → Int32) (Cl_firsts_1 : Nat → Int32) (Cl_lasts_1 : Nat → Int32) (Or_count_1 : Int32) (Or_stepCount_1 : Int32) (Or_doubts_1 : Nat → Int32) (Or_tellers_1 : Nat → Int32) (Or_ends_1 : Nat → Int32) (Or_stepKinds_1 : Nat → Int32) (Or_stepParts_1 : Nat → Int32) (Na_count_2_1 : Int32) (Na_words_2_1 : Nat → Int64) (Na_count_3_1 : Int32) (Na_words_3_1 : Nat → Int64), (fun z9 => z9) (lpS (f_Re_read_L7 N To_size_c1 To_place_c1 To_number_c1 To_word_c1 To_kinds_c1 To_starts_c1 To_numbers_c1 To_words_c1) none n1 (l2_1, Re_at_1, Re_kind_1, Re_depth_1, Re_error_1, Re_errorPlace_1, Cl_count_1, Cl_tellers_1, Cl_kinds_1, Cl_events_1, Cl_firsts_1, Cl_lasts_1, Or_count_1, Or_stepCount_1, Or_doubts_1, Or_tellers_1, Or_ends_1, Or_stepKinds_1, Or_stepParts_1, Na_count_2_1, Na_words_2_1, Na_count_3_1, Na_words_3_1)) = some o → R g mX4_read 73 0 0 7 [(0, .ref (ad 33)), (2, .int l2_1)] [] (wlX g ad x0 x1 Main_tape x3 x4 x5 x6 x7 x8 x9 x10 x11 x12 x13 x14 x15 x16 x17 x18 x19 x20 x21 x22 x23 Re_at_1 Re_kind_1 Re_depth_1 Re_error_1 Re_errorPlace_1 To_size_c1 To_place_c1 To_number_c1 To_word_c1 To_kinds_c1 To_starts_c1 To_numbers_c1 To_words_c1 Na_count Na_words Tap_eventCount_c1 Tap_tellerCount_c1 Cl_count_1 Cl_tellers_1 Cl_kinds_1 Cl_events_1 Cl_firsts_1 Cl_lasts_1 Or_count_1 Or_stepCount_1 Or_doubts_1 Or_tellers_1 Or_ends_1 Or_stepKinds_1 Or_stepParts_1 Na_count_2_1 Na_words_2_1 Na_count_3_1 Na_words_3_1 x58 x59 x60 x61 x62 x63 x64 x65 x66 x67 ++ t) Q := by
    intro n1
    induction n1 with
    | zero => intro To_size_c1 To_place_c1 To_number_c1 To_word_c1 To_kinds_c1 To_starts_c1 To_numbers_c1 To_words_c1 Tap_eventCount_c1 Tap_tellerCount_c1 l2_1 Re_at_1 Re_kind_1 Re_depth_1 Re_error_1 Re_errorPlace_1 Cl_count_1 Cl_tellers_1 Cl_kinds_1 Cl_events_1 Cl_firsts_1 Cl_lasts_1 Or_count_1 Or_stepCount_1 Or_doubts_1 Or_tellers_1 Or_ends_1 Or_stepKinds_1 Or_stepParts_1 Na_count_2_1 Na_words_2_1 Na_count_3_1 Na_words_3_1 h; exact nomatch (show (none : Option _) = some _ from h)
    | succ n1 ih1 =>
      intro To_size_c1 To_place_c1 To_number_c1 To_word_c1 To_kinds_c1 To_starts_c1 To_numbers_c1 To_words_c1 Tap_eventCount_c1 Tap_tellerCount_c1 l2_1 Re_at_1 Re_kind_1 Re_depth_1 Re_error_1 Re_errorPlace_1 Cl_count_1 Cl_tellers_1 Cl_kinds_1 Cl_events_1 Cl_firsts_1 Cl_lasts_1 Or_count_1 Or_stepCount_1 Or_doubts_1 Or_tellers_1 Or_ends_1 Or_stepKinds_1 Or_stepParts_1 Na_count_2_1 Na_words_2_1 Na_count_3_1 Na_words_3_1 h
      have h : (fun z9 => (lC (f_Re_read_L7 N To_size_c1 To_place_c1 To_number_c1 To_word_c1 To_kinds_c1 To_starts_c1 To_numbers_c1 To_words_c1) none n1 z9)) (f_Re_read_L7 N To_size_c1 To_place_c1 To_number_c1 To_word_c1 To_kinds_c1 To_starts_c1 To_numbers_c1 To_words_c1 (l2_1, Re_at_1, Re_kind_1, Re_depth_1, Re_error_1, Re_errorPlace_1, Cl_count_1, Cl_tellers_1, Cl_kinds_1, Cl_events_1, Cl_firsts_1, Cl_lasts_1, Or_count_1, Or_stepCount_1, Or_doubts_1, Or_tellers_1, Or_ends_1, Or_stepKinds_1, Or_stepParts_1, Na_count_2_1, Na_words_2_1, Na_count_3_1, Na_words_3_1)) = some o := h
      unfold f_Re_read_L7 at h
      try dsimp only at h
      refine r_iload_n 1 dX4_read_7 rfl ?_
      refine r_sipush (v := (400 : Int32)) dX4_read_8 (by decide) ?_
      refine r_icmp_ge (tgt := 134) dX4_read_11 (by decide) (fun hc620 => ?_) (fun hc620 => ?_)
      · have h := ip (fun z9 => (lC (f_Re_read_L7 N To_size_c1 To_place_c1 To_number_c1 To_word_c1 To_kinds_c1 To_starts_c1 To_numbers_c1 To_words_c1) none n1 z9)) hc620 h
        refine r_aload_n 0 dX4_read_134 rfl ?_
        refine r_getf (v := .ref (ad 44)) _ dX4_read_135 fl_X4_23 lX_33 rfl ?_
        refine r_aload_n 0 dX4_read_138 rfl ?_
        refine r_getf (v := .ref (ad 67)) _ dX4_read_139 fl_X4_32 lX_33 rfl ?_
        refine r_getf (v := .int Na_count_2_1) _ dX4_read_142 fl_X4_65 lX_67 rfl ?_
        refine r_putf _ dX4_read_145 fl_X4_68 lX_44 (Nat.le_of_ble_eq_true rfl) rfl rfl (sX_39 _) ?_
        refine r_aload_n 0 dX4_read_148 rfl ?_
        refine r_getf (v := .ref (ad 44)) _ dX4_read_149 fl_X4_23 lX_33 rfl ?_
        refine r_aload_n 0 dX4_read_152 rfl ?_
        refine r_getf (v := .ref (ad 69)) _ dX4_read_153 fl_X4_36 lX_33 rfl ?_
        refine r_getf (v := .int Na_count_3_1) _ dX4_read_156 fl_X4_65 lX_69 rfl ?_
        refine r_putf _ dX4_read_159 fl_X4_71 lX_44 (Nat.le_of_ble_eq_true rfl) rfl rfl (sX_40 _) ?_
        refine r_aload_n 0 dX4_read_162 rfl ?_
        refine r_getf (v := .int Re_error_1) _ dX4_read_163 fl_X4_46 lX_33 rfl ?_
        refine r_iret dX4_read_166 rfl ?_
        have h := Option.some.inj (show some _ = some o from h)
        subst h
        exact hq
      · have h := iq (fun z9 => (lC (f_Re_read_L7 N To_size_c1 To_place_c1 To_number_c1 To_word_c1 To_kinds_c1 To_starts_c1 To_numbers_c1 To_words_c1) none n1 z9)) hc620 h
        refine r_aload_n 0 dX4_read_14 rfl ?_
        refine r_getf (v := .int Re_kind_1) _ dX4_read_15 fl_X4_42 lX_33 rfl ?_
        refine r_sipush (v := (132 : Int32)) dX4_read_18 (by decide) ?_
        refine r_icmp_eq (tgt := 134) dX4_read_21 (by decide) (fun hc621 => ?_) (fun hc621 => ?_)
        · have h := ip (fun z9 => (lC (f_Re_read_L7 N To_size_c1 To_place_c1 To_number_c1 To_word_c1 To_kinds_c1 To_starts_c1 To_numbers_c1 To_words_c1) none n1 z9)) hc621 h
          refine r_aload_n 0 dX4_read_134 rfl ?_
          refine r_getf (v := .ref (ad 44)) _ dX4_read_135 fl_X4_23 lX_33 rfl ?_
          refine r_aload_n 0 dX4_read_138 rfl ?_
          refine r_getf (v := .ref (ad 67)) _ dX4_read_139 fl_X4_32 lX_33 rfl ?_
          refine r_getf (v := .int Na_count_2_1) _ dX4_read_142 fl_X4_65 lX_67 rfl ?_
          refine r_putf _ dX4_read_145 fl_X4_68 lX_44 (Nat.le_of_ble_eq_true rfl) rfl rfl (sX_39 _) ?_
          refine r_aload_n 0 dX4_read_148 rfl ?_
          refine r_getf (v := .ref (ad 44)) _ dX4_read_149 fl_X4_23 lX_33 rfl ?_
          refine r_aload_n 0 dX4_read_152 rfl ?_
          refine r_getf (v := .ref (ad 69)) _ dX4_read_153 fl_X4_36 lX_33 rfl ?_
          refine r_getf (v := .int Na_count_3_1) _ dX4_read_156 fl_X4_65 lX_69 rfl ?_
          refine r_putf _ dX4_read_159 fl_X4_71 lX_44 (Nat.le_of_ble_eq_true rfl) rfl rfl (sX_40 _) ?_
          refine r_aload_n 0 dX4_read_162 rfl ?_
          refine r_getf (v := .int Re_error_1) _ dX4_read_163 fl_X4_46 lX_33 rfl ?_
          refine r_iret dX4_read_166 rfl ?_
          have h := Option.some.inj (show some _ = some o from h)
          subst h
          exact hq
        · have h := iq (fun z9 => (lC (f_Re_read_L7 N To_size_c1 To_place_c1 To_number_c1 To_word_c1 To_kinds_c1 To_starts_c1 To_numbers_c1 To_words_c1) none n1 z9)) hc621 h
          refine r_aload_n 0 dX4_read_24 rfl ?_
          refine r_getf (v := .int Re_error_1) _ dX4_read_25 fl_X4_46 lX_33 rfl ?_
          refine r_iconst (v := (1 : Int32)) dX4_read_28 (by decide) ?_
          refine r_icmp_eq (tgt := 134) dX4_read_29 (by decide) (fun hc622 => ?_) (fun hc622 => ?_)
          · have h := ip (fun z9 => (lC (f_Re_read_L7 N To_size_c1 To_place_c1 To_number_c1 To_word_c1 To_kinds_c1 To_starts_c1 To_numbers_c1 To_words_c1) none n1 z9)) hc622 h
            refine r_aload_n 0 dX4_read_134 rfl ?_
            refine r_getf (v := .ref (ad 44)) _ dX4_read_135 fl_X4_23 lX_33 rfl ?_
            refine r_aload_n 0 dX4_read_138 rfl ?_
            refine r_getf (v := .ref (ad 67)) _ dX4_read_139 fl_X4_32 lX_33 rfl ?_
            refine r_getf (v := .int Na_count_2_1) _ dX4_read_142 fl_X4_65 lX_67 rfl ?_
            refine r_putf _ dX4_read_145 fl_X4_68 lX_44 (Nat.le_of_ble_eq_true rfl) rfl rfl (sX_39 _) ?_
            refine r_aload_n 0 dX4_read_148 rfl ?_
            refine r_getf (v := .ref (ad 44)) _ dX4_read_149 fl_X4_23 lX_33 rfl ?_
            refine r_aload_n 0 dX4_read_152 rfl ?_
            refine r_getf (v := .ref (ad 69)) _ dX4_read_153 fl_X4_36 lX_33 rfl ?_
            refine r_getf (v := .int Na_count_3_1) _ dX4_read_156 fl_X4_65 lX_69 rfl ?_
            refine r_putf _ dX4_read_159 fl_X4_71 lX_44 (Nat.le_of_ble_eq_true rfl) rfl rfl (sX_40 _) ?_
            refine r_aload_n 0 dX4_read_162 rfl ?_
            refine r_getf (v := .int Re_error_1) _ dX4_read_163 fl_X4_46 lX_33 rfl ?_
            refine r_iret dX4_read_166 rfl ?_
            have h := Option.some.inj (show some _ = some o from h)
            subst h
            exact hq
          · have h := iq (fun z9 => (lC (f_Re_read_L7 N To_size_c1 To_place_c1 To_number_c1 To_word_c1 To_kinds_c1 To_starts_c1 To_numbers_c1 To_words_c1) none n1 z9)) hc622 h
            refine r_aload_n 0 dX4_read_32 rfl ?_
            refine r_getf (v := .int Re_kind_1) _ dX4_read_33 fl_X4_42 lX_33 rfl ?_
            refine r_sipush (v := (200 : Int32)) dX4_read_36 (by decide) ?_
            refine r_icmp_ne (tgt := 53) dX4_read_39 (by decide) (fun hc623 => ?_) (fun hc623 => ?_)
            · have h := iq (fun z9 => (lC (f_Re_read_L7 N To_size_c1 To_place_c1 To_number_c1 To_word_c1 To_kinds_c1 To_starts_c1 To_numbers_c1 To_words_c1) none n1 z9)) hc623 h
              refine r_aload_n 0 dX4_read_53 rfl ?_
              refine r_getf (v := .int Re_kind_1) _ dX4_read_54 fl_X4_42 lX_33 rfl ?_
              refine r_sipush (v := (201 : Int32)) dX4_read_57 (by decide) ?_
              refine r_icmp_ne (tgt := 74) dX4_read_60 (by decide) (fun hc624 => ?_) (fun hc624 => ?_)
              · have h := iq (fun z9 => (lC (f_Re_read_L7 N To_size_c1 To_place_c1 To_number_c1 To_word_c1 To_kinds_c1 To_starts_c1 To_numbers_c1 To_words_c1) none n1 z9)) hc624 h
                refine r_aload_n 0 dX4_read_74 rfl ?_
                refine r_getf (v := .int Re_kind_1) _ dX4_read_75 fl_X4_42 lX_33 rfl ?_
                refine r_sipush (v := (202 : Int32)) dX4_read_78 (by decide) ?_
                refine r_icmp_ne (tgt := 91) dX4_read_81 (by decide) (fun hc625 => ?_) (fun hc625 => ?_)
                · have h := iq (fun z9 => (lC (f_Re_read_L7 N To_size_c1 To_place_c1 To_number_c1 To_word_c1 To_kinds_c1 To_starts_c1 To_numbers_c1 To_words_c1) none n1 z9)) hc625 h
                  refine r_aload_n 0 dX4_read_91 rfl ?_
                  refine r_getf (v := .int Re_kind_1) _ dX4_read_92 fl_X4_42 lX_33 rfl ?_
                  refine r_sipush (v := (207 : Int32)) dX4_read_95 (by decide) ?_
                  refine r_icmp_eq (tgt := 111) dX4_read_98 (by decide) (fun hc626 => ?_) (fun hc626 => ?_)
                  · have h := ip (fun z9 => (lC (f_Re_read_L7 N To_size_c1 To_place_c1 To_number_c1 To_word_c1 To_kinds_c1 To_starts_c1 To_numbers_c1 To_words_c1) none n1 z9)) hc626 h
                    refine r_aload_n 0 dX4_read_111 rfl ?_
                    obtain ⟨r627, hc628, h⟩ := ob (fun z9 => (lC (f_Re_read_L7 N To_size_c1 To_place_c1 To_number_c1 To_word_c1 To_kinds_c1 To_starts_c1 To_numbers_c1 To_words_c1) none n1 z9)) rfl h
                    refine c_Vv (rest := []) 0 0 _ dX4_read_112 kv_X4_56 (ct_Re_readOrder hc628) rfl rfl lX_33 rfl (Nat.le_of_ble_eq_true rfl) (by decide) (by decide) ?_
                    refine r_goto (tgt := 122) dX4_read_115 (by decide) ?_
                    refine r_aload_n 0 dX4_read_122 rfl ?_
                    refine r_bipush (v := (59 : Int32)) dX4_read_123 (by decide) ?_
                    obtain ⟨r629, hc630, h⟩ := ob (fun z9 => (lC (f_Re_read_L7 N To_size_c1 To_place_c1 To_number_c1 To_word_c1 To_kinds_c1 To_starts_c1 To_numbers_c1 To_words_c1) none n1 z9)) rfl h
                    refine c_Vv (rest := []) 0 0 _ dX4_read_125 kv_X4_62 (ct_Re_expect hc630) rfl rfl lX_33 rfl (Nat.le_of_ble_eq_true rfl) (by decide) (by decide) ?_
                    refine r_iinc (v2 := (l2_1 + (1 : Int32))) 1 [(2, .int (l2_1 + (1 : Int32))), (0, .ref (ad 33))] dX4_read_128 rfl rfl (by decide) rfl ?_
                    refine r_goto (tgt := 7) dX4_read_131 (by decide) ?_
                    refine r_ls [1, 0] (ls2 := [(0, .ref (ad 33)), (2, .int (l2_1 + (1 : Int32)))]) rfl ?_
                    exact ih1 To_size_c1 To_place_c1 To_number_c1 To_word_c1 To_kinds_c1 To_starts_c1 To_numbers_c1 To_words_c1 Tap_eventCount_c1 Tap_tellerCount_c1 (l2_1 + (1 : Int32)) r629.1 r629.2.1 r627.2.2.1 r629.2.2.1 r629.2.2.2 Cl_count_1 Cl_tellers_1 Cl_kinds_1 Cl_events_1 Cl_firsts_1 Cl_lasts_1 r627.2.2.2.2.2.1 r627.2.2.2.2.2.2.1 r627.2.2.2.2.2.2.2.1 r627.2.2.2.2.2.2.2.2.1 r627.2.2.2.2.2.2.2.2.2.1 r627.2.2.2.2.2.2.2.2.2.2.1 r627.2.2.2.2.2.2.2.2.2.2.2 Na_count_2_1 Na_words_2_1 Na_count_3_1 Na_words_3_1 h
                  · have h := iq (fun z9 => (lC (f_Re_read_L7 N To_size_c1 To_place_c1 To_number_c1 To_word_c1 To_kinds_c1 To_starts_c1 To_numbers_c1 To_words_c1) none n1 z9)) hc626 h
                    refine r_aload_n 0 dX4_read_101 rfl ?_
                    refine r_getf (v := .int Re_kind_1) _ dX4_read_102 fl_X4_42 lX_33 rfl ?_
                    refine r_sipush (v := (208 : Int32)) dX4_read_105 (by decide) ?_
                    refine r_icmp_ne (tgt := 118) dX4_read_108 (by decide) (fun hc631 => ?_) (fun hc631 => ?_)
                    · have h := iq (fun z9 => (lC (f_Re_read_L7 N To_size_c1 To_place_c1 To_number_c1 To_word_c1 To_kinds_c1 To_starts_c1 To_numbers_c1 To_words_c1) none n1 z9)) hc631 h
                      refine r_aload_n 0 dX4_read_118 rfl ?_
                      obtain ⟨r632, hc633, h⟩ := ob (fun z9 => (lC (f_Re_read_L7 N To_size_c1 To_place_c1 To_number_c1 To_word_c1 To_kinds_c1 To_starts_c1 To_numbers_c1 To_words_c1) none n1 z9)) rfl h
                      refine c_Vv (rest := []) 0 0 _ dX4_read_119 kv_X4_59 (ct_Re_fail hc633) rfl rfl lX_33 rfl (Nat.le_of_ble_eq_true rfl) (by decide) (by decide) ?_
                      refine r_aload_n 0 dX4_read_122 rfl ?_
                      refine r_bipush (v := (59 : Int32)) dX4_read_123 (by decide) ?_
                      obtain ⟨r634, hc635, h⟩ := ob (fun z9 => (lC (f_Re_read_L7 N To_size_c1 To_place_c1 To_number_c1 To_word_c1 To_kinds_c1 To_starts_c1 To_numbers_c1 To_words_c1) none n1 z9)) rfl h
                      refine c_Vv (rest := []) 0 0 _ dX4_read_125 kv_X4_62 (ct_Re_expect hc635) rfl rfl lX_33 rfl (Nat.le_of_ble_eq_true rfl) (by decide) (by decide) ?_
                      refine r_iinc (v2 := (l2_1 + (1 : Int32))) 1 [(2, .int (l2_1 + (1 : Int32))), (0, .ref (ad 33))] dX4_read_128 rfl rfl (by decide) rfl ?_
                      refine r_goto (tgt := 7) dX4_read_131 (by decide) ?_
                      refine r_ls [1, 0] (ls2 := [(0, .ref (ad 33)), (2, .int (l2_1 + (1 : Int32)))]) rfl ?_
                      exact ih1 To_size_c1 To_place_c1 To_number_c1 To_word_c1 To_kinds_c1 To_starts_c1 To_numbers_c1 To_words_c1 Tap_eventCount_c1 Tap_tellerCount_c1 (l2_1 + (1 : Int32)) r634.1 r634.2.1 Re_depth_1 r634.2.2.1 r634.2.2.2 Cl_count_1 Cl_tellers_1 Cl_kinds_1 Cl_events_1 Cl_firsts_1 Cl_lasts_1 Or_count_1 Or_stepCount_1 Or_doubts_1 Or_tellers_1 Or_ends_1 Or_stepKinds_1 Or_stepParts_1 Na_count_2_1 Na_words_2_1 Na_count_3_1 Na_words_3_1 h
                    · have h := ip (fun z9 => (lC (f_Re_read_L7 N To_size_c1 To_place_c1 To_number_c1 To_word_c1 To_kinds_c1 To_starts_c1 To_numbers_c1 To_words_c1) none n1 z9)) hc631 h
                      refine r_aload_n 0 dX4_read_111 rfl ?_
                      obtain ⟨r636, hc637, h⟩ := ob (fun z9 => (lC (f_Re_read_L7 N To_size_c1 To_place_c1 To_number_c1 To_word_c1 To_kinds_c1 To_starts_c1 To_numbers_c1 To_words_c1) none n1 z9)) rfl h
                      refine c_Vv (rest := []) 0 0 _ dX4_read_112 kv_X4_56 (ct_Re_readOrder hc637) rfl rfl lX_33 rfl (Nat.le_of_ble_eq_true rfl) (by decide) (by decide) ?_
                      refine r_goto (tgt := 122) dX4_read_115 (by decide) ?_
                      refine r_aload_n 0 dX4_read_122 rfl ?_
                      refine r_bipush (v := (59 : Int32)) dX4_read_123 (by decide) ?_
                      obtain ⟨r638, hc639, h⟩ := ob (fun z9 => (lC (f_Re_read_L7 N To_size_c1 To_place_c1 To_number_c1 To_word_c1 To_kinds_c1 To_starts_c1 To_numbers_c1 To_words_c1) none n1 z9)) rfl h
                      refine c_Vv (rest := []) 0 0 _ dX4_read_125 kv_X4_62 (ct_Re_expect hc639) rfl rfl lX_33 rfl (Nat.le_of_ble_eq_true rfl) (by decide) (by decide) ?_
                      refine r_iinc (v2 := (l2_1 + (1 : Int32))) 1 [(2, .int (l2_1 + (1 : Int32))), (0, .ref (ad 33))] dX4_read_128 rfl rfl (by decide) rfl ?_
                      refine r_goto (tgt := 7) dX4_read_131 (by decide) ?_
                      refine r_ls [1, 0] (ls2 := [(0, .ref (ad 33)), (2, .int (l2_1 + (1 : Int32)))]) rfl ?_
                      exact ih1 To_size_c1 To_place_c1 To_number_c1 To_word_c1 To_kinds_c1 To_starts_c1 To_numbers_c1 To_words_c1 Tap_eventCount_c1 Tap_tellerCount_c1 (l2_1 + (1 : Int32)) r638.1 r638.2.1 r636.2.2.1 r638.2.2.1 r638.2.2.2 Cl_count_1 Cl_tellers_1 Cl_kinds_1 Cl_events_1 Cl_firsts_1 Cl_lasts_1 r636.2.2.2.2.2.1 r636.2.2.2.2.2.2.1 r636.2.2.2.2.2.2.2.1 r636.2.2.2.2.2.2.2.2.1 r636.2.2.2.2.2.2.2.2.2.1 r636.2.2.2.2.2.2.2.2.2.2.1 r636.2.2.2.2.2.2.2.2.2.2.2 Na_count_2_1 Na_words_2_1 Na_count_3_1 Na_words_3_1 h
                · have h := ip (fun z9 => (lC (f_Re_read_L7 N To_size_c1 To_place_c1 To_number_c1 To_word_c1 To_kinds_c1 To_starts_c1 To_numbers_c1 To_words_c1) none n1 z9)) hc625 h
                  refine r_aload_n 0 dX4_read_84 rfl ?_
                  obtain ⟨r640, hc641, h⟩ := ob (fun z9 => (lC (f_Re_read_L7 N To_size_c1 To_place_c1 To_number_c1 To_word_c1 To_kinds_c1 To_starts_c1 To_numbers_c1 To_words_c1) none n1 z9)) rfl h
                  refine c_Vv (rest := []) 0 0 _ dX4_read_85 kv_X4_53 (ct_Re_readClaim hc641) rfl rfl lX_33 rfl (Nat.le_of_ble_eq_true rfl) (by decide) (by decide) ?_
                  refine r_goto (tgt := 122) dX4_read_88 (by decide) ?_
                  refine r_aload_n 0 dX4_read_122 rfl ?_
                  refine r_bipush (v := (59 : Int32)) dX4_read_123 (by decide) ?_
                  obtain ⟨r642, hc643, h⟩ := ob (fun z9 => (lC (f_Re_read_L7 N To_size_c1 To_place_c1 To_number_c1 To_word_c1 To_kinds_c1 To_starts_c1 To_numbers_c1 To_words_c1) none n1 z9)) rfl h
                  refine c_Vv (rest := []) 0 0 _ dX4_read_125 kv_X4_62 (ct_Re_expect hc643) rfl rfl lX_33 rfl (Nat.le_of_ble_eq_true rfl) (by decide) (by decide) ?_
                  refine r_iinc (v2 := (l2_1 + (1 : Int32))) 1 [(2, .int (l2_1 + (1 : Int32))), (0, .ref (ad 33))] dX4_read_128 rfl rfl (by decide) rfl ?_
                  refine r_goto (tgt := 7) dX4_read_131 (by decide) ?_
                  refine r_ls [1, 0] (ls2 := [(0, .ref (ad 33)), (2, .int (l2_1 + (1 : Int32)))]) rfl ?_
                  exact ih1 To_size_c1 To_place_c1 To_number_c1 To_word_c1 To_kinds_c1 To_starts_c1 To_numbers_c1 To_words_c1 Tap_eventCount_c1 Tap_tellerCount_c1 (l2_1 + (1 : Int32)) r642.1 r642.2.1 Re_depth_1 r642.2.2.1 r642.2.2.2 r640.2.2.2.2.1 r640.2.2.2.2.2.1 r640.2.2.2.2.2.2.1 r640.2.2.2.2.2.2.2.1 r640.2.2.2.2.2.2.2.2.1 r640.2.2.2.2.2.2.2.2.2 Or_count_1 Or_stepCount_1 Or_doubts_1 Or_tellers_1 Or_ends_1 Or_stepKinds_1 Or_stepParts_1 Na_count_2_1 Na_words_2_1 Na_count_3_1 Na_words_3_1 h
              · have h := ip (fun z9 => (lC (f_Re_read_L7 N To_size_c1 To_place_c1 To_number_c1 To_word_c1 To_kinds_c1 To_starts_c1 To_numbers_c1 To_words_c1) none n1 z9)) hc624 h
                refine r_aload_n 0 dX4_read_63 rfl ?_
                refine r_aload_n 0 dX4_read_64 rfl ?_
                refine r_getf (v := .ref (ad 69)) _ dX4_read_65 fl_X4_36 lX_33 rfl ?_
                obtain ⟨r644, hc645, h⟩ := ob (fun z9 => (lC (f_Re_read_L7 N To_size_c1 To_place_c1 To_number_c1 To_word_c1 To_kinds_c1 To_starts_c1 To_numbers_c1 To_words_c1) none n1 z9)) rfl h
                refine c_Vv (rest := []) 0 0 _ dX4_read_68 kv_X4_49 (ct_Re_readNew hc645) rfl rfl lX_33 rfl (Nat.le_of_ble_eq_true rfl) (by decide) (by decide) ?_
                refine r_goto (tgt := 122) dX4_read_71 (by decide) ?_
                refine r_aload_n 0 dX4_read_122 rfl ?_
                refine r_bipush (v := (59 : Int32)) dX4_read_123 (by decide) ?_
                obtain ⟨r646, hc647, h⟩ := ob (fun z9 => (lC (f_Re_read_L7 N To_size_c1 To_place_c1 To_number_c1 To_word_c1 To_kinds_c1 To_starts_c1 To_numbers_c1 To_words_c1) none n1 z9)) rfl h
                refine c_Vv (rest := []) 0 0 _ dX4_read_125 kv_X4_62 (ct_Re_expect hc647) rfl rfl lX_33 rfl (Nat.le_of_ble_eq_true rfl) (by decide) (by decide) ?_
                refine r_iinc (v2 := (l2_1 + (1 : Int32))) 1 [(2, .int (l2_1 + (1 : Int32))), (0, .ref (ad 33))] dX4_read_128 rfl rfl (by decide) rfl ?_
                refine r_goto (tgt := 7) dX4_read_131 (by decide) ?_
                refine r_ls [1, 0] (ls2 := [(0, .ref (ad 33)), (2, .int (l2_1 + (1 : Int32)))]) rfl ?_
                exact ih1 To_size_c1 To_place_c1 To_number_c1 To_word_c1 To_kinds_c1 To_starts_c1 To_numbers_c1 To_words_c1 Tap_eventCount_c1 Tap_tellerCount_c1 (l2_1 + (1 : Int32)) r646.1 r646.2.1 Re_depth_1 r646.2.2.1 r646.2.2.2 Cl_count_1 Cl_tellers_1 Cl_kinds_1 Cl_events_1 Cl_firsts_1 Cl_lasts_1 Or_count_1 Or_stepCount_1 Or_doubts_1 Or_tellers_1 Or_ends_1 Or_stepKinds_1 Or_stepParts_1 Na_count_2_1 Na_words_2_1 r644.2.2.2.2.1 r644.2.2.2.2.2 h
            · have h := ip (fun z9 => (lC (f_Re_read_L7 N To_size_c1 To_place_c1 To_number_c1 To_word_c1 To_kinds_c1 To_starts_c1 To_numbers_c1 To_words_c1) none n1 z9)) hc623 h
              refine r_aload_n 0 dX4_read_42 rfl ?_
              refine r_aload_n 0 dX4_read_43 rfl ?_
              refine r_getf (v := .ref (ad 67)) _ dX4_read_44 fl_X4_32 lX_33 rfl ?_
              obtain ⟨r648, hc649, h⟩ := ob (fun z9 => (lC (f_Re_read_L7 N To_size_c1 To_place_c1 To_number_c1 To_word_c1 To_kinds_c1 To_starts_c1 To_numbers_c1 To_words_c1) none n1 z9)) rfl h
              refine c_Vv (rest := []) 0 0 _ dX4_read_47 kv_X4_49 (ct_Re_readNew_v1 hc649) rfl rfl lX_33 rfl (Nat.le_of_ble_eq_true rfl) (by decide) (by decide) ?_
              refine r_goto (tgt := 122) dX4_read_50 (by decide) ?_
              refine r_aload_n 0 dX4_read_122 rfl ?_
              refine r_bipush (v := (59 : Int32)) dX4_read_123 (by decide) ?_
              obtain ⟨r650, hc651, h⟩ := ob (fun z9 => (lC (f_Re_read_L7 N To_size_c1 To_place_c1 To_number_c1 To_word_c1 To_kinds_c1 To_starts_c1 To_numbers_c1 To_words_c1) none n1 z9)) rfl h
              refine c_Vv (rest := []) 0 0 _ dX4_read_125 kv_X4_62 (ct_Re_expect hc651) rfl rfl lX_33 rfl (Nat.le_of_ble_eq_true rfl) (by decide) (by decide) ?_
              refine r_iinc (v2 := (l2_1 + (1 : Int32))) 1 [(2, .int (l2_1 + (1 : Int32))), (0, .ref (ad 33))] dX4_read_128 rfl rfl (by decide) rfl ?_
              refine r_goto (tgt := 7) dX4_read_131 (by decide) ?_
              refine r_ls [1, 0] (ls2 := [(0, .ref (ad 33)), (2, .int (l2_1 + (1 : Int32)))]) rfl ?_
              exact ih1 To_size_c1 To_place_c1 To_number_c1 To_word_c1 To_kinds_c1 To_starts_c1 To_numbers_c1 To_words_c1 Tap_eventCount_c1 Tap_tellerCount_c1 (l2_1 + (1 : Int32)) r650.1 r650.2.1 Re_depth_1 r650.2.2.1 r650.2.2.2 Cl_count_1 Cl_tellers_1 Cl_kinds_1 Cl_events_1 Cl_firsts_1 Cl_lasts_1 Or_count_1 Or_stepCount_1 Or_doubts_1 Or_tellers_1 Or_ends_1 Or_stepKinds_1 Or_stepParts_1 r648.2.2.2.2.1 r648.2.2.2.2.2 Na_count_3_1 Na_words_3_1 h
  exact L1 _ r618.2.2.2.2.2.1 r618.2.2.2.2.2.2.1 r618.2.2.2.2.2.2.2.1 r618.2.2.2.2.2.2.2.2.1 r618.2.2.2.2.2.2.2.2.2.1 r618.2.2.2.2.2.2.2.2.2.2.1 r618.2.2.2.2.2.2.2.2.2.2.2.1 r618.2.2.2.2.2.2.2.2.2.2.2.2.1 r618.2.2.2.2.2.2.2.2.2.2.2.2.2.1 r618.2.2.2.2.2.2.2.2.2.2.2.2.2.2.1 (0 : Int32) r618.1 r618.2.1 r618.2.2.1 r618.2.2.2.1 r618.2.2.2.2.1 r618.2.2.2.2.2.2.2.2.2.2.2.2.2.2.2.1 Cl_tellers Cl_kinds Cl_events Cl_firsts Cl_lasts r618.2.2.2.2.2.2.2.2.2.2.2.2.2.2.2.2.1 r618.2.2.2.2.2.2.2.2.2.2.2.2.2.2.2.2.2.1 Or_doubts Or_tellers Or_ends Or_stepKinds Or_stepParts r618.2.2.2.2.2.2.2.2.2.2.2.2.2.2.2.2.2.2.1 Na_words_2 r618.2.2.2.2.2.2.2.2.2.2.2.2.2.2.2.2.2.2.2 Na_words_3 h
theorem ct_Re_read {g : GG} {ad : Nat → Nat} {t : va_W} {x0 x1 x3 x4 x5 x11 x12 x18 x19 x20 x58 x59 x60 x61 x63 x64 x65 x66 : Int32} {x6 x7 x8 x9 x10 x13 x14 x15 x16 x17 x21 x22 x23 x62 x67 : Nat → Int32} {N : Nat} {Main_tape : Nat → Int32} {Re_at : Int32} {Re_kind : Int32} {Re_depth : Int32} {Re_error : Int32} {Re_errorPlace : Int32} {To_size : Int32} {To_place : Int32} {To_number : Int32} {To_word : Int64} {To_kinds : Nat → Int32} {To_starts : Nat → Int32} {To_numbers : Nat → Int32} {To_words : Nat → Int64} {Na_count : Int32} {Na_words : Nat → Int64} {Tap_eventCount : Int32} {Tap_tellerCount : Int32} {Cl_count : Int32} {Cl_tellers : Nat → Int32} {Cl_kinds : Nat → Int32} {Cl_events : Nat → Int32} {Cl_firsts : Nat → Int32} {Cl_lasts : Nat → Int32} {Or_count : Int32} {Or_stepCount : Int32} {Or_doubts : Nat → Int32} {Or_tellers : Nat → Int32} {Or_ends : Nat → Int32} {Or_stepKinds : Nat → Int32} {Or_stepParts : Nat → Int32} {Na_count_2 : Int32} {Na_words_2 : Nat → Int64} {Na_count_3 : Int32} {Na_words_3 : Nat → Int64} {p1 : Int32} {o : Int32 × Int32 × Int32 × Int32 × Int32 × Int32 × Int32 × Int32 × Int32 × Int64 × (Nat → Int32) × (Nat → Int32) × (Nat → Int32) × (Nat → Int64) × Int32 × Int32 × Int32 × (Nat → Int32) × (Nat → Int32) × (Nat → Int32) × (Nat → Int32) × (Nat → Int32) × Int32 × Int32 × (Nat → Int32) × (Nat → Int32) × (Nat → Int32) × (Nat → Int32) × (Nat → Int32) × Int32 × (Nat → Int64) × Int32 × (Nat → Int64)} (h : f_Re_read N Main_tape Re_at Re_kind Re_depth Re_error Re_errorPlace To_size To_place To_number To_word To_kinds To_starts To_numbers To_words Na_count Na_words Tap_eventCount Tap_tellerCount Cl_count Cl_tellers Cl_kinds Cl_events Cl_firsts Cl_lasts Or_count Or_stepCount Or_doubts Or_tellers Or_ends Or_stepKinds Or_stepParts Na_count_2 Na_words_2 Na_count_3 Na_words_3 p1 = some o) : Ct g mX4_read 73 0 0 [.ref (ad 33), .int p1] (wlX g ad x0 x1 Main_tape x3 x4 x5 x6 x7 x8 x9 x10 x11 x12 x13 x14 x15 x16 x17 x18 x19 x20 x21 x22 x23 Re_at Re_kind Re_depth Re_error Re_errorPlace To_size To_place To_number To_word To_kinds To_starts To_numbers To_words Na_count Na_words Tap_eventCount Tap_tellerCount Cl_count Cl_tellers Cl_kinds Cl_events Cl_firsts Cl_lasts Or_count Or_stepCount Or_doubts Or_tellers Or_ends Or_stepKinds Or_stepParts Na_count_2 Na_words_2 Na_count_3 Na_words_3 x58 x59 x60 x61 x62 x63 x64 x65 x66 x67 ++ t) (Dv (some (.int o.1)) (wlX g ad x0 x1 Main_tape x3 x4 x5 x6 x7 x8 x9 x10 x11 x12 x13 x14 x15 x16 x17 x18 x19 x20 x21 x22 x23 o.2.1 o.2.2.1 o.2.2.2.1 o.2.2.2.2.1 o.2.2.2.2.2.1 o.2.2.2.2.2.2.1 o.2.2.2.2.2.2.2.1 o.2.2.2.2.2.2.2.2.1 o.2.2.2.2.2.2.2.2.2.1 o.2.2.2.2.2.2.2.2.2.2.1 o.2.2.2.2.2.2.2.2.2.2.2.1 o.2.2.2.2.2.2.2.2.2.2.2.2.1 o.2.2.2.2.2.2.2.2.2.2.2.2.2.1 Na_count Na_words o.2.2.2.2.2.2.2.2.2.2.2.2.2.2.1 o.2.2.2.2.2.2.2.2.2.2.2.2.2.2.2.1 o.2.2.2.2.2.2.2.2.2.2.2.2.2.2.2.2.1 o.2.2.2.2.2.2.2.2.2.2.2.2.2.2.2.2.2.1 o.2.2.2.2.2.2.2.2.2.2.2.2.2.2.2.2.2.2.1 o.2.2.2.2.2.2.2.2.2.2.2.2.2.2.2.2.2.2.2.1 o.2.2.2.2.2.2.2.2.2.2.2.2.2.2.2.2.2.2.2.2.1 o.2.2.2.2.2.2.2.2.2.2.2.2.2.2.2.2.2.2.2.2.2.1 o.2.2.2.2.2.2.2.2.2.2.2.2.2.2.2.2.2.2.2.2.2.2.1 o.2.2.2.2.2.2.2.2.2.2.2.2.2.2.2.2.2.2.2.2.2.2.2.1 o.2.2.2.2.2.2.2.2.2.2.2.2.2.2.2.2.2.2.2.2.2.2.2.2.1 o.2.2.2.2.2.2.2.2.2.2.2.2.2.2.2.2.2.2.2.2.2.2.2.2.2.1 o.2.2.2.2.2.2.2.2.2.2.2.2.2.2.2.2.2.2.2.2.2.2.2.2.2.2.1 o.2.2.2.2.2.2.2.2.2.2.2.2.2.2.2.2.2.2.2.2.2.2.2.2.2.2.2.1 o.2.2.2.2.2.2.2.2.2.2.2.2.2.2.2.2.2.2.2.2.2.2.2.2.2.2.2.2.1 o.2.2.2.2.2.2.2.2.2.2.2.2.2.2.2.2.2.2.2.2.2.2.2.2.2.2.2.2.2.1 o.2.2.2.2.2.2.2.2.2.2.2.2.2.2.2.2.2.2.2.2.2.2.2.2.2.2.2.2.2.2.1 o.2.2.2.2.2.2.2.2.2.2.2.2.2.2.2.2.2.2.2.2.2.2.2.2.2.2.2.2.2.2.2.1 o.2.2.2.2.2.2.2.2.2.2.2.2.2.2.2.2.2.2.2.2.2.2.2.2.2.2.2.2.2.2.2.2 x58 x59 x60 x61 x62 x63 x64 x65 x66 x67 ++ t)) := Ct.ofR (by decide +kernel) rfl (Nat.le_of_ble_eq_true rfl) (rt_Re_read h ⟨rfl, rfl⟩)
