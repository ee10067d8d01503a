set_option maxRecDepth 20000 in
set_option maxHeartbeats 4000000 in
theorem rt_Co_carryOut_i1 {g : GG} {ad : Nat → Nat} {t : va_W} {x0 x1 x3 x4 x5 x11 x12 x18 x19 x20 x24 x25 x26 x27 x28 x29 x30 x31 x37 x39 x40 x41 x47 x48 x54 x56 x58 x59 x60 x61 x63 x65 : Int32} {x2 x6 x7 x8 x9 x10 x15 x16 x17 x21 x22 x23 x33 x34 x35 x42 x43 x44 x45 x46 x49 x50 x51 x52 x53 x62 x67 : Nat → Int32} {x32 : Int64} {x36 x38 x55 x57 : Nat → Int64} {Or_doubts : Nat → Int32} {Or_tellers : Nat → Int32} {Co_doubted : Int32} {Co_carriedOut : Int32} {p1 : Int32} {o : Int32 × Int32} {Q : Rs → va_W → Prop} (h : f_Co_carryOut Or_doubts Or_tellers Co_doubted Co_carriedOut p1 = some o) (hq : Q (.inl (none)) (wlX g ad x0 x1 x2 x3 x4 x5 x6 x7 x8 x9 x10 x11 x12 Or_doubts Or_tellers x15 x16 x17 x18 x19 x20 x21 x22 x23 x24 x25 x26 x27 x28 x29 x30 x31 x32 x33 x34 x35 x36 x37 x38 x39 x40 x41 x42 x43 x44 x45 x46 x47 x48 x49 x50 x51 x52 x53 x54 x55 x56 x57 x58 x59 x60 x61 x62 x63 o.1 x65 o.2 x67 ++ t)) : R g mX1_carryOut 2 0 0 0 [(0, .ref (ad 74)), (1, .int p1)] [] (wlX g ad x0 x1 x2 x3 x4 x5 x6 x7 x8 x9 x10 x11 x12 Or_doubts Or_tellers x15 x16 x17 x18 x19 x20 x21 x22 x23 x24 x25 x26 x27 x28 x29 x30 x31 x32 x33 x34 x35 x36 x37 x38 x39 x40 x41 x42 x43 x44 x45 x46 x47 x48 x49 x50 x51 x52 x53 x54 x55 x56 x57 x58 x59 x60 x61 x62 x63 Co_doubted x65 Co_carriedOut x67 ++ t) Q := by
  unfold f_Co_carryOut at h
  refine r_iconst (v := (1 : Int32)) dX1_carryOut_0 (by decide) ?_
  refine r_aload_n 0 dX1_carryOut_1 rfl ?_
  refine r_getf (v := .ref (ad 3)) _ dX1_carryOut_2 fl_X1_9 lX_74 rfl ?_
  refine r_getf (v := .ref (ad 15)) _ dX1_carryOut_5 fl_X1_38 lX_3 rfl ?_
  refine r_getf (v := .ref (ad 18)) _ dX1_carryOut_8 fl_X1_56 lX_15 rfl ?_
  refine r_iload_n 1 dX1_carryOut_11 rfl ?_
  refine c_V (rest := [.int (1 : Int32)]) 0 0 _ dX1_carryOut_12 kv_X1_59 (ct_Row_get lX_18 lX_19 (Nat.le_of_ble_eq_true rfl)) rfl rfl lX_18 rfl (Nat.le_of_ble_eq_true rfl) (by decide) (by decide) ?_
  refine r_ishl dX1_carryOut_15 ?_
  refine r_istore_n [(2, .int ((1 : Int32) <<< ((rget 16 Or_tellers p1) &&& 31))), (0, .ref (ad 74)), (1, .int p1)] dX1_carryOut_16 (by decide) rfl ?_
  refine r_aload_n 1 dX1_carryOut_17 rfl ?_
  refine r_getf (v := .ref (ad 3)) _ dX1_carryOut_18 fl_X1_9 lX_74 rfl ?_
  refine r_getf (v := .ref (ad 15)) _ dX1_carryOut_21 fl_X1_38 lX_3 rfl ?_
  refine r_getf (v := .ref (ad 16)) _ dX1_carryOut_24 fl_X1_63 lX_15 rfl ?_
  refine r_iload_n 2 dX1_carryOut_27 rfl ?_
  refine c_V (rest := []) 0 0 _ dX1_carryOut_28 kv_X1_59 (ct_Row_get lX_16 lX_17 (Nat.le_of_ble_eq_true rfl)) rfl rfl lX_16 rfl (Nat.le_of_ble_eq_true rfl) (by decide) (by decide) ?_
  refine r_if_eq (tgt := 43) dX1_carryOut_31 (by decide) (fun hc1184 => ?_) (fun hc1184 => ?_)
  · have h := ip (fun z9 => z9) hc1184 h
    refine r_aload_n 1 dX1_carryOut_43 rfl ?_
    refine r_getf (v := .int Co_doubted) _ dX1_carryOut_44 fl_X1_28 lX_74 rfl ?_
    refine r_iload_n 0 dX1_carryOut_47 rfl ?_
    refine r_iconst (v := (-1 : Int32)) dX1_carryOut_48 (by decide) ?_
    refine r_ixor dX1_carryOut_49 ?_
    refine r_iand dX1_carryOut_50 ?_
    refine r_istore_n [(3, .int (Co_doubted &&& (((1 : Int32) <<< ((rget 16 Or_tellers p1) &&& 31)) ^^^ (-1 : Int32)))), (2, .int ((1 : Int32) <<< ((rget 16 Or_tellers p1) &&& 31))), (0, .ref (ad 74)), (1, .int p1)] dX1_carryOut_51 (by decide) rfl ?_
    refine r_iload_n 0 dX1_carryOut_52 rfl ?_
    refine r_aload_n 2 dX1_carryOut_53 rfl ?_
    refine r_getf (v := .int Co_doubted) _ dX1_carryOut_54 fl_X1_28 lX_74 rfl ?_
    refine r_icmp_eq (tgt := 75) dX1_carryOut_57 (by decide) (fun hc1185 => ?_) (fun hc1185 => ?_)
    · have h := ip (fun z9 => z9) hc1185 h
      refine r_vret dX1_carryOut_75 rfl ?_
      have h := Option.some.inj (show some _ = some o from h)
      subst h
      exact hq
    · have h := iq (fun z9 => z9) hc1185 h
      refine r_aload_n 2 dX1_carryOut_60 rfl ?_
      refine r_iload_n 0 dX1_carryOut_61 rfl ?_
      refine r_putf _ dX1_carryOut_62 fl_X1_28 lX_74 (Nat.le_of_ble_eq_true rfl) rfl rfl (sX_64 _) ?_
      refine r_aload_n 2 dX1_carryOut_65 rfl ?_
      refine r_dup dX1_carryOut_66 rfl ?_
      refine r_getf (v := .int Co_carriedOut) _ dX1_carryOut_67 fl_X1_35 lX_74 rfl ?_
      refine r_iconst (v := (1 : Int32)) dX1_carryOut_70 (by decide) ?_
      refine r_iadd dX1_carryOut_71 ?_
      refine r_putf _ dX1_carryOut_72 fl_X1_35 lX_74 (Nat.le_of_ble_eq_true rfl) rfl rfl (sX_66 _) ?_
      refine r_vret dX1_carryOut_75 rfl ?_
      have h := Option.some.inj (show some _ = some o from h)
      subst h
      exact hq
  · have h := iq (fun z9 => z9) hc1184 h
    refine r_aload_n 1 dX1_carryOut_34 rfl ?_
    refine r_getf (v := .int Co_doubted) _ dX1_carryOut_35 fl_X1_28 lX_74 rfl ?_
    refine r_iload_n 0 dX1_carryOut_38 rfl ?_
    refine r_ior dX1_carryOut_39 ?_
    refine r_goto (tgt := 51) dX1_carryOut_40 (by decide) ?_
    refine r_istore_n [(3, .int (Co_doubted ||| ((1 : Int32) <<< ((rget 16 Or_tellers p1) &&& 31)))), (2, .int ((1 : Int32) <<< ((rget 16 Or_tellers p1) &&& 31))), (0, .ref (ad 74)), (1, .int p1)] dX1_carryOut_51 (by decide) rfl ?_
    refine r_iload_n 0 dX1_carryOut_52 rfl ?_
    refine r_aload_n 2 dX1_carryOut_53 rfl ?_
    refine r_getf (v := .int Co_doubted) _ dX1_carryOut_54 fl_X1_28 lX_74 rfl ?_
    refine r_icmp_eq (tgt := 75) dX1_carryOut_57 (by decide) (fun hc1186 => ?_) (fun hc1186 => ?_)
    · have h := ip (fun z9 => z9) hc1186 h
      refine r_vret dX1_carryOut_75 rfl ?_
      have h := Option.some.inj (show some _ = some o from h)
      subst h
      exact hq
    · have h := iq (fun z9 => z9) hc1186 h
      refine r_aload_n 2 dX1_carryOut_60 rfl ?_
      refine r_iload_n 0 dX1_carryOut_61 rfl ?_
      refine r_putf _ dX1_carryOut_62 fl_X1_28 lX_74 (Nat.le_of_ble_eq_true rfl) rfl rfl (sX_64 _) ?_
      refine r_aload_n 2 dX1_carryOut_65 rfl ?_
      refine r_dup dX1_carryOut_66 rfl ?_
      refine r_getf (v := .int Co_carriedOut) _ dX1_carryOut_67 fl_X1_35 lX_74 rfl ?_
      refine r_iconst (v := (1 : Int32)) dX1_carryOut_70 (by decide) ?_
      refine r_iadd dX1_carryOut_71 ?_
      refine r_putf _ dX1_carryOut_72 fl_X1_35 lX_74 (Nat.le_of_ble_eq_true rfl) rfl rfl (sX_66 _) ?_
      refine r_vret dX1_carryOut_75 rfl ?_
      have h := Option.some.inj (show some _ = some o from h)
      subst h
      exact hq
theorem ct_Co_carryOut_i1 {g : GG} {ad : Nat → Nat} {t : va_W} {x0 x1 x3 x4 x5 x11 x12 x18 x19 x20 x24 x25 x26 x27 x28 x29 x30 x31 x37 x39 x40 x41 x47 x48 x54 x56 x58 x59 x60 x61 x63 x65 : Int32} {x2 x6 x7 x8 x9 x10 x15 x16 x17 x21 x22 x23 x33 x34 x35 x42 x43 x44 x45 x46 x49 x50 x51 x52 x53 x62 x67 : Nat → Int32} {x32 : Int64} {x36 x38 x55 x57 : Nat → Int64} {Or_doubts : Nat → Int32} {Or_tellers : Nat → Int32} {Co_doubted : Int32} {Co_carriedOut : Int32} {p1 : Int32} {o : Int32 × Int32} (h : f_Co_carryOut Or_doubts Or_tellers Co_doubted Co_carriedOut p1 = some o) : Ct g mX1_carryOut 2 0 0 [.ref (ad 74), .int p1] (wlX g ad x0 x1 x2 x3 x4 x5 x6 x7 x8 x9 x10 x11 x12 Or_doubts Or_tellers x15 x16 x17 x18 x19 x20 x21 x22 x23 x24 x25 x26 x27 x28 x29 x30 x31 x32 x33 x34 x35 x36 x37 x38 x39 x40 x41 x42 x43 x44 x45 x46 x47 x48 x49 x50 x51 x52 x53 x54 x55 x56 x57 x58 x59 x60 x61 x62 x63 Co_doubted x65 Co_carriedOut x67 ++ t) (Dv (none) (wlX g ad x0 x1 x2 x3 x4 x5 x6 x7 x8 x9 x10 x11 x12 Or_doubts Or_tellers x15 x16 x17 x18 x19 x20 x21 x22 x23 x24 x25 x26 x27 x28 x29 x30 x31 x32 x33 x34 x35 x36 x37 x38 x39 x40 x41 x42 x43 x44 x45 x46 x47 x48 x49 x50 x51 x52 x53 x54 x55 x56 x57 x58 x59 x60 x61 x62 x63 o.1 x65 o.2 x67 ++ t)) := Ct.ofR (by decide +kernel) rfl (Nat.le_of_ble_eq_true rfl) (rt_Co_carryOut_i1 h ⟨rfl, rfl⟩)
set_option maxRecDepth 20000 in
set_option maxHeartbeats 4000000 in
theorem rt_Co_passOne_i1 {g : GG} {ad : Nat → Nat} {t : va_W} {x0 x1 x3 x12 x24 x25 x26 x27 x28 x29 x30 x31 x37 x39 x40 x41 x47 x48 x54 x56 x58 x59 x60 x61 : Int32} {x2 x22 x23 x33 x34 x35 x42 x43 x44 x45 x46 x49 x50 x51 x52 x53 x62 : Nat → Int32} {x32 : Int64} {x36 x38 x55 x57 : Nat → Int64} {N : Nat} {Tap_tellerCount : Int32} {Cl_count : Int32} {Cl_tellers : Nat → Int32} {Cl_kinds : Nat → Int32} {Cl_events : Nat → Int32} {Cl_firsts : Nat → Int32} {Cl_lasts : Nat → Int32} {Or_count : Int32} {Or_doubts : Nat → Int32} {Or_tellers : Nat → Int32} {Or_ends : Nat → Int32} {Or_stepKinds : Nat → Int32} {Or_stepParts : Nat → Int32} {Ve_judged : Int32} {Ve_liarSet : Int32} {Ve_setCount : Int32} {Ve_against : Nat → Int32} {Co_top : Int32} {Co_doubted : Int32} {Co_evening : Int32} {Co_carriedOut : Int32} {Co_stack : Nat → Int32} {o : Int32 × Int32 × Int32 × Int32 × Int32 × Int32 × Int32 × (Nat → Int32)} {Q : Rs → va_W → Prop} (h : f_Co_passOne N Tap_tellerCount Cl_count Cl_tellers Cl_kinds Cl_events Cl_firsts Cl_lasts Or_count Or_doubts Or_tellers Or_ends Or_stepKinds Or_stepParts Ve_judged Ve_liarSet Ve_setCount Ve_against Co_top Co_doubted Co_evening Co_carriedOut Co_stack = some o) (hq : Q (.inl (none)) (wlX g ad x0 x1 x2 x3 Tap_tellerCount Cl_count Cl_tellers Cl_kinds Cl_events Cl_firsts Cl_lasts Or_count x12 Or_doubts Or_tellers Or_ends Or_stepKinds Or_stepParts o.1 o.2.1 o.2.2.1 Ve_against x22 x23 x24 x25 x26 x27 x28 x29 x30 x31 x32 x33 x34 x35 x36 x37 x38 x39 x40 x41 x42 x43 x44 x45 x46 x47 x48 x49 x50 x51 x52 x53 x54 x55 x56 x57 x58 x59 x60 x61 x62 o.2.2.2.1 o.2.2.2.2.1 o.2.2.2.2.2.1 o.2.2.2.2.2.2.1 o.2.2.2.2.2.2.2 ++ t)) : R g mX1_passOne 7 0 0 0 [(0, .ref (ad 74))] [] (wlX g ad x0 x1 x2 x3 Tap_tellerCount Cl_count Cl_tellers Cl_kinds Cl_events Cl_firsts Cl_lasts Or_count x12 Or_doubts Or_tellers Or_ends Or_stepKinds Or_stepParts Ve_judged Ve_liarSet Ve_setCount Ve_against x22 x23 x24 x25 x26 x27 x28 x29 x30 x31 x32 x33 x34 x35 x36 x37 x38 x39 x40 x41 x42 x43 x44 x45 x46 x47 x48 x49 x50 x51 x52 x53 x54 x55 x56 x57 x58 x59 x60 x61 x62 Co_top Co_doubted Co_evening Co_carriedOut Co_stack ++ t) Q := by
  unfold f_Co_passOne at h
  refine r_iconst (v := (0 : Int32)) dX1_passOne_0 (by decide) ?_
  refine r_istore_n [(1, .int (0 : Int32)), (0, .ref (ad 74))] dX1_passOne_1 (by decide) rfl ?_
  refine r_ls [1, 0] (ls2 := [(0, .ref (ad 74)), (1, .int (0 : Int32))]) rfl ?_
  have L1 : ∀ (n1 : Nat) (l1_1 : Int32) (Ve_judged_1 : Int32) (Ve_liarSet_1 : Int32) (Ve_setCount_1 : Int32) (Co_top_1 : Int32) (Co_doubted_1 : Int32) (Co_carriedOut_1 : Int32) (Co_stack_1 : Nat → Int32), (fun z9 => z9) (lpS (f_Co_passOne_L2 N Tap_tellerCount Cl_count Cl_tellers Cl_kinds Cl_events Cl_firsts Cl_lasts Or_count Or_doubts Or_tellers Or_ends Or_stepKinds Or_stepParts Ve_against Co_evening) none n1 (l1_1, Ve_judged_1, Ve_liarSet_1, Ve_setCount_1, Co_top_1, Co_doubted_1, Co_carriedOut_1, Co_stack_1)) = some o → R g mX1_passOne 7 0 0 2 [(0, .ref (ad 74)), (1, .int l1_1)] [] (wlX g ad x0 x1 x2 x3 Tap_tellerCount Cl_count Cl_tellers Cl_kinds Cl_events Cl_firsts Cl_lasts Or_count x12 Or_doubts Or_tellers Or_ends Or_stepKinds Or_stepParts Ve_judged_1 Ve_liarSet_1 Ve_setCount_1 Ve_against x22 x23 x24 x25 x26 x27 x28 x29 x30 x31 x32 x33 x34 x35 x36 x37 x38 x39 x40 x41 x42 x43 x44 x45 x46 x47 x48 x49 x50 x51 x52 x53 x54 x55 x56 x57 x58 x59 x60 x61 x62 Co_top_1 Co_doubted_1 Co_evening Co_carriedOut_1 Co_stack_1 ++ t) Q := by
    intro n1
    induction n1 with
    | zero => intro l1_1 Ve_judged_1 Ve_liarSet_1 Ve_setCount_1 Co_top_1 Co_doubted_1 Co_carriedOut_1 Co_stack_1 h; exact nomatch (show (none : Option _) = some _ from h)
    | succ n1 ih1 =>
      intro l1_1 Ve_judged_1 Ve_liarSet_1 Ve_setCount_1 Co_top_1 Co_doubted_1 Co_carriedOut_1 Co_stack_1 h
      have h : (fun z9 => (lC (f_Co_passOne_L2 N Tap_tellerCount Cl_count Cl_tellers Cl_kinds Cl_events Cl_firsts Cl_lasts Or_count Or_doubts Or_tellers Or_ends Or_stepKinds Or_stepParts Ve_against Co_evening) none n1 z9)) (f_Co_passOne_L2 N Tap_tellerCount Cl_count Cl_tellers Cl_kinds Cl_events Cl_firsts Cl_lasts Or_count Or_doubts Or_tellers Or_ends Or_stepKinds Or_stepParts Ve_against Co_evening (l1_1, Ve_judged_1, Ve_liarSet_1, Ve_setCount_1, Co_top_1, Co_doubted_1, Co_carriedOut_1, Co_stack_1)) = some o := h
      unfold f_Co_passOne_L2 at h
      try dsimp only at h
      refine r_iload_n 1 dX1_passOne_2 rfl ?_
      refine r_aload_n 0 dX1_passOne_3 rfl ?_
      refine r_getf (v := .ref (ad 3)) _ dX1_passOne_4 fl_X1_9 lX_74 rfl ?_
      refine r_getf (v := .ref (ad 15)) _ dX1_passOne_7 fl_X1_38 lX_3 rfl ?_
      refine r_getf (v := .int Or_count) _ dX1_passOne_10 fl_X1_44 lX_15 rfl ?_
      refine r_icmp_ge (tgt := 35) dX1_passOne_13 (by decide) (fun hc1187 => ?_) (fun hc1187 => ?_)
      · have h := ip (fun z9 => (lC (f_Co_passOne_L2 N Tap_tellerCount Cl_count Cl_tellers Cl_kinds Cl_events Cl_firsts Cl_lasts Or_count Or_doubts Or_tellers Or_ends Or_stepKinds Or_stepParts Ve_against Co_evening) none n1 z9)) hc1187 h
        refine r_aload_n 0 dX1_passOne_35 rfl ?_
        refine r_dup dX1_passOne_36 rfl ?_
        refine r_getf (v := .int Co_evening) _ dX1_passOne_37 fl_X1_32 lX_74 rfl ?_
        refine r_iconst (v := (1 : Int32)) dX1_passOne_40 (by decide) ?_
        refine r_iadd dX1_passOne_41 ?_
        refine r_putf _ dX1_passOne_42 fl_X1_32 lX_74 (Nat.le_of_ble_eq_true rfl) rfl rfl (sX_65 _) ?_
        refine r_vret dX1_passOne_45 rfl ?_
        have h := Option.some.inj (show some _ = some o from h)
        subst h
        exact hq
      · have h := iq (fun z9 => (lC (f_Co_passOne_L2 N Tap_tellerCount Cl_count Cl_tellers Cl_kinds Cl_events Cl_firsts Cl_lasts Or_count Or_doubts Or_tellers Or_ends Or_stepKinds Or_stepParts Ve_against Co_evening) none n1 z9)) hc1187 h
        refine r_aload_n 0 dX1_passOne_16 rfl ?_
        refine r_iload_n 1 dX1_passOne_17 rfl ?_
        obtain ⟨r1188, hc1189, h⟩ := ob (fun z9 => (lC (f_Co_passOne_L2 N Tap_tellerCount Cl_count Cl_tellers Cl_kinds Cl_events Cl_firsts Cl_lasts Or_count Or_doubts Or_tellers Or_ends Or_stepKinds Or_stepParts Ve_against Co_evening) none n1 z9)) rfl h
        refine c_V (rest := []) 0 0 _ dX1_passOne_18 kv_X1_49 (ct_Co_holds_i1 hc1189) rfl rfl lX_74 rfl (Nat.le_of_ble_eq_true rfl) (by decide) (by decide) ?_
        refine r_if_eq (tgt := 29) dX1_passOne_21 (by decide) (fun hc1190 => ?_) (fun hc1190 => ?_)
        · have h := ip (fun z9 => (lC (f_Co_passOne_L2 N Tap_tellerCount Cl_count Cl_tellers Cl_kinds Cl_events Cl_firsts Cl_lasts Or_count Or_doubts Or_tellers Or_ends Or_stepKinds Or_stepParts Ve_against Co_evening) none n1 z9)) hc1190 h
          refine r_iinc (v2 := (l1_1 + (1 : Int32))) 1 [(1, .int (l1_1 + (1 : Int32))), (0, .ref (ad 74))] dX1_passOne_29 rfl rfl (by decide) rfl ?_
          refine r_goto (tgt := 2) dX1_passOne_32 (by decide) ?_
          refine r_ls [1, 0] (ls2 := [(0, .ref (ad 74)), (1, .int (l1_1 + (1 : Int32)))]) rfl ?_
          exact ih1 (l1_1 + (1 : Int32)) r1188.2.1 r1188.2.2.1 r1188.2.2.2.1 r1188.2.2.2.2.1 Co_doubted_1 Co_carriedOut_1 r1188.2.2.2.2.2 h
        · have h := iq (fun z9 => (lC (f_Co_passOne_L2 N Tap_tellerCount Cl_count Cl_tellers Cl_kinds Cl_events Cl_firsts Cl_lasts Or_count Or_doubts Or_tellers Or_ends Or_stepKinds Or_stepParts Ve_against Co_evening) none n1 z9)) hc1190 h
          refine r_aload_n 0 dX1_passOne_24 rfl ?_
          refine r_iload_n 1 dX1_passOne_25 rfl ?_
          obtain ⟨r1191, hc1192, h⟩ := ob (fun z9 => (lC (f_Co_passOne_L2 N Tap_tellerCount Cl_count Cl_tellers Cl_kinds Cl_events Cl_firsts Cl_lasts Or_count Or_doubts Or_tellers Or_ends Or_stepKinds Or_stepParts Ve_against Co_evening) none n1 z9)) rfl h
          refine c_Vv (rest := []) 0 0 _ dX1_passOne_26 kv_X1_53 (ct_Co_carryOut_i1 hc1192) rfl rfl lX_74 rfl (Nat.le_of_ble_eq_true rfl) (by decide) (by decide) ?_
          refine r_iinc (v2 := (l1_1 + (1 : Int32))) 1 [(1, .int (l1_1 + (1 : Int32))), (0, .ref (ad 74))] dX1_passOne_29 rfl rfl (by decide) rfl ?_
          refine r_goto (tgt := 2) dX1_passOne_32 (by decide) ?_
          refine r_ls [1, 0] (ls2 := [(0, .ref (ad 74)), (1, .int (l1_1 + (1 : Int32)))]) rfl ?_
          exact ih1 (l1_1 + (1 : Int32)) r1188.2.1 r1188.2.2.1 r1188.2.2.2.1 r1188.2.2.2.2.1 r1191.1 r1191.2 r1188.2.2.2.2.2 h
  exact L1 _ (0 : Int32) Ve_judged Ve_liarSet Ve_setCount Co_top Co_doubted Co_carriedOut Co_stack h
theorem ct_Co_passOne_i1 {g : GG} {ad : Nat → Nat} {t : va_W} {x0 x1 x3 x12 x24 x25 x26 x27 x28 x29 x30 x31 x37 x39 x40 x41 x47 x48 x54 x56 x58 x59 x60 x61 : Int32} {x2 x22 x23 x33 x34 x35 x42 x43 x44 x45 x46 x49 x50 x51 x52 x53 x62 : Nat → Int32} {x32 : Int64} {x36 x38 x55 x57 : Nat → Int64} {N : Nat} {Tap_tellerCount : Int32} {Cl_count : Int32} {Cl_tellers : Nat → Int32} {Cl_kinds : Nat → Int32} {Cl_events : Nat → Int32} {Cl_firsts : Nat → Int32} {Cl_lasts : Nat → Int32} {Or_count : Int32} {Or_doubts : Nat → Int32} {Or_tellers : Nat → Int32} {Or_ends : Nat → Int32} {Or_stepKinds : Nat → Int32} {Or_stepParts : Nat → Int32} {Ve_judged : Int32} {Ve_liarSet : Int32} {Ve_setCount : Int32} {Ve_against : Nat → Int32} {Co_top : Int32} {Co_doubted : Int32} {Co_evening : Int32} {Co_carriedOut : Int32} {Co_stack : Nat → Int32} {o : Int32 × Int32 × Int32 × Int32 × Int32 × Int32 × Int32 × (Nat → Int32)} (h : f_Co_passOne N Tap_tellerCount Cl_count Cl_tellers Cl_kinds Cl_events Cl_firsts Cl_lasts Or_count Or_doubts Or_tellers Or_ends Or_stepKinds Or_stepParts Ve_judged Ve_liarSet Ve_setCount Ve_against Co_top Co_doubted Co_evening Co_carriedOut Co_stack = some o) : Ct g mX1_passOne 7 0 0 [.ref (ad 74)] (wlX g ad x0 x1 x2 x3 Tap_tellerCount Cl_count Cl_tellers Cl_kinds Cl_events Cl_firsts Cl_lasts Or_count x12 Or_doubts Or_tellers Or_ends Or_stepKinds Or_stepParts Ve_judged Ve_liarSet Ve_setCount Ve_against x22 x23 x24 x25 x26 x27 x28 x29 x30 x31 x32 x33 x34 x35 x36 x37 x38 x39 x40 x41 x42 x43 x44 x45 x46 x47 x48 x49 x50 x51 x52 x53 x54 x55 x56 x57 x58 x59 x60 x61 x62 Co_top Co_doubted Co_evening Co_carriedOut Co_stack ++ t) (Dv (none) (wlX g ad x0 x1 x2 x3 Tap_tellerCount Cl_count Cl_tellers Cl_kinds Cl_events Cl_firsts Cl_lasts Or_count x12 Or_doubts Or_tellers Or_ends Or_stepKinds Or_stepParts o.1 o.2.1 o.2.2.1 Ve_against x22 x23 x24 x25 x26 x27 x28 x29 x30 x31 x32 x33 x34 x35 x36 x37 x38 x39 x40 x41 x42 x43 x44 x45 x46 x47 x48 x49 x50 x51 x52 x53 x54 x55 x56 x57 x58 x59 x60 x61 x62 o.2.2.2.1 o.2.2.2.2.1 o.2.2.2.2.2.1 o.2.2.2.2.2.2.1 o.2.2.2.2.2.2.2 ++ t)) := Ct.ofR (by decide +kernel) rfl (Nat.le_of_ble_eq_true rfl) (rt_Co_passOne_i1 h ⟨rfl, rfl⟩)
set_option maxRecDepth 20000 in
set_option maxHeartbeats 4000000 in
theorem rt_Main_liarsAfter {g : GG} {ad : Nat → Nat} {t : va_W} {x0 x1 x3 x12 x24 x25 x26 x27 x28 x29 x30 x31 x37 x39 x40 x41 x47 x48 x54 x56 x58 : Int32} {x2 x22 x23 x33 x34 x35 x42 x43 x44 x45 x46 x49 x50 x51 x52 x53 x62 : Nat → Int32} {x32 : Int64} {x36 x38 x55 x57 : Nat → Int64} {N : Nat} {Tap_tellerCount : Int32} {Cl_count : Int32} {Cl_tellers : Nat → Int32} {Cl_kinds : Nat → Int32} {Cl_events : Nat → Int32} {Cl_firsts : Nat → Int32} {Cl_lasts : Nat → Int32} {Or_count : Int32} {Or_doubts : Nat → Int32} {Or_tellers : Nat → Int32} {Or_ends : Nat → Int32} {Or_stepKinds : Nat → Int32} {Or_stepParts : Nat → Int32} {Ve_judged : Int32} {Ve_liarSet : Int32} {Ve_setCount : Int32} {Ve_against : Nat → Int32} {Co_doubted : Int32} {Co_evening : Int32} {Co_carriedOut : Int32} {Co_top : Int32} {Co_doubted_2 : Int32} {Co_evening_2 : Int32} {Co_carriedOut_2 : Int32} {Co_stack : Nat → Int32} {p1 : Int32} {o : (Int32 × Int32 × Int32 × Int32 × Int32 × Int32 × Int32 × Int32 × (Nat → Int32)) ⊕ String} {Q : Rs → va_W → Prop} (h : f_Main_liarsAfter N Tap_tellerCount Cl_count Cl_tellers Cl_kinds Cl_events Cl_firsts Cl_lasts Or_count Or_doubts Or_tellers Or_ends Or_stepKinds Or_stepParts Ve_judged Ve_liarSet Ve_setCount Ve_against Co_doubted Co_evening Co_carriedOut Co_top Co_doubted_2 Co_evening_2 Co_carriedOut_2 Co_stack p1 = some o) (hq1 : ∀ q, o = .inl q → Q (.inl (some (.int q.1))) (wlX g ad x0 x1 x2 x3 Tap_tellerCount Cl_count Cl_tellers Cl_kinds Cl_events Cl_firsts Cl_lasts Or_count x12 Or_doubts Or_tellers Or_ends Or_stepKinds Or_stepParts q.2.1 q.2.2.1 q.2.2.2.1 Ve_against x22 x23 x24 x25 x26 x27 x28 x29 x30 x31 x32 x33 x34 x35 x36 x37 x38 x39 x40 x41 x42 x43 x44 x45 x46 x47 x48 x49 x50 x51 x52 x53 x54 x55 x56 x57 x58 Co_doubted Co_evening Co_carriedOut x62 q.2.2.2.2.1 q.2.2.2.2.2.1 q.2.2.2.2.2.2.1 q.2.2.2.2.2.2.2.1 q.2.2.2.2.2.2.2.2 ++ t)) (hq2 : ∀ E, o = .inr E → Q (.inr E) (wlX g ad x0 x1 x2 x3 Tap_tellerCount Cl_count Cl_tellers Cl_kinds Cl_events Cl_firsts Cl_lasts Or_count x12 Or_doubts Or_tellers Or_ends Or_stepKinds Or_stepParts Ve_judged Ve_liarSet Ve_setCount Ve_against x22 x23 x24 x25 x26 x27 x28 x29 x30 x31 x32 x33 x34 x35 x36 x37 x38 x39 x40 x41 x42 x43 x44 x45 x46 x47 x48 x49 x50 x51 x52 x53 x54 x55 x56 x57 x58 Co_doubted Co_evening Co_carriedOut x62 Co_top Co_doubted_2 Co_evening_2 Co_carriedOut_2 Co_stack ++ t)) : R g mX9_liarsAfter 8 1 6 0 [(0, .ref (ad 0)), (1, .int p1)] [] (wlX g ad x0 x1 x2 x3 Tap_tellerCount Cl_count Cl_tellers Cl_kinds Cl_events Cl_firsts Cl_lasts Or_count x12 Or_doubts Or_tellers Or_ends Or_stepKinds Or_stepParts Ve_judged Ve_liarSet Ve_setCount Ve_against x22 x23 x24 x25 x26 x27 x28 x29 x30 x31 x32 x33 x34 x35 x36 x37 x38 x39 x40 x41 x42 x43 x44 x45 x46 x47 x48 x49 x50 x51 x52 x53 x54 x55 x56 x57 x58 Co_doubted Co_evening Co_carriedOut x62 Co_top Co_doubted_2 Co_evening_2 Co_carriedOut_2 Co_stack ++ t) Q := by
  unfold f_Main_liarsAfter at h
  refine r_aload_n 0 dX9_liarsAfter_0 rfl ?_
  refine r_iload_n 1 dX9_liarsAfter_1 rfl ?_
  obtain ⟨r1193, hc1194, h⟩ := ob (fun z9 => z9) rfl h
  rcases r1193 with q1195 | E1203
  · refine c_Xv (rest := []) 0 0 _ dX9_liarsAfter_2 kv_X9_246 (ct_Main_needEvenings hc1194) rfl rfl lX_0 rfl (Nat.le_of_ble_eq_true rfl) (by decide) (by decide) ?_
    try dsimp only [Sum.elim_inl, Sum.elim_inr] at h
    refine r_aload_n 0 dX9_liarsAfter_5 rfl ?_
    refine r_getf (v := .ref (ad 74)) _ dX9_liarsAfter_6 fl_X9_52 lX_0 rfl ?_
    refine r_aload_n 0 dX9_liarsAfter_9 rfl ?_
    refine r_getf (v := .ref (ad 71)) _ dX9_liarsAfter_10 fl_X9_48 lX_0 rfl ?_
    obtain ⟨r1196, hc1197, h⟩ := ob (fun z9 => z9) rfl h
    refine c_Vv (rest := []) 0 0 _ dX9_liarsAfter_13 kv_X9_252 (ct_Co_copyFrom hc1197) rfl rfl lX_74 rfl (Nat.le_of_ble_eq_true rfl) (by decide) (by decide) ?_
    refine r_iconst (v := (0 : Int32)) dX9_liarsAfter_16 (by decide) ?_
    refine r_istore_n [(2, .int (0 : Int32)), (0, .ref (ad 0)), (1, .int p1)] dX9_liarsAfter_17 (by decide) rfl ?_
    refine r_ls [1, 2, 0] (ls2 := [(0, .ref (ad 0)), (1, .int p1), (2, .int (0 : Int32))]) rfl ?_
    have L1 : ∀ (n1 : Nat) (l2_1 : Int32) (Ve_judged_1 : Int32) (Ve_liarSet_1 : Int32) (Ve_setCount_1 : Int32) (Co_top_1 : Int32) (Co_doubted_2_1 : Int32) (Co_evening_2_1 : Int32) (Co_carriedOut_2_1 : Int32) (Co_stack_1 : Nat → Int32), (fun z9 => z9) (lpS (f_Main_liarsAfter_L18 N Tap_tellerCount Cl_count Cl_tellers Cl_kinds Cl_events Cl_firsts Cl_lasts Or_count Or_doubts Or_tellers Or_ends Or_stepKinds Or_stepParts Ve_against p1) none n1 (l2_1, Ve_judged_1, Ve_liarSet_1, Ve_setCount_1, Co_top_1, Co_doubted_2_1, Co_evening_2_1, Co_carriedOut_2_1, Co_stack_1)) = some o → R g mX9_liarsAfter 8 0 0 18 [(0, .ref (ad 0)), (1, .int p1), (2, .int l2_1)] [] (wlX g ad x0 x1 x2 x3 Tap_tellerCount Cl_count Cl_tellers Cl_kinds Cl_events Cl_firsts Cl_lasts Or_count x12 Or_doubts Or_tellers Or_ends Or_stepKinds Or_stepParts Ve_judged_1 Ve_liarSet_1 Ve_setCount_1 Ve_against x22 x23 x24 x25 x26 x27 x28 x29 x30 x31 x32 x33 x34 x35 x36 x37 x38 x39 x40 x41 x42 x43 x44 x45 x46 x47 x48 x49 x50 x51 x52 x53 x54 x55 x56 x57 x58 Co_doubted Co_evening Co_carriedOut x62 Co_top_1 Co_doubted_2_1 Co_evening_2_1 Co_carriedOut_2_1 Co_stack_1 ++ t) Q := by
      intro n1
      induction n1 with
      | zero => intro l2_1 Ve_judged_1 Ve_liarSet_1 Ve_setCount_1 Co_top_1 Co_doubted_2_1 Co_evening_2_1 Co_carriedOut_2_1 Co_stack_1 h; exact nomatch (show (none : Option _) = some _ from h)
      | succ n1 ih1 =>
        intro l2_1 Ve_judged_1 Ve_liarSet_1 Ve_setCount_1 Co_top_1 Co_doubted_2_1 Co_evening_2_1 Co_carriedOut_2_1 Co_stack_1 h
        have h : (fun z9 => (lC (f_Main_liarsAfter_L18 N Tap_tellerCount Cl_count Cl_tellers Cl_kinds Cl_events Cl_firsts Cl_lasts Or_count Or_doubts Or_tellers Or_ends Or_stepKinds Or_stepParts Ve_against p1) none n1 z9)) (f_Main_liarsAfter_L18 N Tap_tellerCount Cl_count Cl_tellers Cl_kinds Cl_events Cl_firsts Cl_lasts Or_count Or_doubts Or_tellers Or_ends Or_stepKinds Or_stepParts Ve_against p1 (l2_1, Ve_judged_1, Ve_liarSet_1, Ve_setCount_1, Co_top_1, Co_doubted_2_1, Co_evening_2_1, Co_carriedOut_2_1, Co_stack_1)) = some o := h
        unfold f_Main_liarsAfter_L18 at h
        try dsimp only at h
        refine r_iload_n 2 dX9_liarsAfter_18 rfl ?_
        refine r_iload_n 1 dX9_liarsAfter_19 rfl ?_
        refine r_icmp_ge (tgt := 36) dX9_liarsAfter_20 (by decide) (fun hc1198 => ?_) (fun hc1198 => ?_)
        · have h := ip (fun z9 => (lC (f_Main_liarsAfter_L18 N Tap_tellerCount Cl_count Cl_tellers Cl_kinds Cl_events Cl_firsts Cl_lasts Or_count Or_doubts Or_tellers Or_ends Or_stepKinds Or_stepParts Ve_against p1) none n1 z9)) hc1198 h
          refine r_aload_n 0 dX9_liarsAfter_36 rfl ?_
          refine r_getf (v := .ref (ad 26)) _ dX9_liarsAfter_37 fl_X9_39 lX_0 rfl ?_
          refine r_aload_n 0 dX9_liarsAfter_40 rfl ?_
          refine r_getf (v := .ref (ad 74)) _ dX9_liarsAfter_41 fl_X9_52 lX_0 rfl ?_
          refine r_getf (v := .int Co_doubted_2_1) _ dX9_liarsAfter_44 fl_X9_162 lX_74 rfl ?_
          obtain ⟨r1199, hc1200, h⟩ := ob (fun z9 => (lC (f_Main_liarsAfter_L18 N Tap_tellerCount Cl_count Cl_tellers Cl_kinds Cl_events Cl_firsts Cl_lasts Or_count Or_doubts Or_tellers Or_ends Or_stepKinds Or_stepParts Ve_against p1) none n1 z9)) rfl h
          refine c_V (rest := []) 0 0 _ dX9_liarsAfter_47 kv_X9_179 (ct_Ve_liarSet hc1200) rfl rfl lX_26 rfl (Nat.le_of_ble_eq_true rfl) (by decide) (by decide) ?_
          refine c_S (rest := []) 0 0 dX9_liarsAfter_50 ks_X9_182 (ct_J6_bitCount_0f7a4 rfl) rfl rfl (Nat.le_of_ble_eq_true rfl) (by decide) (by decide) ?_
          refine r_iret dX9_liarsAfter_53 rfl ?_
          have h := Option.some.inj (show some _ = some o from h)
          subst h
          exact hq1 _ rfl
        · have h := iq (fun z9 => (lC (f_Main_liarsAfter_L18 N Tap_tellerCount Cl_count Cl_tellers Cl_kinds Cl_events Cl_firsts Cl_lasts Or_count Or_doubts Or_tellers Or_ends Or_stepKinds Or_stepParts Ve_against p1) none n1 z9)) hc1198 h
          refine r_aload_n 0 dX9_liarsAfter_23 rfl ?_
          refine r_getf (v := .ref (ad 74)) _ dX9_liarsAfter_24 fl_X9_52 lX_0 rfl ?_
          obtain ⟨r1201, hc1202, h⟩ := ob (fun z9 => (lC (f_Main_liarsAfter_L18 N Tap_tellerCount Cl_count Cl_tellers Cl_kinds Cl_events Cl_firsts Cl_lasts Or_count Or_doubts Or_tellers Or_ends Or_stepKinds Or_stepParts Ve_against p1) none n1 z9)) rfl h
          refine c_Vv (rest := []) 0 0 _ dX9_liarsAfter_27 kv_X9_249 (ct_Co_passOne_i1 hc1202) rfl rfl lX_74 rfl (Nat.le_of_ble_eq_true rfl) (by decide) (by decide) ?_
          refine r_iinc (v2 := (l2_1 + (1 : Int32))) 2 [(2, .int (l2_1 + (1 : Int32))), (0, .ref (ad 0)), (1, .int p1)] dX9_liarsAfter_30 rfl rfl (by decide) rfl ?_
          refine r_goto (tgt := 18) dX9_liarsAfter_33 (by decide) ?_
          refine r_ls [1, 2, 0] (ls2 := [(0, .ref (ad 0)), (1, .int p1), (2, .int (l2_1 + (1 : Int32)))]) rfl ?_
          exact ih1 (l2_1 + (1 : Int32)) r1201.1 r1201.2.1 r1201.2.2.1 r1201.2.2.2.1 r1201.2.2.2.2.1 r1201.2.2.2.2.2.1 r1201.2.2.2.2.2.2.1 r1201.2.2.2.2.2.2.2 h
    exact L1 _ (0 : Int32) Ve_judged Ve_liarSet Ve_setCount Co_top r1196.1 r1196.2.1 r1196.2.2 Co_stack h
  · refine c_Xt (rest := []) 0 0 _ dX9_liarsAfter_2 kv_X9_246 (ct_Main_needEvenings hc1194) rfl rfl lX_0 rfl (Nat.le_of_ble_eq_true rfl) (by decide) (by decide) ?_
    refine rx_out rfl ?_
    have h := Option.some.inj (show some _ = some o from h)
    subst h
    exact hq2 _ rfl
theorem ct_Main_liarsAfter {g : GG} {ad : Nat → Nat} {t : va_W} {x0 x1 x3 x12 x24 x25 x26 x27 x28 x29 x30 x31 x37 x39 x40 x41 x47 x48 x54 x56 x58 : Int32} {x2 x22 x23 x33 x34 x35 x42 x43 x44 x45 x46 x49 x50 x51 x52 x53 x62 : Nat → Int32} {x32 : Int64} {x36 x38 x55 x57 : Nat → Int64} {N : Nat} {Tap_tellerCount : Int32} {Cl_count : Int32} {Cl_tellers : Nat → Int32} {Cl_kinds : Nat → Int32} {Cl_events : Nat → Int32} {Cl_firsts : Nat → Int32} {Cl_lasts : Nat → Int32} {Or_count : Int32} {Or_doubts : Nat → Int32} {Or_tellers : Nat → Int32} {Or_ends : Nat → Int32} {Or_stepKinds : Nat → Int32} {Or_stepParts : Nat → Int32} {Ve_judged : Int32} {Ve_liarSet : Int32} {Ve_setCount : Int32} {Ve_against : Nat → Int32} {Co_doubted : Int32} {Co_evening : Int32} {Co_carriedOut : Int32} {Co_top : Int32} {Co_doubted_2 : Int32} {Co_evening_2 : Int32} {Co_carriedOut_2 : Int32} {Co_stack : Nat → Int32} {p1 : Int32} {o : (Int32 × Int32 × Int32 × Int32 × Int32 × Int32 × Int32 × Int32 × (Nat → Int32)) ⊕ String} (h : f_Main_liarsAfter N Tap_tellerCount Cl_count Cl_tellers Cl_kinds Cl_events Cl_firsts Cl_lasts Or_count Or_doubts Or_tellers Or_ends Or_stepKinds Or_stepParts Ve_judged Ve_liarSet Ve_setCount Ve_against Co_doubted Co_evening Co_carriedOut Co_top Co_doubted_2 Co_evening_2 Co_carriedOut_2 Co_stack p1 = some o) : Ct g mX9_liarsAfter 8 1 6 [.ref (ad 0), .int p1] (wlX g ad x0 x1 x2 x3 Tap_tellerCount Cl_count Cl_tellers Cl_kinds Cl_events Cl_firsts Cl_lasts Or_count x12 Or_doubts Or_tellers Or_ends Or_stepKinds Or_stepParts Ve_judged Ve_liarSet Ve_setCount Ve_against x22 x23 x24 x25 x26 x27 x28 x29 x30 x31 x32 x33 x34 x35 x36 x37 x38 x39 x40 x41 x42 x43 x44 x45 x46 x47 x48 x49 x50 x51 x52 x53 x54 x55 x56 x57 x58 Co_doubted Co_evening Co_carriedOut x62 Co_top Co_doubted_2 Co_evening_2 Co_carriedOut_2 Co_stack ++ t) (Dt o (fun q => some (.int q.1)) (fun q => (wlX g ad x0 x1 x2 x3 Tap_tellerCount Cl_count Cl_tellers Cl_kinds Cl_events Cl_firsts Cl_lasts Or_count x12 Or_doubts Or_tellers Or_ends Or_stepKinds Or_stepParts q.2.1 q.2.2.1 q.2.2.2.1 Ve_against x22 x23 x24 x25 x26 x27 x28 x29 x30 x31 x32 x33 x34 x35 x36 x37 x38 x39 x40 x41 x42 x43 x44 x45 x46 x47 x48 x49 x50 x51 x52 x53 x54 x55 x56 x57 x58 Co_doubted Co_evening Co_carriedOut x62 q.2.2.2.2.1 q.2.2.2.2.2.1 q.2.2.2.2.2.2.1 q.2.2.2.2.2.2.2.1 q.2.2.2.2.2.2.2.2 ++ t)) (wlX g ad x0 x1 x2 x3 Tap_tellerCount Cl_count Cl_tellers Cl_kinds Cl_events Cl_firsts Cl_lasts Or_count x12 Or_doubts Or_tellers Or_ends Or_stepKinds Or_stepParts Ve_judged Ve_liarSet Ve_setCount Ve_against x22 x23 x24 x25 x26 x27 x28 x29 x30 x31 x32 x33 x34 x35 x36 x37 x38 x39 x40 x41 x42 x43 x44 x45 x46 x47 x48 x49 x50 x51 x52 x53 x54 x55 x56 x57 x58 Co_doubted Co_evening Co_carriedOut x62 Co_top Co_doubted_2 Co_evening_2 Co_carriedOut_2 Co_stack ++ t)) := Ct.ofR (by decide +kernel) rfl (Nat.le_of_ble_eq_true rfl) (rt_Main_liarsAfter h (fun q e => by subst e; exact ⟨rfl, rfl⟩) (fun E e => by subst e; exact ⟨rfl, rfl⟩))
set_option maxRecDepth 20000 in
set_option maxHeartbeats 4000000 in
theorem rt_Main_eveningsUntilOneStory {g : GG} {ad : Nat → Nat} {t : va_W} {x0 x1 x3 x12 x24 x25 x26 x27 x28 x29 x30 x31 x37 x39 x40 x41 x47 x48 x54 x56 x58 : Int32} {x2 x22 x23 x33 x34 x35 x42 x43 x44 x45 x46 x49 x50 x51 x52 x53 x62 : Nat → Int32} {x32 : Int64} {x36 x38 x55 x57 : Nat → Int64} {N : Nat} {Tap_tellerCount : Int32} {Cl_count : Int32} {Cl_tellers : Nat → Int32} {Cl_kinds : Nat → Int32} {Cl_events : Nat → Int32} {Cl_firsts : Nat → Int32} {Cl_lasts : Nat → Int32} {Or_count : Int32} {Or_doubts : Nat → Int32} {Or_tellers : Nat → Int32} {Or_ends : Nat → Int32} {Or_stepKinds : Nat → Int32} {Or_stepParts : Nat → Int32} {Ve_judged : Int32} {Ve_liarSet : Int32} {Ve_setCount : Int32} {Ve_against : Nat → Int32} {Co_doubted : Int32} {Co_evening : Int32} {Co_carriedOut : Int32} {Co_top : Int32} {Co_doubted_2 : Int32} {Co_evening_2 : Int32} {Co_carriedOut_2 : Int32} {Co_stack : Nat → Int32} {o : Int32 × Int32 × Int32 × Int32 × Int32 × Int32 × Int32 × Int32 × (Nat → Int32)} {Q : Rs → va_W → Prop} (h : f_Main_eveningsUntilOneStory N Tap_tellerCount Cl_count Cl_tellers Cl_kinds Cl_events Cl_firsts Cl_lasts Or_count Or_doubts Or_tellers Or_ends Or_stepKinds Or_stepParts Ve_judged Ve_liarSet Ve_setCount Ve_against Co_doubted Co_evening Co_carriedOut Co_top Co_doubted_2 Co_evening_2 Co_carriedOut_2 Co_stack = some o) (hq : Q (.inl (some (.int o.1))) (wlX g ad x0 x1 x2 x3 Tap_tellerCount Cl_count Cl_tellers Cl_kinds Cl_events Cl_firsts Cl_lasts Or_count x12 Or_doubts Or_tellers Or_ends Or_stepKinds Or_stepParts o.2.1 o.2.2.1 o.2.2.2.1 Ve_against x22 x23 x24 x25 x26 x27 x28 x29 x30 x31 x32 x33 x34 x35 x36 x37 x38 x39 x40 x41 x42 x43 x44 x45 x46 x47 x48 x49 x50 x51 x52 x53 x54 x55 x56 x57 x58 Co_doubted Co_evening Co_carriedOut x62 o.2.2.2.2.1 o.2.2.2.2.2.1 o.2.2.2.2.2.2.1 o.2.2.2.2.2.2.2.1 o.2.2.2.2.2.2.2.2 ++ t)) : R g mX9_eveningsUntilOneStory 8 0 0 0 [(0, .ref (ad 0))] [] (wlX g ad x0 x1 x2 x3 Tap_tellerCount Cl_count Cl_tellers Cl_kinds Cl_events Cl_firsts Cl_lasts Or_count x12 Or_doubts Or_tellers Or_ends Or_stepKinds Or_stepParts Ve_judged Ve_liarSet Ve_setCount Ve_against x22 x23 x24 x25 x26 x27 x28 x29 x30 x31 x32 x33 x34 x35 x36 x37 x38 x39 x40 x41 x42 x43 x44 x45 x46 x47 x48 x49 x50 x51 x52 x53 x54 x55 x56 x57 x58 Co_doubted Co_evening Co_carriedOut x62 Co_top Co_doubted_2 Co_evening_2 Co_carriedOut_2 Co_stack ++ t) Q := by
  unfold f_Main_eveningsUntilOneStory at h
  refine r_aload_n 0 dX9_eveningsUntilOneStory_0 rfl ?_
  refine r_getf (v := .ref (ad 74)) _ dX9_eveningsUntilOneStory_1 fl_X9_52 lX_0 rfl ?_
  refine r_aload_n 0 dX9_eveningsUntilOneStory_4 rfl ?_
  refine r_getf (v := .ref (ad 71)) _ dX9_eveningsUntilOneStory_5 fl_X9_48 lX_0 rfl ?_
  obtain ⟨r1204, hc1205, h⟩ := ob (fun z9 => z9) rfl h
  refine c_Vv (rest := []) 0 0 _ dX9_eveningsUntilOneStory_8 kv_X9_252 (ct_Co_copyFrom hc1205) rfl rfl lX_74 rfl (Nat.le_of_ble_eq_true rfl) (by decide) (by decide) ?_
  refine r_iconst (v := (0 : Int32)) dX9_eveningsUntilOneStory_11 (by decide) ?_
  refine r_istore_n [(1, .int (0 : Int32)), (0, .ref (ad 0))] dX9_eveningsUntilOneStory_12 (by decide) rfl ?_
  refine r_ls [1, 0] (ls2 := [(0, .ref (ad 0)), (1, .int (0 : Int32))]) rfl ?_
  have L1 : ∀ (n1 : Nat) (l1_1 : Int32) (Ve_judged_1 : Int32) (Ve_liarSet_1 : Int32) (Ve_setCount_1 : Int32) (Co_top_1 : Int32) (Co_doubted_2_1 : Int32) (Co_evening_2_1 : Int32) (Co_carriedOut_2_1 : Int32) (Co_stack_1 : Nat → Int32), (fun z9 => z9) (lpS (f_Main_eveningsUntilOneStory_L13 N Tap_tellerCount Cl_count Cl_tellers Cl_kinds Cl_events Cl_firsts Cl_lasts Or_count Or_doubts Or_tellers Or_ends Or_stepKinds Or_stepParts Ve_against) none n1 (l1_1, Ve_judged_1, Ve_liarSet_1, Ve_setCount_1, Co_top_1, Co_doubted_2_1, Co_evening_2_1, Co_carriedOut_2_1, Co_stack_1)) = some o → R g mX9_eveningsUntilOneStory 8 0 0 13 [(0, .ref (ad 0)), (1, .int l1_1)] [] (wlX g ad x0 x1 x2 x3 Tap_tellerCount Cl_count Cl_tellers Cl_kinds Cl_events Cl_firsts Cl_lasts Or_count x12 Or_doubts Or_tellers Or_ends Or_stepKinds Or_stepParts Ve_judged_1 Ve_liarSet_1 Ve_setCount_1 Ve_against x22 x23 x24 x25 x26 x27 x28 x29 x30 x31 x32 x33 x34 x35 x36 x37 x38 x39 x40 x41 x42 x43 x44 x45 x46 x47 x48 x49 x50 x51 x52 x53 x54 x55 x56 x57 x58 Co_doubted Co_evening Co_carriedOut x62 Co_top_1 Co_doubted_2_1 Co_evening_2_1 Co_carriedOut_2_1 Co_stack_1 ++ t) Q := by
    intro n1
    induction n1 with
    | zero => intro l1_1 Ve_judged_1 Ve_liarSet_1 Ve_setCount_1 Co_top_1 Co_doubted_2_1 Co_evening_2_1 Co_carriedOut_2_1 Co_stack_1 h; exact nomatch (show (none : Option _) = some _ from h)
    | succ n1 ih1 =>
      intro l1_1 Ve_judged_1 Ve_liarSet_1 Ve_setCount_1 Co_top_1 Co_doubted_2_1 Co_evening_2_1 Co_carriedOut_2_1 Co_stack_1 h
      have h : (fun z9 => (lC (f_Main_eveningsUntilOneStory_L13 N Tap_tellerCount Cl_count Cl_tellers Cl_kinds Cl_events Cl_firsts Cl_lasts Or_count Or_doubts Or_tellers Or_ends Or_stepKinds Or_stepParts Ve_against) none n1 z9)) (f_Main_eveningsUntilOneStory_L13 N Tap_tellerCount Cl_count Cl_tellers Cl_kinds Cl_events Cl_firsts Cl_lasts Or_count Or_doubts Or_tellers Or_ends Or_stepKinds Or_stepParts Ve_against (l1_1, Ve_judged_1, Ve_liarSet_1, Ve_setCount_1, Co_top_1, Co_doubted_2_1, Co_evening_2_1, Co_carriedOut_2_1, Co_stack_1)) = some o := h
      unfold f_Main_eveningsUntilOneStory_L13 at h
      try dsimp only at h
      refine r_iload_n 1 dX9_eveningsUntilOneStory_13 rfl ?_
      refine r_bipush (v := (30 : Int32)) dX9_eveningsUntilOneStory_14 (by decide) ?_
      refine r_icmp_ge (tgt := 51) dX9_eveningsUntilOneStory_16 (by decide) (fun hc1206 => ?_) (fun hc1206 => ?_)
      · have h := ip (fun z9 => (lC (f_Main_eveningsUntilOneStory_L13 N Tap_tellerCount Cl_count Cl_tellers Cl_kinds Cl_events Cl_firsts Cl_lasts Or_count Or_doubts Or_tellers Or_ends Or_stepKinds Or_stepParts Ve_against) none n1 z9)) hc1206 h
        refine r_aload_n 0 dX9_eveningsUntilOneStory_51 rfl ?_
        refine r_getf (v := .ref (ad 26)) _ dX9_eveningsUntilOneStory_52 fl_X9_39 lX_0 rfl ?_
        refine r_aload_n 0 dX9_eveningsUntilOneStory_55 rfl ?_
        refine r_getf (v := .ref (ad 74)) _ dX9_eveningsUntilOneStory_56 fl_X9_52 lX_0 rfl ?_
        refine r_getf (v := .int Co_doubted_2_1) _ dX9_eveningsUntilOneStory_59 fl_X9_162 lX_74 rfl ?_
        obtain ⟨r1207, hc1208, h⟩ := ob (fun z9 => (lC (f_Main_eveningsUntilOneStory_L13 N Tap_tellerCount Cl_count Cl_tellers Cl_kinds Cl_events Cl_firsts Cl_lasts Or_count Or_doubts Or_tellers Or_ends Or_stepKinds Or_stepParts Ve_against) none n1 z9)) rfl h
        refine c_V (rest := []) 0 0 _ dX9_eveningsUntilOneStory_62 kv_X9_179 (ct_Ve_liarSet hc1208) rfl rfl lX_26 rfl (Nat.le_of_ble_eq_true rfl) (by decide) (by decide) ?_
        refine r_if_ne (tgt := 73) dX9_eveningsUntilOneStory_65 (by decide) (fun hc1209 => ?_) (fun hc1209 => ?_)
        · have h := iq (fun z9 => (lC (f_Main_eveningsUntilOneStory_L13 N Tap_tellerCount Cl_count Cl_tellers Cl_kinds Cl_events Cl_firsts Cl_lasts Or_count Or_doubts Or_tellers Or_ends Or_stepKinds Or_stepParts Ve_against) none n1 z9)) hc1209 h
          refine r_iconst (v := (-1 : Int32)) dX9_eveningsUntilOneStory_73 (by decide) ?_
          refine r_iret dX9_eveningsUntilOneStory_74 rfl ?_
          have h := Option.some.inj (show some _ = some o from h)
          subst h
          exact hq
        · have h := ip (fun z9 => (lC (f_Main_eveningsUntilOneStory_L13 N Tap_tellerCount Cl_count Cl_tellers Cl_kinds Cl_events Cl_firsts Cl_lasts Or_count Or_doubts Or_tellers Or_ends Or_stepKinds Or_stepParts Ve_against) none n1 z9)) hc1209 h
          refine r_bipush (v := (30 : Int32)) dX9_eveningsUntilOneStory_68 (by decide) ?_
          refine r_goto (tgt := 74) dX9_eveningsUntilOneStory_70 (by decide) ?_
          refine r_iret dX9_eveningsUntilOneStory_74 rfl ?_
          have h := Option.some.inj (show some _ = some o from h)
          subst h
          exact hq
      · have h := iq (fun z9 => (lC (f_Main_eveningsUntilOneStory_L13 N Tap_tellerCount Cl_count Cl_tellers Cl_kinds Cl_events Cl_firsts Cl_lasts Or_count Or_doubts Or_tellers Or_ends Or_stepKinds Or_stepParts Ve_against) none n1 z9)) hc1206 h
        refine r_aload_n 0 dX9_eveningsUntilOneStory_19 rfl ?_
        refine r_getf (v := .ref (ad 26)) _ dX9_eveningsUntilOneStory_20 fl_X9_39 lX_0 rfl ?_
        refine r_aload_n 0 dX9_eveningsUntilOneStory_23 rfl ?_
        refine r_getf (v := .ref (ad 74)) _ dX9_eveningsUntilOneStory_24 fl_X9_52 lX_0 rfl ?_
        refine r_getf (v := .int Co_doubted_2_1) _ dX9_eveningsUntilOneStory_27 fl_X9_162 lX_74 rfl ?_
        obtain ⟨r1210, hc1211, h⟩ := ob (fun z9 => (lC (f_Main_eveningsUntilOneStory_L13 N Tap_tellerCount Cl_count Cl_tellers Cl_kinds Cl_events Cl_firsts Cl_lasts Or_count Or_doubts Or_tellers Or_ends Or_stepKinds Or_stepParts Ve_against) none n1 z9)) rfl h
        refine c_V (rest := []) 0 0 _ dX9_eveningsUntilOneStory_30 kv_X9_179 (ct_Ve_liarSet hc1211) rfl rfl lX_26 rfl (Nat.le_of_ble_eq_true rfl) (by decide) (by decide) ?_
        refine r_if_ne (tgt := 38) dX9_eveningsUntilOneStory_33 (by decide) (fun hc1212 => ?_) (fun hc1212 => ?_)
        · have h := iq (fun z9 => (lC (f_Main_eveningsUntilOneStory_L13 N Tap_tellerCount Cl_count Cl_tellers Cl_kinds Cl_events Cl_firsts Cl_lasts Or_count Or_doubts Or_tellers Or_ends Or_stepKinds Or_stepParts Ve_against) none n1 z9)) hc1212 h
          refine r_aload_n 0 dX9_eveningsUntilOneStory_38 rfl ?_
          refine r_getf (v := .ref (ad 74)) _ dX9_eveningsUntilOneStory_39 fl_X9_52 lX_0 rfl ?_
          obtain ⟨r1213, hc1214, h⟩ := ob (fun z9 => (lC (f_Main_eveningsUntilOneStory_L13 N Tap_tellerCount Cl_count Cl_tellers Cl_kinds Cl_events Cl_firsts Cl_lasts Or_count Or_doubts Or_tellers Or_ends Or_stepKinds Or_stepParts Ve_against) none n1 z9)) rfl h
          refine c_Vv (rest := []) 0 0 _ dX9_eveningsUntilOneStory_42 kv_X9_249 (ct_Co_passOne_i1 hc1214) rfl rfl lX_74 rfl (Nat.le_of_ble_eq_true rfl) (by decide) (by decide) ?_
          refine r_iinc (v2 := (l1_1 + (1 : Int32))) 1 [(1, .int (l1_1 + (1 : Int32))), (0, .ref (ad 0))] dX9_eveningsUntilOneStory_45 rfl rfl (by decide) rfl ?_
          refine r_goto (tgt := 13) dX9_eveningsUntilOneStory_48 (by decide) ?_
          refine r_ls [1, 0] (ls2 := [(0, .ref (ad 0)), (1, .int (l1_1 + (1 : Int32)))]) rfl ?_
          exact ih1 (l1_1 + (1 : Int32)) r1213.1 r1213.2.1 r1213.2.2.1 r1213.2.2.2.1 r1213.2.2.2.2.1 r1213.2.2.2.2.2.1 r1213.2.2.2.2.2.2.1 r1213.2.2.2.2.2.2.2 h
        · have h := ip (fun z9 => (lC (f_Main_eveningsUntilOneStory_L13 N Tap_tellerCount Cl_count Cl_tellers Cl_kinds Cl_events Cl_firsts Cl_lasts Or_count Or_doubts Or_tellers Or_ends Or_stepKinds Or_stepParts Ve_against) none n1 z9)) hc1212 h
          refine r_iload_n 1 dX9_eveningsUntilOneStory_36 rfl ?_
          refine r_iret dX9_eveningsUntilOneStory_37 rfl ?_
          have h := Option.some.inj (show some _ = some o from h)
          subst h
          exact hq
  exact L1 _ (0 : Int32) Ve_judged Ve_liarSet Ve_setCount Co_top r1204.1 r1204.2.1 r1204.2.2 Co_stack h
theorem ct_Main_eveningsUntilOneStory {g : GG} {ad : Nat → Nat} {t : va_W} {x0 x1 x3 x12 x24 x25 x26 x27 x28 x29 x30 x31 x37 x39 x40 x41 x47 x48 x54 x56 x58 : Int32} {x2 x22 x23 x33 x34 x35 x42 x43 x44 x45 x46 x49 x50 x51 x52 x53 x62 : Nat → Int32} {x32 : Int64} {x36 x38 x55 x57 : Nat → Int64} {N : Nat} {Tap_tellerCount : Int32} {Cl_count : Int32} {Cl_tellers : Nat → Int32} {Cl_kinds : Nat → Int32} {Cl_events : Nat → Int32} {Cl_firsts : Nat → Int32} {Cl_lasts : Nat → Int32} {Or_count : Int32} {Or_doubts : Nat → Int32} {Or_tellers : Nat → Int32} {Or_ends : Nat → Int32} {Or_stepKinds : Nat → Int32} {Or_stepParts : Nat → Int32} {Ve_judged : Int32} {Ve_liarSet : Int32} {Ve_setCount : Int32} {Ve_against : Nat → Int32} {Co_doubted : Int32} {Co_evening : Int32} {Co_carriedOut : Int32} {Co_top : Int32} {Co_doubted_2 : Int32} {Co_evening_2 : Int32} {Co_carriedOut_2 : Int32} {Co_stack : Nat → Int32} {o : Int32 × Int32 × Int32 × Int32 × Int32 × Int32 × Int32 × Int32 × (Nat → Int32)} (h : f_Main_eveningsUntilOneStory N Tap_tellerCount Cl_count Cl_tellers Cl_kinds Cl_events Cl_firsts Cl_lasts Or_count Or_doubts Or_tellers Or_ends Or_stepKinds Or_stepParts Ve_judged Ve_liarSet Ve_setCount Ve_against Co_doubted Co_evening Co_carriedOut Co_top Co_doubted_2 Co_evening_2 Co_carriedOut_2 Co_stack = some o) : Ct g mX9_eveningsUntilOneStory 8 0 0 [.ref (ad 0)] (wlX g ad x0 x1 x2 x3 Tap_tellerCount Cl_count Cl_tellers Cl_kinds Cl_events Cl_firsts Cl_lasts Or_count x12 Or_doubts Or_tellers Or_ends Or_stepKinds Or_stepParts Ve_judged Ve_liarSet Ve_setCount Ve_against x22 x23 x24 x25 x26 x27 x28 x29 x30 x31 x32 x33 x34 x35 x36 x37 x38 x39 x40 x41 x42 x43 x44 x45 x46 x47 x48 x49 x50 x51 x52 x53 x54 x55 x56 x57 x58 Co_doubted Co_evening Co_carriedOut x62 Co_top Co_doubted_2 Co_evening_2 Co_carriedOut_2 Co_stack ++ t) (Dv (some (.int o.1)) (wlX g ad x0 x1 x2 x3 Tap_tellerCount Cl_count Cl_tellers Cl_kinds Cl_events Cl_firsts Cl_lasts Or_count x12 Or_doubts Or_tellers Or_ends Or_stepKinds Or_stepParts o.2.1 o.2.2.1 o.2.2.2.1 Ve_against x22 x23 x24 x25 x26 x27 x28 x29 x30 x31 x32 x33 x34 x35 x36 x37 x38 x39 x40 x41 x42 x43 x44 x45 x46 x47 x48 x49 x50 x51 x52 x53 x54 x55 x56 x57 x58 Co_doubted Co_evening Co_carriedOut x62 o.2.2.2.2.1 o.2.2.2.2.2.1 o.2.2.2.2.2.2.1 o.2.2.2.2.2.2.2.1 o.2.2.2.2.2.2.2.2 ++ t)) := Ct.ofR (by decide +kernel) rfl (Nat.le_of_ble_eq_true rfl) (rt_Main_eveningsUntilOneStory h ⟨rfl, rfl⟩)
set_option maxRecDepth 20000 in
set_option maxHeartbeats 4000000 in
theorem rt_Main_bestToDoubt {g : GG} {ad : Nat → Nat} {t : va_W} {x0 x1 x3 x5 x11 x12 x18 x19 x20 x24 x25 x26 x27 x28 x29 x30 x31 x37 x39 x40 x41 x47 x48 x54 x56 x58 x60 x61 x63 x64 x65 x66 : Int32} {x2 x6 x7 x8 x9 x10 x13 x14 x15 x16 x17 x22 x23 x33 x34 x35 x42 x43 x44 x45 x46 x49 x50 x51 x52 x53 x62 x67 : Nat → Int32} {x32 : Int64} {x36 x38 x55 x57 : Nat → Int64} {N : Nat} {Tap_tellerCount : Int32} {Ve_against : Nat → Int32} {Co_doubted : Int32} {o : Int32} {Q : Rs → va_W → Prop} (h : f_Main_bestToDoubt N Tap_tellerCount Ve_against Co_doubted = some o) (hq : Q (.inl (some (.int o))) (wlX g ad x0 x1 x2 x3 Tap_tellerCount x5 x6 x7 x8 x9 x10 x11 x12 x13 x14 x15 x16 x17 x18 x19 x20 Ve_against x22 x23 x24 x25 x26 x27 x28 x29 x30 x31 x32 x33 x34 x35 x36 x37 x38 x39 x40 x41 x42 x43 x44 x45 x46 x47 x48 x49 x50 x51 x52 x53 x54 x55 x56 x57 x58 Co_doubted x60 x61 x62 x63 x64 x65 x66 x67 ++ t)) : R g mX9_bestToDoubt 3 0 0 0 [(0, .ref (ad 0))] [] (wlX g ad x0 x1 x2 x3 Tap_tellerCount x5 x6 x7 x8 x9 x10 x11 x12 x13 x14 x15 x16 x17 x18 x19 x20 Ve_against x22 x23 x24 x25 x26 x27 x28 x29 x30 x31 x32 x33 x34 x35 x36 x37 x38 x39 x40 x41 x42 x43 x44 x45 x46 x47 x48 x49 x50 x51 x52 x53 x54 x55 x56 x57 x58 Co_doubted x60 x61 x62 x63 x64 x65 x66 x67 ++ t) Q := by
  unfold f_Main_bestToDoubt at h
  refine r_iconst (v := (-1 : Int32)) dX9_bestToDoubt_0 (by decide) ?_
  refine r_istore_n [(1, .int (-1 : Int32)), (0, .ref (ad 0))] dX9_bestToDoubt_1 (by decide) rfl ?_
  refine r_aload_n 1 dX9_bestToDoubt_2 rfl ?_
  refine r_getf (v := .ref (ad 26)) _ dX9_bestToDoubt_3 fl_X9_39 lX_0 rfl ?_
  refine r_aload_n 1 dX9_bestToDoubt_6 rfl ?_
  refine r_getf (v := .ref (ad 71)) _ dX9_bestToDoubt_7 fl_X9_48 lX_0 rfl ?_
  refine r_getf (v := .int Co_doubted) _ dX9_bestToDoubt_10 fl_X9_162 lX_71 rfl ?_
  obtain ⟨r1215, hc1216, h⟩ := ob (fun z9 => z9) rfl h
  refine c_V (rest := []) 0 0 _ dX9_bestToDoubt_13 kv_X9_176 (ct_Ve_pairCount hc1216) rfl rfl lX_26 rfl (Nat.le_of_ble_eq_true rfl) (by decide) (by decide) ?_
  refine r_istore_n [(2, .int r1215), (1, .int (-1 : Int32)), (0, .ref (ad 0))] dX9_bestToDoubt_16 (by decide) rfl ?_
  refine r_iconst (v := (0 : Int32)) dX9_bestToDoubt_17 (by decide) ?_
  refine r_istore_n [(3, .int (0 : Int32)), (2, .int r1215), (1, .int (-1 : Int32)), (0, .ref (ad 0))] dX9_bestToDoubt_18 (by decide) rfl ?_
  refine r_ls [3, 2, 1, 0] (ls2 := [(0, .ref (ad 0)), (1, .int (-1 : Int32)), (2, .int r1215), (3, .int (0 : Int32))]) rfl ?_
  have L1 : ∀ (n1 : Nat) (l1_1 : Int32) (l2_1 : Int32) (l3_1 : Int32), (fun z9 => z9) (lpS (f_Main_bestToDoubt_L19 N Tap_tellerCount Ve_against Co_doubted) none n1 (l1_1, l2_1, l3_1)) = some o → R g mX9_bestToDoubt 3 0 0 19 [(0, .ref (ad 0)), (1, .int l1_1), (2, .int l2_1), (3, .int l3_1)] [] (wlX g ad x0 x1 x2 x3 Tap_tellerCount x5 x6 x7 x8 x9 x10 x11 x12 x13 x14 x15 x16 x17 x18 x19 x20 Ve_against x22 x23 x24 x25 x26 x27 x28 x29 x30 x31 x32 x33 x34 x35 x36 x37 x38 x39 x40 x41 x42 x43 x44 x45 x46 x47 x48 x49 x50 x51 x52 x53 x54 x55 x56 x57 x58 Co_doubted x60 x61 x62 x63 x64 x65 x66 x67 ++ t) Q := by
    intro n1
    induction n1 with
    | zero => intro l1_1 l2_1 l3_1 h; exact nomatch (show (none : Option _) = some _ from h)
    | succ n1 ih1 =>
      intro l1_1 l2_1 l3_1 h
      have h : (fun z9 => (lC (f_Main_bestToDoubt_L19 N Tap_tellerCount Ve_against Co_doubted) none n1 z9)) (f_Main_bestToDoubt_L19 N Tap_tellerCount Ve_against Co_doubted (l1_1, l2_1, l3_1)) = some o := h
      unfold f_Main_bestToDoubt_L19 at h
      try dsimp only at h
      refine r_iload_n 3 dX9_bestToDoubt_19 rfl ?_
      refine r_aload_n 0 dX9_bestToDoubt_20 rfl ?_
      refine r_getf (v := .ref (ad 3)) _ dX9_bestToDoubt_21 fl_X9_35 lX_0 rfl ?_
      refine r_getf (v := .int Tap_tellerCount) _ dX9_bestToDoubt_24 fl_X9_101 lX_3 rfl ?_
      refine r_icmp_ge (tgt := 67) dX9_bestToDoubt_27 (by decide) (fun hc1217 => ?_) (fun hc1217 => ?_)
      · have h := ip (fun z9 => (lC (f_Main_bestToDoubt_L19 N Tap_tellerCount Ve_against Co_doubted) none n1 z9)) hc1217 h
        refine r_iload_n 1 dX9_bestToDoubt_67 rfl ?_
        refine r_iret dX9_bestToDoubt_68 rfl ?_
        have h := Option.some.inj (show some _ = some o from h)
        subst h
        exact hq
      · have h := iq (fun z9 => (lC (f_Main_bestToDoubt_L19 N Tap_tellerCount Ve_against Co_doubted) none n1 z9)) hc1217 h
        refine r_aload_n 0 dX9_bestToDoubt_30 rfl ?_
        refine r_getf (v := .ref (ad 26)) _ dX9_bestToDoubt_31 fl_X9_39 lX_0 rfl ?_
        refine r_aload_n 0 dX9_bestToDoubt_34 rfl ?_
        refine r_getf (v := .ref (ad 71)) _ dX9_bestToDoubt_35 fl_X9_48 lX_0 rfl ?_
        refine r_getf (v := .int Co_doubted) _ dX9_bestToDoubt_38 fl_X9_162 lX_71 rfl ?_
        refine r_iconst (v := (1 : Int32)) dX9_bestToDoubt_41 (by decide) ?_
        refine r_iload_n 3 dX9_bestToDoubt_42 rfl ?_
        refine r_ishl dX9_bestToDoubt_43 ?_
        refine r_ior dX9_bestToDoubt_44 ?_
        obtain ⟨r1218, hc1219, h⟩ := ob (fun z9 => (lC (f_Main_bestToDoubt_L19 N Tap_tellerCount Ve_against Co_doubted) none n1 z9)) rfl h
        refine c_V (rest := []) 0 0 _ dX9_bestToDoubt_45 kv_X9_176 (ct_Ve_pairCount hc1219) rfl rfl lX_26 rfl (Nat.le_of_ble_eq_true rfl) (by decide) (by decide) ?_
        refine r_istore [(4, .int r1218), (0, .ref (ad 0)), (1, .int l1_1), (2, .int l2_1), (3, .int l3_1)] dX9_bestToDoubt_48 (by decide) rfl ?_
        refine r_iload 0 dX9_bestToDoubt_50 rfl ?_
        refine r_iload_n 3 dX9_bestToDoubt_52 rfl ?_
        refine r_icmp_ge (tgt := 61) dX9_bestToDoubt_53 (by decide) (fun hc1220 => ?_) (fun hc1220 => ?_)
        · have h := ip (fun z9 => (lC (f_Main_bestToDoubt_L19 N Tap_tellerCount Ve_against Co_doubted) none n1 z9)) hc1220 h
          refine r_iinc (v2 := (l3_1 + (1 : Int32))) 4 [(3, .int (l3_1 + (1 : Int32))), (4, .int r1218), (0, .ref (ad 0)), (1, .int l1_1), (2, .int l2_1)] dX9_bestToDoubt_61 rfl rfl (by decide) rfl ?_
          refine r_goto (tgt := 19) dX9_bestToDoubt_64 (by decide) ?_
          refine r_ls [2, 3, 4, 0] (ls2 := [(0, .ref (ad 0)), (1, .int l1_1), (2, .int l2_1), (3, .int (l3_1 + (1 : Int32)))]) rfl ?_
          exact ih1 l1_1 l2_1 (l3_1 + (1 : Int32)) h
        · have h := iq (fun z9 => (lC (f_Main_bestToDoubt_L19 N Tap_tellerCount Ve_against Co_doubted) none n1 z9)) hc1220 h
          refine r_iload 0 dX9_bestToDoubt_56 rfl ?_
          refine r_istore_n [(2, .int r1218), (4, .int r1218), (0, .ref (ad 0)), (1, .int l1_1), (3, .int l3_1)] dX9_bestToDoubt_58 (by decide) rfl ?_
          refine r_iload_n 4 dX9_bestToDoubt_59 rfl ?_
          refine r_istore_n [(1, .int l3_1), (2, .int r1218), (4, .int r1218), (0, .ref (ad 0)), (3, .int l3_1)] dX9_bestToDoubt_60 (by decide) rfl ?_
          refine r_iinc (v2 := (l3_1 + (1 : Int32))) 4 [(3, .int (l3_1 + (1 : Int32))), (1, .int l3_1), (2, .int r1218), (4, .int r1218), (0, .ref (ad 0))] dX9_bestToDoubt_61 rfl rfl (by decide) rfl ?_
          refine r_goto (tgt := 19) dX9_bestToDoubt_64 (by decide) ?_
          refine r_ls [4, 1, 2, 0] (ls2 := [(0, .ref (ad 0)), (1, .int l3_1), (2, .int r1218), (3, .int (l3_1 + (1 : Int32)))]) rfl ?_
          exact ih1 l3_1 r1218 (l3_1 + (1 : Int32)) h
  exact L1 _ (-1 : Int32) r1215 (0 : Int32) h
theorem ct_Main_bestToDoubt {g : GG} {ad : Nat → Nat} {t : va_W} {x0 x1 x3 x5 x11 x12 x18 x19 x20 x24 x25 x26 x27 x28 x29 x30 x31 x37 x39 x40 x41 x47 x48 x54 x56 x58 x60 x61 x63 x64 x65 x66 : Int32} {x2 x6 x7 x8 x9 x10 x13 x14 x15 x16 x17 x22 x23 x33 x34 x35 x42 x43 x44 x45 x46 x49 x50 x51 x52 x53 x62 x67 : Nat → Int32} {x32 : Int64} {x36 x38 x55 x57 : Nat → Int64} {N : Nat} {Tap_tellerCount : Int32} {Ve_against : Nat → Int32} {Co_doubted : Int32} {o : Int32} (h : f_Main_bestToDoubt N Tap_tellerCount Ve_against Co_doubted = some o) : Ct g mX9_bestToDoubt 3 0 0 [.ref (ad 0)] (wlX g ad x0 x1 x2 x3 Tap_tellerCount x5 x6 x7 x8 x9 x10 x11 x12 x13 x14 x15 x16 x17 x18 x19 x20 Ve_against x22 x23 x24 x25 x26 x27 x28 x29 x30 x31 x32 x33 x34 x35 x36 x37 x38 x39 x40 x41 x42 x43 x44 x45 x46 x47 x48 x49 x50 x51 x52 x53 x54 x55 x56 x57 x58 Co_doubted x60 x61 x62 x63 x64 x65 x66 x67 ++ t) (Dv (some (.int o)) (wlX g ad x0 x1 x2 x3 Tap_tellerCount x5 x6 x7 x8 x9 x10 x11 x12 x13 x14 x15 x16 x17 x18 x19 x20 Ve_against x22 x23 x24 x25 x26 x27 x28 x29 x30 x31 x32 x33 x34 x35 x36 x37 x38 x39 x40 x41 x42 x43 x44 x45 x46 x47 x48 x49 x50 x51 x52 x53 x54 x55 x56 x57 x58 Co_doubted x60 x61 x62 x63 x64 x65 x66 x67 ++ t)) := Ct.ofR (by decide +kernel) rfl (Nat.le_of_ble_eq_true rfl) (rt_Main_bestToDoubt h ⟨rfl, rfl⟩)
set_option maxRecDepth 20000 in
set_option maxHeartbeats 4000000 in
theorem rt_Main_meanClaims {g : GG} {ad : Nat → Nat} {t : va_W} {x0 x1 x3 x11 x12 x18 x19 x20 x24 x25 x26 x27 x28 x29 x30 x31 x37 x39 x40 x41 x47 x48 x54 x56 x58 x59 x60 x61 x63 x64 x65 x66 : Int32} {x2 x6 x7 x8 x9 x10 x13 x14 x15 x16 x17 x21 x22 x23 x33 x34 x35 x42 x43 x44 x45 x46 x49 x50 x51 x52 x53 x62 x67 : Nat → Int32} {x32 : Int64} {x36 x38 x55 x57 : Nat → Int64} {Tap_tellerCount : Int32} {Cl_count : Int32} {o : UInt64} {Q : Rs → va_W → Prop} (h : f_Main_meanClaims Tap_tellerCount Cl_count = some o) (hq : Q (.inl (some (.double o))) (wlX g ad x0 x1 x2 x3 Tap_tellerCount Cl_count x6 x7 x8 x9 x10 x11 x12 x13 x14 x15 x16 x17 x18 x19 x20 x21 x22 x23 x24 x25 x26 x27 x28 x29 x30 x31 x32 x33 x34 x35 x36 x37 x38 x39 x40 x41 x42 x43 x44 x45 x46 x47 x48 x49 x50 x51 x52 x53 x54 x55 x56 x57 x58 x59 x60 x61 x62 x63 x64 x65 x66 x67 ++ t)) : R g mX9_meanClaims 1 0 0 0 [(0, .ref (ad 0))] [] (wlX g ad x0 x1 x2 x3 Tap_tellerCount Cl_count x6 x7 x8 x9 x10 x11 x12 x13 x14 x15 x16 x17 x18 x19 x20 x21 x22 x23 x24 x25 x26 x27 x28 x29 x30 x31 x32 x33 x34 x35 x36 x37 x38 x39 x40 x41 x42 x43 x44 x45 x46 x47 x48 x49 x50 x51 x52 x53 x54 x55 x56 x57 x58 x59 x60 x61 x62 x63 x64 x65 x66 x67 ++ t) Q := by
  unfold f_Main_meanClaims at h
  refine r_aload_n 0 dX9_meanClaims_0 rfl ?_
  refine r_getf (v := .ref (ad 3)) _ dX9_meanClaims_1 fl_X9_35 lX_0 rfl ?_
  refine r_getf (v := .int Tap_tellerCount) _ dX9_meanClaims_4 fl_X9_101 lX_3 rfl ?_
  refine r_if_gt (tgt := 12) dX9_meanClaims_7 (by decide) (fun hc1221 => ?_) (fun hc1221 => ?_)
  · have h := ip (fun z9 => z9) hc1221 h
    refine r_aload_n 0 dX9_meanClaims_12 rfl ?_
    refine r_getf (v := .ref (ad 3)) _ dX9_meanClaims_13 fl_X9_35 lX_0 rfl ?_
    refine r_getf (v := .ref (ad 4)) _ dX9_meanClaims_16 fl_X9_104 lX_3 rfl ?_
    refine r_getf (v := .int Cl_count) _ dX9_meanClaims_19 fl_X9_108 lX_4 rfl ?_
    refine r_i2d dX9_meanClaims_22 ?_
    refine r_aload_n 0 dX9_meanClaims_23 rfl ?_
    refine r_getf (v := .ref (ad 3)) _ dX9_meanClaims_24 fl_X9_35 lX_0 rfl ?_
    refine r_getf (v := .int Tap_tellerCount) _ dX9_meanClaims_27 fl_X9_101 lX_3 rfl ?_
    refine r_i2d dX9_meanClaims_30 ?_
    obtain ⟨hb1222, h⟩ := gd (fun z9 => z9) rfl h
    refine r_ddiv dX9_meanClaims_31 (nfB_n hb1222) ?_
    refine r_dret dX9_meanClaims_32 rfl ?_
    have h := Option.some.inj (show some _ = some o from h)
    subst h
    exact hq
  · have h := iq (fun z9 => z9) hc1221 h
    refine r_dconst0 dX9_meanClaims_10 ?_
    refine r_dret dX9_meanClaims_11 rfl ?_
    have h := Option.some.inj (show some _ = some o from h)
    subst h
    exact hq
theorem ct_Main_meanClaims {g : GG} {ad : Nat → Nat} {t : va_W} {x0 x1 x3 x11 x12 x18 x19 x20 x24 x25 x26 x27 x28 x29 x30 x31 x37 x39 x40 x41 x47 x48 x54 x56 x58 x59 x60 x61 x63 x64 x65 x66 : Int32} {x2 x6 x7 x8 x9 x10 x13 x14 x15 x16 x17 x21 x22 x23 x33 x34 x35 x42 x43 x44 x45 x46 x49 x50 x51 x52 x53 x62 x67 : Nat → Int32} {x32 : Int64} {x36 x38 x55 x57 : Nat → Int64} {Tap_tellerCount : Int32} {Cl_count : Int32} {o : UInt64} (h : f_Main_meanClaims Tap_tellerCount Cl_count = some o) : Ct g mX9_meanClaims 1 0 0 [.ref (ad 0)] (wlX g ad x0 x1 x2 x3 Tap_tellerCount Cl_count x6 x7 x8 x9 x10 x11 x12 x13 x14 x15 x16 x17 x18 x19 x20 x21 x22 x23 x24 x25 x26 x27 x28 x29 x30 x31 x32 x33 x34 x35 x36 x37 x38 x39 x40 x41 x42 x43 x44 x45 x46 x47 x48 x49 x50 x51 x52 x53 x54 x55 x56 x57 x58 x59 x60 x61 x62 x63 x64 x65 x66 x67 ++ t) (Dv (some (.double o)) (wlX g ad x0 x1 x2 x3 Tap_tellerCount Cl_count x6 x7 x8 x9 x10 x11 x12 x13 x14 x15 x16 x17 x18 x19 x20 x21 x22 x23 x24 x25 x26 x27 x28 x29 x30 x31 x32 x33 x34 x35 x36 x37 x38 x39 x40 x41 x42 x43 x44 x45 x46 x47 x48 x49 x50 x51 x52 x53 x54 x55 x56 x57 x58 x59 x60 x61 x62 x63 x64 x65 x66 x67 ++ t)) := Ct.ofR (by decide +kernel) rfl (Nat.le_of_ble_eq_true rfl) (rt_Main_meanClaims h ⟨rfl, rfl⟩)
set_option maxRecDepth 20000 in
set_option maxHeartbeats 4000000 in
theorem rt_Main_digestClaims {g : GG} {ad : Nat → Nat} {t : va_W} {x0 x1 x3 x4 x11 x12 x18 x19 x20 x24 x25 x26 x27 x28 x29 x30 x31 x37 x39 x40 x41 x47 x48 x54 x56 x58 x59 x60 x61 x63 x64 x65 x66 : Int32} {x2 x9 x10 x13 x14 x15 x16 x17 x21 x22 x23 x33 x34 x35 x42 x43 x44 x45 x46 x49 x50 x51 x52 x53 x62 x67 : Nat → Int32} {x32 : Int64} {x36 x38 x55 x57 : Nat → Int64} {N : Nat} {Cl_count : Int32} {Cl_tellers : Nat → Int32} {Cl_kinds : Nat → Int32} {Cl_events : Nat → Int32} {p1 : Int64} {o : Int64} {Q : Rs → va_W → Prop} (h : f_Main_digestClaims N Cl_count Cl_tellers Cl_kinds Cl_events p1 = some o) (hq : Q (.inl (some (.long o))) (wlX g ad x0 x1 x2 x3 x4 Cl_count Cl_tellers Cl_kinds Cl_events x9 x10 x11 x12 x13 x14 x15 x16 x17 x18 x19 x20 x21 x22 x23 x24 x25 x26 x27 x28 x29 x30 x31 x32 x33 x34 x35 x36 x37 x38 x39 x40 x41 x42 x43 x44 x45 x46 x47 x48 x49 x50 x51 x52 x53 x54 x55 x56 x57 x58 x59 x60 x61 x62 x63 x64 x65 x66 x67 ++ t)) : R g mX9_digestClaims 2 0 0 0 [(0, .ref (ad 0)), (1, .long p1)] [] (wlX g ad x0 x1 x2 x3 x4 Cl_count Cl_tellers Cl_kinds Cl_events x9 x10 x11 x12 x13 x14 x15 x16 x17 x18 x19 x20 x21 x22 x23 x24 x25 x26 x27 x28 x29 x30 x31 x32 x33 x34 x35 x36 x37 x38 x39 x40 x41 x42 x43 x44 x45 x46 x47 x48 x49 x50 x51 x52 x53 x54 x55 x56 x57 x58 x59 x60 x61 x62 x63 x64 x65 x66 x67 ++ t) Q := by
  unfold f_Main_digestClaims at h
  refine r_lload_n 1 dX9_digestClaims_0 rfl ?_
  refine r_lstore_n [(3, .long p1), (0, .ref (ad 0)), (1, .long p1)] dX9_digestClaims_1 (by decide) rfl ?_
  refine r_iconst (v := (0 : Int32)) dX9_digestClaims_2 (by decide) ?_
  refine r_istore [(5, .int (0 : Int32)), (3, .long p1), (0, .ref (ad 0)), (1, .long p1)] dX9_digestClaims_3 (by decide) rfl ?_
  refine r_ls [2, 1, 0] (ls2 := [(0, .ref (ad 0)), (3, .long p1), (5, .int (0 : Int32))]) rfl ?_
  have L1 : ∀ (n1 : Nat) (l3_1 : Int64) (l5_1 : Int32), (fun z9 => z9) (lpS (f_Main_digestClaims_L5 Cl_count Cl_tellers Cl_kinds Cl_events) none n1 (l3_1, l5_1)) = some o → R g mX9_digestClaims 2 0 0 5 [(0, .ref (ad 0)), (3, .long l3_1), (5, .int l5_1)] [] (wlX g ad x0 x1 x2 x3 x4 Cl_count Cl_tellers Cl_kinds Cl_events x9 x10 x11 x12 x13 x14 x15 x16 x17 x18 x19 x20 x21 x22 x23 x24 x25 x26 x27 x28 x29 x30 x31 x32 x33 x34 x35 x36 x37 x38 x39 x40 x41 x42 x43 x44 x45 x46 x47 x48 x49 x50 x51 x52 x53 x54 x55 x56 x57 x58 x59 x60 x61 x62 x63 x64 x65 x66 x67 ++ t) Q := by
    intro n1
    induction n1 with
    | zero => intro l3_1 l5_1 h; exact nomatch (show (none : Option _) = some _ from h)
    | succ n1 ih1 =>
      intro l3_1 l5_1 h
      have h : (fun z9 => (lC (f_Main_digestClaims_L5 Cl_count Cl_tellers Cl_kinds Cl_events) none n1 z9)) (f_Main_digestClaims_L5 Cl_count Cl_tellers Cl_kinds Cl_events (l3_1, l5_1)) = some o := h
      unfold f_Main_digestClaims_L5 at h
      try dsimp only at h
      refine r_iload 2 dX9_digestClaims_5 rfl ?_
      refine r_aload_n 0 dX9_digestClaims_7 rfl ?_
      refine r_getf (v := .ref (ad 3)) _ dX9_digestClaims_8 fl_X9_35 lX_0 rfl ?_
      refine r_getf (v := .ref (ad 4)) _ dX9_digestClaims_11 fl_X9_104 lX_3 rfl ?_
      refine r_getf (v := .int Cl_count) _ dX9_digestClaims_14 fl_X9_108 lX_4 rfl ?_
      refine r_icmp_ge (tgt := 95) dX9_digestClaims_17 (by decide) (fun hc1223 => ?_) (fun hc1223 => ?_)
      · have h := ip (fun z9 => (lC (f_Main_digestClaims_L5 Cl_count Cl_tellers Cl_kinds Cl_events) none n1 z9)) hc1223 h
        refine r_lload_n 1 dX9_digestClaims_95 rfl ?_
        refine r_lret dX9_digestClaims_96 rfl ?_
        have h := Option.some.inj (show some _ = some o from h)
        subst h
        exact hq
      · have h := iq (fun z9 => (lC (f_Main_digestClaims_L5 Cl_count Cl_tellers Cl_kinds Cl_events) none n1 z9)) hc1223 h
        refine r_lload_n 1 dX9_digestClaims_20 rfl ?_
        refine r_ldc2 dX9_digestClaims_21 kk_870 ?_
        refine r_lmul dX9_digestClaims_24 ?_
        refine r_aload_n 0 dX9_digestClaims_25 rfl ?_
        refine r_getf (v := .ref (ad 3)) _ dX9_digestClaims_26 fl_X9_35 lX_0 rfl ?_
        refine r_getf (v := .ref (ad 4)) _ dX9_digestClaims_29 fl_X9_104 lX_3 rfl ?_
        refine r_getf (v := .ref (ad 5)) _ dX9_digestClaims_32 fl_X9_122 lX_4 rfl ?_
        refine r_iload 2 dX9_digestClaims_35 rfl ?_
        refine c_V (rest := [.long (l3_1 * (31 : Int64))]) 0 0 _ dX9_digestClaims_37 kv_X9_125 (ct_Row_get lX_5 lX_6 (Nat.le_of_ble_eq_true rfl)) rfl rfl lX_5 rfl (Nat.le_of_ble_eq_true rfl) (by decide) (by decide) ?_
        refine r_i2l dX9_digestClaims_40 ?_
        refine r_ladd dX9_digestClaims_41 ?_
        refine r_lstore_n [(3, .long ((l3_1 * (31 : Int64)) + (rget 40 Cl_tellers l5_1).toInt64)), (0, .ref (ad 0)), (5, .int l5_1)] dX9_digestClaims_42 (by decide) rfl ?_
        refine r_lload_n 0 dX9_digestClaims_43 rfl ?_
        refine r_ldc2 dX9_digestClaims_44 kk_870 ?_
        refine r_lmul dX9_digestClaims_47 ?_
        refine r_aload_n 1 dX9_digestClaims_48 rfl ?_
        refine r_getf (v := .ref (ad 3)) _ dX9_digestClaims_49 fl_X9_35 lX_0 rfl ?_
        refine r_getf (v := .ref (ad 4)) _ dX9_digestClaims_52 fl_X9_104 lX_3 rfl ?_
        refine r_getf (v := .ref (ad 7)) _ dX9_digestClaims_55 fl_X9_128 lX_4 rfl ?_
        refine r_iload 2 dX9_digestClaims_58 rfl ?_
        refine c_V (rest := [.long (((l3_1 * (31 : Int64)) + (rget 40 Cl_tellers l5_1).toInt64) * (31 : Int64))]) 0 0 _ dX9_digestClaims_60 kv_X9_125 (ct_Row_get lX_7 lX_8 (Nat.le_of_ble_eq_true rfl)) rfl rfl lX_7 rfl (Nat.le_of_ble_eq_true rfl) (by decide) (by decide) ?_
        refine r_i2l dX9_digestClaims_63 ?_
        refine r_ladd dX9_digestClaims_64 ?_
        refine r_lstore_n [(3, .long ((((l3_1 * (31 : Int64)) + (rget 40 Cl_tellers l5_1).toInt64) * (31 : Int64)) + (rget 40 Cl_kinds l5_1).toInt64)), (0, .ref (ad 0)), (5, .int l5_1)] dX9_digestClaims_65 (by decide) rfl ?_
        refine r_lload_n 0 dX9_digestClaims_66 rfl ?_
        refine r_ldc2 dX9_digestClaims_67 kk_870 ?_
        refine r_lmul dX9_digestClaims_70 ?_
        refine r_aload_n 1 dX9_digestClaims_71 rfl ?_
        refine r_getf (v := .ref (ad 3)) _ dX9_digestClaims_72 fl_X9_35 lX_0 rfl ?_
        refine r_getf (v := .ref (ad 4)) _ dX9_digestClaims_75 fl_X9_104 lX_3 rfl ?_
        refine r_getf (v := .ref (ad 9)) _ dX9_digestClaims_78 fl_X9_131 lX_4 rfl ?_
        refine r_iload 2 dX9_digestClaims_81 rfl ?_
        refine c_V (rest := [.long (((((l3_1 * (31 : Int64)) + (rget 40 Cl_tellers l5_1).toInt64) * (31 : Int64)) + (rget 40 Cl_kinds l5_1).toInt64) * (31 : Int64))]) 0 0 _ dX9_digestClaims_83 kv_X9_125 (ct_Row_get lX_9 lX_10 (Nat.le_of_ble_eq_true rfl)) rfl rfl lX_9 rfl (Nat.le_of_ble_eq_true rfl) (by decide) (by decide) ?_
        refine r_i2l dX9_digestClaims_86 ?_
        refine r_ladd dX9_digestClaims_87 ?_
        refine r_lstore_n [(3, .long ((((((l3_1 * (31 : Int64)) + (rget 40 Cl_tellers l5_1).toInt64) * (31 : Int64)) + (rget 40 Cl_kinds l5_1).toInt64) * (31 : Int64)) + (rget 40 Cl_events l5_1).toInt64)), (0, .ref (ad 0)), (5, .int l5_1)] dX9_digestClaims_88 (by decide) rfl ?_
        refine r_iinc (v2 := (l5_1 + (1 : Int32))) 2 [(5, .int (l5_1 + (1 : Int32))), (3, .long ((((((l3_1 * (31 : Int64)) + (rget 40 Cl_tellers l5_1).toInt64) * (31 : Int64)) + (rget 40 Cl_kinds l5_1).toInt64) * (31 : Int64)) + (rget 40 Cl_events l5_1).toInt64)), (0, .ref (ad 0))] dX9_digestClaims_89 rfl rfl (by decide) rfl ?_
        refine r_goto (tgt := 5) dX9_digestClaims_92 (by decide) ?_
        refine r_ls [2, 1, 0] (ls2 := [(0, .ref (ad 0)), (3, .long ((((((l3_1 * (31 : Int64)) + (rget 40 Cl_tellers l5_1).toInt64) * (31 : Int64)) + (rget 40 Cl_kinds l5_1).toInt64) * (31 : Int64)) + (rget 40 Cl_events l5_1).toInt64)), (5, .int (l5_1 + (1 : Int32)))]) rfl ?_
        exact ih1 ((((((l3_1 * (31 : Int64)) + (rget 40 Cl_tellers l5_1).toInt64) * (31 : Int64)) + (rget 40 Cl_kinds l5_1).toInt64) * (31 : Int64)) + (rget 40 Cl_events l5_1).toInt64) (l5_1 + (1 : Int32)) h
  exact L1 _ p1 (0 : Int32) h
theorem ct_Main_digestClaims {g : GG} {ad : Nat → Nat} {t : va_W} {x0 x1 x3 x4 x11 x12 x18 x19 x20 x24 x25 x26 x27 x28 x29 x30 x31 x37 x39 x40 x41 x47 x48 x54 x56 x58 x59 x60 x61 x63 x64 x65 x66 : Int32} {x2 x9 x10 x13 x14 x15 x16 x17 x21 x22 x23 x33 x34 x35 x42 x43 x44 x45 x46 x49 x50 x51 x52 x53 x62 x67 : Nat → Int32} {x32 : Int64} {x36 x38 x55 x57 : Nat → Int64} {N : Nat} {Cl_count : Int32} {Cl_tellers : Nat → Int32} {Cl_kinds : Nat → Int32} {Cl_events : Nat → Int32} {p1 : Int64} {o : Int64} (h : f_Main_digestClaims N Cl_count Cl_tellers Cl_kinds Cl_events p1 = some o) : Ct g mX9_digestClaims 2 0 0 [.ref (ad 0), .long p1] (wlX g ad x0 x1 x2 x3 x4 Cl_count Cl_tellers Cl_kinds Cl_events x9 x10 x11 x12 x13 x14 x15 x16 x17 x18 x19 x20 x21 x22 x23 x24 x25 x26 x27 x28 x29 x30 x31 x32 x33 x34 x35 x36 x37 x38 x39 x40 x41 x42 x43 x44 x45 x46 x47 x48 x49 x50 x51 x52 x53 x54 x55 x56 x57 x58 x59 x60 x61 x62 x63 x64 x65 x66 x67 ++ t) (Dv (some (.long o)) (wlX g ad x0 x1 x2 x3 x4 Cl_count Cl_tellers Cl_kinds Cl_events x9 x10 x11 x12 x13 x14 x15 x16 x17 x18 x19 x20 x21 x22 x23 x24 x25 x26 x27 x28 x29 x30 x31 x32 x33 x34 x35 x36 x37 x38 x39 x40 x41 x42 x43 x44 x45 x46 x47 x48 x49 x50 x51 x52 x53 x54 x55 x56 x57 x58 x59 x60 x61 x62 x63 x64 x65 x66 x67 ++ t)) := Ct.ofR (by decide +kernel) rfl (Nat.le_of_ble_eq_true rfl) (rt_Main_digestClaims h ⟨rfl, rfl⟩)
