set_option maxRecDepth 20000 in
set_option maxHeartbeats 4000000 in
theorem rt_L_feed {g : GG} {ad : Nat → Nat} {ao : Nat → Nat} {t : va_W} {x1 x3 x4 x5 x11 x12 x18 x19 x20 x24 x25 x26 x27 x28 x29 x30 x31 x37 x39 x40 x41 x47 x48 x54 x56 x58 x59 x60 x61 x63 x64 x65 x66 : Int32} {x6 x7 x8 x9 x10 x13 x14 x15 x16 x17 x21 x22 x23 x33 x34 x35 x42 x43 x44 x45 x46 x49 x50 x51 x52 x53 x62 x67 : Nat → Int32} {x32 : Int64} {x36 x38 x55 x57 : Nat → Int64} {N : Nat} {Main_tapeSize : Int32} {Main_tape : Nat → Int32} {L_out : Nat → Int64} {p1 : Int32} {p2 : Int32} {p3 : Int32} {p4 : Int32} {p5 : Int32} {o : Int32 × Int32 × (Nat → Int32) × (Nat → Int64)} {Q : Rs → va_W → Prop} (h : f_L_feed N Main_tapeSize Main_tape L_out p1 p2 p3 p4 p5 = some o) (hq : Q (.inl (some (.int o.1))) (wlX g ad o.2.1 x1 o.2.2.1 x3 x4 x5 x6 x7 x8 x9 x10 x11 x12 x13 x14 x15 x16 x17 x18 x19 x20 x21 x22 x23 x24 x25 x26 x27 x28 x29 x30 x31 x32 x33 x34 x35 x36 x37 x38 x39 x40 x41 x42 x43 x44 x45 x46 x47 x48 x49 x50 x51 x52 x53 x54 x55 x56 x57 x58 x59 x60 x61 x62 x63 x64 x65 x66 x67 ++ (wlO g ao o.2.2.2 ++ t))) : R g mL_feed 7 1 6 0 [(0, .ref (ad 0)), (1, .int p1), (2, .int p2), (3, .int p3), (4, .int p4), (5, .int p5), (6, .ref (ao 0))] [] (wlX g ad Main_tapeSize x1 Main_tape x3 x4 x5 x6 x7 x8 x9 x10 x11 x12 x13 x14 x15 x16 x17 x18 x19 x20 x21 x22 x23 x24 x25 x26 x27 x28 x29 x30 x31 x32 x33 x34 x35 x36 x37 x38 x39 x40 x41 x42 x43 x44 x45 x46 x47 x48 x49 x50 x51 x52 x53 x54 x55 x56 x57 x58 x59 x60 x61 x62 x63 x64 x65 x66 x67 ++ (wlO g ao L_out ++ t)) Q := by
  unfold f_L_feed at h
  refine r_aload 6 dL_feed_0 rfl ?_
  refine r_iconst (v := (0 : Int32)) dL_feed_2 (by decide) ?_
  refine r_aload_n 0 dL_feed_3 rfl ?_
  refine r_iload_n 1 dL_feed_4 rfl ?_
  refine r_iload_n 2 dL_feed_5 rfl ?_
  refine r_iload_n 3 dL_feed_6 rfl ?_
  refine r_iload 4 dL_feed_7 rfl ?_
  refine r_iload 5 dL_feed_9 rfl ?_
  obtain ⟨r2478, hc2479, h⟩ := ob (fun z9 => z9) rfl h
  rcases r2478 with q2480 | E2482
  · refine c_X (rest := [.int (0 : Int32), .ref (ao 0)]) 0 0 _ dL_feed_11 kv_L_7 (ct_Main_feed hc2479) rfl rfl lX_0 rfl (Nat.le_of_ble_eq_true rfl) (by decide) (by decide) ?_
    try dsimp only [Sum.elim_inl, Sum.elim_inr] at h
    refine r_i2l dL_feed_14 ?_
    refine r_last _ dL_feed_15 lO_0 (by decide) (sO_0 _) ?_
    refine r_goto (tgt := 23) dL_feed_16 (by decide) ?_
    refine r_iconst (v := (0 : Int32)) dL_feed_23 (by decide) ?_
    refine r_iret dL_feed_24 rfl ?_
    have h := Option.some.inj (show some _ = some o from h)
    subst h
    exact hq
  · refine c_Xt (rest := [.int (0 : Int32), .ref (ao 0)]) 0 0 _ dL_feed_11 kv_L_7 (ct_Main_feed hc2479) rfl rfl lX_0 rfl (Nat.le_of_ble_eq_true rfl) (by decide) (by decide) ?_
    have h : (fun z9 => z9) _ = some o := h
    by_cases hE0 : E2482 = "java/lang/IllegalStateException"
    · have h := ip (fun z9 => z9) hE0 h
      subst hE0
      refine rx_catch (pre := []) (z := { startPc := 0, endPc := 16, handlerPc := 19, catchType := 13 }) (suf := []) rfl (fun z hz => absurd hz List.not_mem_nil) (by decide) (by decide) kk_1012 kn_1019 (fun qx2483 => ?_)
      refine r_astore [(7, .ref qx2483), (0, .ref (ad 0)), (1, .int p1), (2, .int p2), (3, .int p3), (4, .int p4), (5, .int p5), (6, .ref (ao 0))] dL_feed_19 (by decide) rfl ?_
      refine r_iconst (v := (1 : Int32)) dL_feed_21 (by decide) ?_
      refine r_iret dL_feed_22 rfl ?_
      have h := Option.some.inj (show some _ = some o from h)
      subst h
      exact hq
    have h := iq (fun z9 => z9) hE0 h
    exact nomatch (show (none : Option _) = some _ from h)
theorem ct_L_feed {g : GG} {ad : Nat → Nat} {ao : Nat → Nat} {t : va_W} {x1 x3 x4 x5 x11 x12 x18 x19 x20 x24 x25 x26 x27 x28 x29 x30 x31 x37 x39 x40 x41 x47 x48 x54 x56 x58 x59 x60 x61 x63 x64 x65 x66 : Int32} {x6 x7 x8 x9 x10 x13 x14 x15 x16 x17 x21 x22 x23 x33 x34 x35 x42 x43 x44 x45 x46 x49 x50 x51 x52 x53 x62 x67 : Nat → Int32} {x32 : Int64} {x36 x38 x55 x57 : Nat → Int64} {N : Nat} {Main_tapeSize : Int32} {Main_tape : Nat → Int32} {L_out : Nat → Int64} {p1 : Int32} {p2 : Int32} {p3 : Int32} {p4 : Int32} {p5 : Int32} {o : Int32 × Int32 × (Nat → Int32) × (Nat → Int64)} (h : f_L_feed N Main_tapeSize Main_tape L_out p1 p2 p3 p4 p5 = some o) : Ct g mL_feed 7 1 6 [.ref (ad 0), .int p1, .int p2, .int p3, .int p4, .int p5, .ref (ao 0)] (wlX g ad Main_tapeSize x1 Main_tape x3 x4 x5 x6 x7 x8 x9 x10 x11 x12 x13 x14 x15 x16 x17 x18 x19 x20 x21 x22 x23 x24 x25 x26 x27 x28 x29 x30 x31 x32 x33 x34 x35 x36 x37 x38 x39 x40 x41 x42 x43 x44 x45 x46 x47 x48 x49 x50 x51 x52 x53 x54 x55 x56 x57 x58 x59 x60 x61 x62 x63 x64 x65 x66 x67 ++ (wlO g ao L_out ++ t)) (Dv (some (.int o.1)) (wlX g ad o.2.1 x1 o.2.2.1 x3 x4 x5 x6 x7 x8 x9 x10 x11 x12 x13 x14 x15 x16 x17 x18 x19 x20 x21 x22 x23 x24 x25 x26 x27 x28 x29 x30 x31 x32 x33 x34 x35 x36 x37 x38 x39 x40 x41 x42 x43 x44 x45 x46 x47 x48 x49 x50 x51 x52 x53 x54 x55 x56 x57 x58 x59 x60 x61 x62 x63 x64 x65 x66 x67 ++ (wlO g ao o.2.2.2 ++ t))) := Ct.ofRH (by decide +kernel) (by decide) (Nat.le_of_ble_eq_true rfl) (rt_L_feed h ⟨rfl, rfl⟩)
set_option maxRecDepth 20000 in
set_option maxHeartbeats 4000000 in
theorem rt_L_trim {g : GG} {ad : Nat → Nat} {ao : Nat → Nat} {t : va_W} {x1 x3 x4 x5 x11 x12 x18 x19 x20 x24 x25 x26 x27 x28 x29 x30 x31 x37 x39 x40 x41 x47 x48 x54 x56 x58 x59 x60 x61 x63 x64 x65 x66 : Int32} {x2 x6 x7 x8 x9 x10 x13 x14 x15 x16 x17 x21 x22 x23 x33 x34 x35 x42 x43 x44 x45 x46 x49 x50 x51 x52 x53 x62 x67 : Nat → Int32} {x32 : Int64} {x36 x38 x55 x57 : Nat → Int64} {Main_tapeSize : Int32} {L_out : Nat → Int64} {p1 : Int32} {o : Int32 × Int32 × (Nat → Int64)} {Q : Rs → va_W → Prop} (h : f_L_trim Main_tapeSize L_out p1 = some o) (hq : Q (.inl (some (.int o.1))) (wlX g ad o.2.1 x1 x2 x3 x4 x5 x6 x7 x8 x9 x10 x11 x12 x13 x14 x15 x16 x17 x18 x19 x20 x21 x22 x23 x24 x25 x26 x27 x28 x29 x30 x31 x32 x33 x34 x35 x36 x37 x38 x39 x40 x41 x42 x43 x44 x45 x46 x47 x48 x49 x50 x51 x52 x53 x54 x55 x56 x57 x58 x59 x60 x61 x62 x63 x64 x65 x66 x67 ++ (wlO g ao o.2.2 ++ t))) : R g mL_trim 7 1 6 0 [(0, .ref (ad 0)), (1, .int p1), (2, .ref (ao 0))] [] (wlX g ad Main_tapeSize x1 x2 x3 x4 x5 x6 x7 x8 x9 x10 x11 x12 x13 x14 x15 x16 x17 x18 x19 x20 x21 x22 x23 x24 x25 x26 x27 x28 x29 x30 x31 x32 x33 x34 x35 x36 x37 x38 x39 x40 x41 x42 x43 x44 x45 x46 x47 x48 x49 x50 x51 x52 x53 x54 x55 x56 x57 x58 x59 x60 x61 x62 x63 x64 x65 x66 x67 ++ (wlO g ao L_out ++ t)) Q := by
  unfold f_L_trim at h
  refine r_aload_n 2 dL_trim_0 rfl ?_
  refine r_iconst (v := (0 : Int32)) dL_trim_1 (by decide) ?_
  refine r_aload_n 0 dL_trim_2 rfl ?_
  refine r_iload_n 1 dL_trim_3 rfl ?_
  obtain ⟨r2484, hc2485, h⟩ := ob (fun z9 => z9) rfl h
  rcases r2484 with q2486 | E2488
  · refine c_X (rest := [.int (0 : Int32), .ref (ao 0)]) 0 0 _ dL_trim_4 kv_L_15 (ct_Main_trim hc2485) rfl rfl lX_0 rfl (Nat.le_of_ble_eq_true rfl) (by decide) (by decide) ?_
    try dsimp only [Sum.elim_inl, Sum.elim_inr] at h
    refine r_i2l dL_trim_7 ?_
    refine r_last _ dL_trim_8 lO_0 (by decide) (sO_0 _) ?_
    refine r_goto (tgt := 15) dL_trim_9 (by decide) ?_
    refine r_iconst (v := (0 : Int32)) dL_trim_15 (by decide) ?_
    refine r_iret dL_trim_16 rfl ?_
    have h := Option.some.inj (show some _ = some o from h)
    subst h
    exact hq
  · refine c_Xt (rest := [.int (0 : Int32), .ref (ao 0)]) 0 0 _ dL_trim_4 kv_L_15 (ct_Main_trim hc2485) rfl rfl lX_0 rfl (Nat.le_of_ble_eq_true rfl) (by decide) (by decide) ?_
    have h : (fun z9 => z9) _ = some o := h
    by_cases hE0 : E2488 = "java/lang/IllegalArgumentException"
    · have h := ip (fun z9 => z9) hE0 h
      subst hE0
      refine rx_catch (pre := []) (z := { startPc := 0, endPc := 9, handlerPc := 12, catchType := 19 }) (suf := []) rfl (fun z hz => absurd hz List.not_mem_nil) (by decide) (by decide) kk_1092 kn_1099 (fun qx2489 => ?_)
      refine r_astore_n [(3, .ref qx2489), (0, .ref (ad 0)), (1, .int p1), (2, .ref (ao 0))] dL_trim_12 (by decide) rfl ?_
      refine r_iconst (v := (1 : Int32)) dL_trim_13 (by decide) ?_
      refine r_iret dL_trim_14 rfl ?_
      have h := Option.some.inj (show some _ = some o from h)
      subst h
      exact hq
    have h := iq (fun z9 => z9) hE0 h
    exact nomatch (show (none : Option _) = some _ from h)
theorem ct_L_trim {g : GG} {ad : Nat → Nat} {ao : Nat → Nat} {t : va_W} {x1 x3 x4 x5 x11 x12 x18 x19 x20 x24 x25 x26 x27 x28 x29 x30 x31 x37 x39 x40 x41 x47 x48 x54 x56 x58 x59 x60 x61 x63 x64 x65 x66 : Int32} {x2 x6 x7 x8 x9 x10 x13 x14 x15 x16 x17 x21 x22 x23 x33 x34 x35 x42 x43 x44 x45 x46 x49 x50 x51 x52 x53 x62 x67 : Nat → Int32} {x32 : Int64} {x36 x38 x55 x57 : Nat → Int64} {Main_tapeSize : Int32} {L_out : Nat → Int64} {p1 : Int32} {o : Int32 × Int32 × (Nat → Int64)} (h : f_L_trim Main_tapeSize L_out p1 = some o) : Ct g mL_trim 7 1 6 [.ref (ad 0), .int p1, .ref (ao 0)] (wlX g ad Main_tapeSize x1 x2 x3 x4 x5 x6 x7 x8 x9 x10 x11 x12 x13 x14 x15 x16 x17 x18 x19 x20 x21 x22 x23 x24 x25 x26 x27 x28 x29 x30 x31 x32 x33 x34 x35 x36 x37 x38 x39 x40 x41 x42 x43 x44 x45 x46 x47 x48 x49 x50 x51 x52 x53 x54 x55 x56 x57 x58 x59 x60 x61 x62 x63 x64 x65 x66 x67 ++ (wlO g ao L_out ++ t)) (Dv (some (.int o.1)) (wlX g ad o.2.1 x1 x2 x3 x4 x5 x6 x7 x8 x9 x10 x11 x12 x13 x14 x15 x16 x17 x18 x19 x20 x21 x22 x23 x24 x25 x26 x27 x28 x29 x30 x31 x32 x33 x34 x35 x36 x37 x38 x39 x40 x41 x42 x43 x44 x45 x46 x47 x48 x49 x50 x51 x52 x53 x54 x55 x56 x57 x58 x59 x60 x61 x62 x63 x64 x65 x66 x67 ++ (wlO g ao o.2.2 ++ t))) := Ct.ofRH (by decide +kernel) (by decide) (Nat.le_of_ble_eq_true rfl) (rt_L_trim h ⟨rfl, rfl⟩)
set_option maxRecDepth 20000 in
set_option maxHeartbeats 4000000 in
theorem rt_L_tellerOf {g : GG} {ad : Nat → Nat} {ao : Nat → Nat} {t : va_W} {x0 x1 x3 x4 x11 x12 x18 x19 x20 x24 x25 x26 x27 x28 x29 x30 x31 x37 x39 x40 x41 x47 x48 x54 x56 x58 x59 x60 x61 x63 x64 x65 x66 : Int32} {x2 x7 x8 x9 x10 x13 x14 x15 x16 x17 x21 x22 x23 x33 x34 x35 x42 x43 x44 x45 x46 x49 x50 x51 x52 x53 x62 x67 : Nat → Int32} {x32 : Int64} {x36 x38 x55 x57 : Nat → Int64} {Cl_count : Int32} {Cl_tellers : Nat → Int32} {L_out : Nat → Int64} {p1 : Int32} {o : Int32 × (Nat → Int64)} {Q : Rs → va_W → Prop} (h : f_L_tellerOf Cl_count Cl_tellers L_out p1 = some o) (hq : Q (.inl (some (.int o.1))) (wlX g ad x0 x1 x2 x3 x4 Cl_count Cl_tellers x7 x8 x9 x10 x11 x12 x13 x14 x15 x16 x17 x18 x19 x20 x21 x22 x23 x24 x25 x26 x27 x28 x29 x30 x31 x32 x33 x34 x35 x36 x37 x38 x39 x40 x41 x42 x43 x44 x45 x46 x47 x48 x49 x50 x51 x52 x53 x54 x55 x56 x57 x58 x59 x60 x61 x62 x63 x64 x65 x66 x67 ++ (wlO g ao o.2 ++ t))) : R g mL_tellerOf 8 1 6 0 [(0, .ref (ad 0)), (1, .int p1), (2, .ref (ao 0))] [] (wlX g ad x0 x1 x2 x3 x4 Cl_count Cl_tellers x7 x8 x9 x10 x11 x12 x13 x14 x15 x16 x17 x18 x19 x20 x21 x22 x23 x24 x25 x26 x27 x28 x29 x30 x31 x32 x33 x34 x35 x36 x37 x38 x39 x40 x41 x42 x43 x44 x45 x46 x47 x48 x49 x50 x51 x52 x53 x54 x55 x56 x57 x58 x59 x60 x61 x62 x63 x64 x65 x66 x67 ++ (wlO g ao L_out ++ t)) Q := by
  unfold f_L_tellerOf at h
  refine r_aload_n 2 dL_tellerOf_0 rfl ?_
  refine r_iconst (v := (0 : Int32)) dL_tellerOf_1 (by decide) ?_
  refine r_aload_n 0 dL_tellerOf_2 rfl ?_
  refine r_iload_n 1 dL_tellerOf_3 rfl ?_
  obtain ⟨r2490, hc2491, h⟩ := ob (fun z9 => z9) rfl h
  rcases r2490 with q2492 | E2494
  · refine c_X (rest := [.int (0 : Int32), .ref (ao 0)]) 0 0 _ dL_tellerOf_4 kv_L_21 (ct_Main_tellerOf hc2491) rfl rfl lX_0 rfl (Nat.le_of_ble_eq_true rfl) (by decide) (by decide) ?_
    try dsimp only [Sum.elim_inl, Sum.elim_inr] at h
    refine r_i2l dL_tellerOf_7 ?_
    refine r_last _ dL_tellerOf_8 lO_0 (by decide) (sO_0 _) ?_
    refine r_goto (tgt := 15) dL_tellerOf_9 (by decide) ?_
    refine r_iconst (v := (0 : Int32)) dL_tellerOf_15 (by decide) ?_
    refine r_iret dL_tellerOf_16 rfl ?_
    have h := Option.some.inj (show some _ = some o from h)
    subst h
    exact hq
  · refine c_Xt (rest := [.int (0 : Int32), .ref (ao 0)]) 0 0 _ dL_tellerOf_4 kv_L_21 (ct_Main_tellerOf hc2491) rfl rfl lX_0 rfl (Nat.le_of_ble_eq_true rfl) (by decide) (by decide) ?_
    have h : (fun z9 => z9) _ = some o := h
    by_cases hE0 : E2494 = "java/lang/IndexOutOfBoundsException"
    · have h := ip (fun z9 => z9) hE0 h
      subst hE0
      refine rx_catch (pre := []) (z := { startPc := 0, endPc := 9, handlerPc := 12, catchType := 24 }) (suf := []) rfl (fun z hz => absurd hz List.not_mem_nil) (by decide) (by decide) kk_1116 kn_1127 (fun qx2495 => ?_)
      refine r_astore_n [(3, .ref qx2495), (0, .ref (ad 0)), (1, .int p1), (2, .ref (ao 0))] dL_tellerOf_12 (by decide) rfl ?_
      refine r_iconst (v := (1 : Int32)) dL_tellerOf_13 (by decide) ?_
      refine r_iret dL_tellerOf_14 rfl ?_
      have h := Option.some.inj (show some _ = some o from h)
      subst h
      exact hq
    have h := iq (fun z9 => z9) hE0 h
    exact nomatch (show (none : Option _) = some _ from h)
theorem ct_L_tellerOf {g : GG} {ad : Nat → Nat} {ao : Nat → Nat} {t : va_W} {x0 x1 x3 x4 x11 x12 x18 x19 x20 x24 x25 x26 x27 x28 x29 x30 x31 x37 x39 x40 x41 x47 x48 x54 x56 x58 x59 x60 x61 x63 x64 x65 x66 : Int32} {x2 x7 x8 x9 x10 x13 x14 x15 x16 x17 x21 x22 x23 x33 x34 x35 x42 x43 x44 x45 x46 x49 x50 x51 x52 x53 x62 x67 : Nat → Int32} {x32 : Int64} {x36 x38 x55 x57 : Nat → Int64} {Cl_count : Int32} {Cl_tellers : Nat → Int32} {L_out : Nat → Int64} {p1 : Int32} {o : Int32 × (Nat → Int64)} (h : f_L_tellerOf Cl_count Cl_tellers L_out p1 = some o) : Ct g mL_tellerOf 8 1 6 [.ref (ad 0), .int p1, .ref (ao 0)] (wlX g ad x0 x1 x2 x3 x4 Cl_count Cl_tellers x7 x8 x9 x10 x11 x12 x13 x14 x15 x16 x17 x18 x19 x20 x21 x22 x23 x24 x25 x26 x27 x28 x29 x30 x31 x32 x33 x34 x35 x36 x37 x38 x39 x40 x41 x42 x43 x44 x45 x46 x47 x48 x49 x50 x51 x52 x53 x54 x55 x56 x57 x58 x59 x60 x61 x62 x63 x64 x65 x66 x67 ++ (wlO g ao L_out ++ t)) (Dv (some (.int o.1)) (wlX g ad x0 x1 x2 x3 x4 Cl_count Cl_tellers x7 x8 x9 x10 x11 x12 x13 x14 x15 x16 x17 x18 x19 x20 x21 x22 x23 x24 x25 x26 x27 x28 x29 x30 x31 x32 x33 x34 x35 x36 x37 x38 x39 x40 x41 x42 x43 x44 x45 x46 x47 x48 x49 x50 x51 x52 x53 x54 x55 x56 x57 x58 x59 x60 x61 x62 x63 x64 x65 x66 x67 ++ (wlO g ao o.2 ++ t))) := Ct.ofRH (by decide +kernel) (by decide) (Nat.le_of_ble_eq_true rfl) (rt_L_tellerOf h ⟨rfl, rfl⟩)
set_option maxRecDepth 20000 in
set_option maxHeartbeats 4000000 in
theorem rt_L_kindOf {g : GG} {ad : Nat → Nat} {ao : Nat → Nat} {t : va_W} {x0 x1 x3 x4 x11 x12 x18 x19 x20 x24 x25 x26 x27 x28 x29 x30 x31 x37 x39 x40 x41 x47 x48 x54 x56 x58 x59 x60 x61 x63 x64 x65 x66 : Int32} {x2 x6 x8 x9 x10 x13 x14 x15 x16 x17 x21 x22 x23 x33 x34 x35 x42 x43 x44 x45 x46 x49 x50 x51 x52 x53 x62 x67 : Nat → Int32} {x32 : Int64} {x36 x38 x55 x57 : Nat → Int64} {Cl_count : Int32} {Cl_kinds : Nat → Int32} {L_out : Nat → Int64} {p1 : Int32} {o : Int32 × (Nat → Int64)} {Q : Rs → va_W → Prop} (h : f_L_kindOf Cl_count Cl_kinds L_out p1 = some o) (hq : Q (.inl (some (.int o.1))) (wlX g ad x0 x1 x2 x3 x4 Cl_count x6 Cl_kinds x8 x9 x10 x11 x12 x13 x14 x15 x16 x17 x18 x19 x20 x21 x22 x23 x24 x25 x26 x27 x28 x29 x30 x31 x32 x33 x34 x35 x36 x37 x38 x39 x40 x41 x42 x43 x44 x45 x46 x47 x48 x49 x50 x51 x52 x53 x54 x55 x56 x57 x58 x59 x60 x61 x62 x63 x64 x65 x66 x67 ++ (wlO g ao o.2 ++ t))) : R g mL_kindOf 8 1 6 0 [(0, .ref (ad 0)), (1, .int p1), (2, .ref (ao 0))] [] (wlX g ad x0 x1 x2 x3 x4 Cl_count x6 Cl_kinds x8 x9 x10 x11 x12 x13 x14 x15 x16 x17 x18 x19 x20 x21 x22 x23 x24 x25 x26 x27 x28 x29 x30 x31 x32 x33 x34 x35 x36 x37 x38 x39 x40 x41 x42 x43 x44 x45 x46 x47 x48 x49 x50 x51 x52 x53 x54 x55 x56 x57 x58 x59 x60 x61 x62 x63 x64 x65 x66 x67 ++ (wlO g ao L_out ++ t)) Q := by
  unfold f_L_kindOf at h
  refine r_aload_n 2 dL_kindOf_0 rfl ?_
  refine r_iconst (v := (0 : Int32)) dL_kindOf_1 (by decide) ?_
  refine r_aload_n 0 dL_kindOf_2 rfl ?_
  refine r_iload_n 1 dL_kindOf_3 rfl ?_
  obtain ⟨r2496, hc2497, h⟩ := ob (fun z9 => z9) rfl h
  rcases r2496 with q2498 | E2500
  · refine c_X (rest := [.int (0 : Int32), .ref (ao 0)]) 0 0 _ dL_kindOf_4 kv_L_26 (ct_Main_kindOf hc2497) rfl rfl lX_0 rfl (Nat.le_of_ble_eq_true rfl) (by decide) (by decide) ?_
    try dsimp only [Sum.elim_inl, Sum.elim_inr] at h
    refine r_i2l dL_kindOf_7 ?_
    refine r_last _ dL_kindOf_8 lO_0 (by decide) (sO_0 _) ?_
    refine r_goto (tgt := 15) dL_kindOf_9 (by decide) ?_
    refine r_iconst (v := (0 : Int32)) dL_kindOf_15 (by decide) ?_
    refine r_iret dL_kindOf_16 rfl ?_
    have h := Option.some.inj (show some _ = some o from h)
    subst h
    exact hq
  · refine c_Xt (rest := [.int (0 : Int32), .ref (ao 0)]) 0 0 _ dL_kindOf_4 kv_L_26 (ct_Main_kindOf hc2497) rfl rfl lX_0 rfl (Nat.le_of_ble_eq_true rfl) (by decide) (by decide) ?_
    have h : (fun z9 => z9) _ = some o := h
    by_cases hE0 : E2500 = "java/lang/IndexOutOfBoundsException"
    · have h := ip (fun z9 => z9) hE0 h
      subst hE0
      refine rx_catch (pre := []) (z := { startPc := 0, endPc := 9, handlerPc := 12, catchType := 24 }) (suf := []) rfl (fun z hz => absurd hz List.not_mem_nil) (by decide) (by decide) kk_1116 kn_1127 (fun qx2501 => ?_)
      refine r_astore_n [(3, .ref qx2501), (0, .ref (ad 0)), (1, .int p1), (2, .ref (ao 0))] dL_kindOf_12 (by decide) rfl ?_
      refine r_iconst (v := (1 : Int32)) dL_kindOf_13 (by decide) ?_
      refine r_iret dL_kindOf_14 rfl ?_
      have h := Option.some.inj (show some _ = some o from h)
      subst h
      exact hq
    have h := iq (fun z9 => z9) hE0 h
    exact nomatch (show (none : Option _) = some _ from h)
theorem ct_L_kindOf {g : GG} {ad : Nat → Nat} {ao : Nat → Nat} {t : va_W} {x0 x1 x3 x4 x11 x12 x18 x19 x20 x24 x25 x26 x27 x28 x29 x30 x31 x37 x39 x40 x41 x47 x48 x54 x56 x58 x59 x60 x61 x63 x64 x65 x66 : Int32} {x2 x6 x8 x9 x10 x13 x14 x15 x16 x17 x21 x22 x23 x33 x34 x35 x42 x43 x44 x45 x46 x49 x50 x51 x52 x53 x62 x67 : Nat → Int32} {x32 : Int64} {x36 x38 x55 x57 : Nat → Int64} {Cl_count : Int32} {Cl_kinds : Nat → Int32} {L_out : Nat → Int64} {p1 : Int32} {o : Int32 × (Nat → Int64)} (h : f_L_kindOf Cl_count Cl_kinds L_out p1 = some o) : Ct g mL_kindOf 8 1 6 [.ref (ad 0), .int p1, .ref (ao 0)] (wlX g ad x0 x1 x2 x3 x4 Cl_count x6 Cl_kinds x8 x9 x10 x11 x12 x13 x14 x15 x16 x17 x18 x19 x20 x21 x22 x23 x24 x25 x26 x27 x28 x29 x30 x31 x32 x33 x34 x35 x36 x37 x38 x39 x40 x41 x42 x43 x44 x45 x46 x47 x48 x49 x50 x51 x52 x53 x54 x55 x56 x57 x58 x59 x60 x61 x62 x63 x64 x65 x66 x67 ++ (wlO g ao L_out ++ t)) (Dv (some (.int o.1)) (wlX g ad x0 x1 x2 x3 x4 Cl_count x6 Cl_kinds x8 x9 x10 x11 x12 x13 x14 x15 x16 x17 x18 x19 x20 x21 x22 x23 x24 x25 x26 x27 x28 x29 x30 x31 x32 x33 x34 x35 x36 x37 x38 x39 x40 x41 x42 x43 x44 x45 x46 x47 x48 x49 x50 x51 x52 x53 x54 x55 x56 x57 x58 x59 x60 x61 x62 x63 x64 x65 x66 x67 ++ (wlO g ao o.2 ++ t))) := Ct.ofRH (by decide +kernel) (by decide) (Nat.le_of_ble_eq_true rfl) (rt_L_kindOf h ⟨rfl, rfl⟩)
set_option maxRecDepth 20000 in
set_option maxHeartbeats 4000000 in
theorem rt_L_eventOf {g : GG} {ad : Nat → Nat} {ao : Nat → Nat} {t : va_W} {x0 x1 x3 x4 x11 x12 x18 x19 x20 x24 x25 x26 x27 x28 x29 x30 x31 x37 x39 x40 x41 x47 x48 x54 x56 x58 x59 x60 x61 x63 x64 x65 x66 : Int32} {x2 x6 x7 x9 x10 x13 x14 x15 x16 x17 x21 x22 x23 x33 x34 x35 x42 x43 x44 x45 x46 x49 x50 x51 x52 x53 x62 x67 : Nat → Int32} {x32 : Int64} {x36 x38 x55 x57 : Nat → Int64} {Cl_count : Int32} {Cl_events : Nat → Int32} {L_out : Nat → Int64} {p1 : Int32} {o : Int32 × (Nat → Int64)} {Q : Rs → va_W → Prop} (h : f_L_eventOf Cl_count Cl_events L_out p1 = some o) (hq : Q (.inl (some (.int o.1))) (wlX g ad x0 x1 x2 x3 x4 Cl_count x6 x7 Cl_events x9 x10 x11 x12 x13 x14 x15 x16 x17 x18 x19 x20 x21 x22 x23 x24 x25 x26 x27 x28 x29 x30 x31 x32 x33 x34 x35 x36 x37 x38 x39 x40 x41 x42 x43 x44 x45 x46 x47 x48 x49 x50 x51 x52 x53 x54 x55 x56 x57 x58 x59 x60 x61 x62 x63 x64 x65 x66 x67 ++ (wlO g ao o.2 ++ t))) : R g mL_eventOf 8 1 6 0 [(0, .ref (ad 0)), (1, .int p1), (2, .ref (ao 0))] [] (wlX g ad x0 x1 x2 x3 x4 Cl_count x6 x7 Cl_events x9 x10 x11 x12 x13 x14 x15 x16 x17 x18 x19 x20 x21 x22 x23 x24 x25 x26 x27 x28 x29 x30 x31 x32 x33 x34 x35 x36 x37 x38 x39 x40 x41 x42 x43 x44 x45 x46 x47 x48 x49 x50 x51 x52 x53 x54 x55 x56 x57 x58 x59 x60 x61 x62 x63 x64 x65 x66 x67 ++ (wlO g ao L_out ++ t)) Q := by
  unfold f_L_eventOf at h
  refine r_aload_n 2 dL_eventOf_0 rfl ?_
  refine r_iconst (v := (0 : Int32)) dL_eventOf_1 (by decide) ?_
  refine r_aload_n 0 dL_eventOf_2 rfl ?_
  refine r_iload_n 1 dL_eventOf_3 rfl ?_
  obtain ⟨r2502, hc2503, h⟩ := ob (fun z9 => z9) rfl h
  rcases r2502 with q2504 | E2506
  · refine c_X (rest := [.int (0 : Int32), .ref (ao 0)]) 0 0 _ dL_eventOf_4 kv_L_29 (ct_Main_eventOf hc2503) rfl rfl lX_0 rfl (Nat.le_of_ble_eq_true rfl) (by decide) (by decide) ?_
    try dsimp only [Sum.elim_inl, Sum.elim_inr] at h
    refine r_i2l dL_eventOf_7 ?_
    refine r_last _ dL_eventOf_8 lO_0 (by decide) (sO_0 _) ?_
    refine r_goto (tgt := 15) dL_eventOf_9 (by decide) ?_
    refine r_iconst (v := (0 : Int32)) dL_eventOf_15 (by decide) ?_
    refine r_iret dL_eventOf_16 rfl ?_
    have h := Option.some.inj (show some _ = some o from h)
    subst h
    exact hq
  · refine c_Xt (rest := [.int (0 : Int32), .ref (ao 0)]) 0 0 _ dL_eventOf_4 kv_L_29 (ct_Main_eventOf hc2503) rfl rfl lX_0 rfl (Nat.le_of_ble_eq_true rfl) (by decide) (by decide) ?_
    have h : (fun z9 => z9) _ = some o := h
    by_cases hE0 : E2506 = "java/lang/IndexOutOfBoundsException"
    · have h := ip (fun z9 => z9) hE0 h
      subst hE0
      refine rx_catch (pre := []) (z := { startPc := 0, endPc := 9, handlerPc := 12, catchType := 24 }) (suf := []) rfl (fun z hz => absurd hz List.not_mem_nil) (by decide) (by decide) kk_1116 kn_1127 (fun qx2507 => ?_)
      refine r_astore_n [(3, .ref qx2507), (0, .ref (ad 0)), (1, .int p1), (2, .ref (ao 0))] dL_eventOf_12 (by decide) rfl ?_
      refine r_iconst (v := (1 : Int32)) dL_eventOf_13 (by decide) ?_
      refine r_iret dL_eventOf_14 rfl ?_
      have h := Option.some.inj (show some _ = some o from h)
      subst h
      exact hq
    have h := iq (fun z9 => z9) hE0 h
    exact nomatch (show (none : Option _) = some _ from h)
theorem ct_L_eventOf {g : GG} {ad : Nat → Nat} {ao : Nat → Nat} {t : va_W} {x0 x1 x3 x4 x11 x12 x18 x19 x20 x24 x25 x26 x27 x28 x29 x30 x31 x37 x39 x40 x41 x47 x48 x54 x56 x58 x59 x60 x61 x63 x64 x65 x66 : Int32} {x2 x6 x7 x9 x10 x13 x14 x15 x16 x17 x21 x22 x23 x33 x34 x35 x42 x43 x44 x45 x46 x49 x50 x51 x52 x53 x62 x67 : Nat → Int32} {x32 : Int64} {x36 x38 x55 x57 : Nat → Int64} {Cl_count : Int32} {Cl_events : Nat → Int32} {L_out : Nat → Int64} {p1 : Int32} {o : Int32 × (Nat → Int64)} (h : f_L_eventOf Cl_count Cl_events L_out p1 = some o) : Ct g mL_eventOf 8 1 6 [.ref (ad 0), .int p1, .ref (ao 0)] (wlX g ad x0 x1 x2 x3 x4 Cl_count x6 x7 Cl_events x9 x10 x11 x12 x13 x14 x15 x16 x17 x18 x19 x20 x21 x22 x23 x24 x25 x26 x27 x28 x29 x30 x31 x32 x33 x34 x35 x36 x37 x38 x39 x40 x41 x42 x43 x44 x45 x46 x47 x48 x49 x50 x51 x52 x53 x54 x55 x56 x57 x58 x59 x60 x61 x62 x63 x64 x65 x66 x67 ++ (wlO g ao L_out ++ t)) (Dv (some (.int o.1)) (wlX g ad x0 x1 x2 x3 x4 Cl_count x6 x7 Cl_events x9 x10 x11 x12 x13 x14 x15 x16 x17 x18 x19 x20 x21 x22 x23 x24 x25 x26 x27 x28 x29 x30 x31 x32 x33 x34 x35 x36 x37 x38 x39 x40 x41 x42 x43 x44 x45 x46 x47 x48 x49 x50 x51 x52 x53 x54 x55 x56 x57 x58 x59 x60 x61 x62 x63 x64 x65 x66 x67 ++ (wlO g ao o.2 ++ t))) := Ct.ofRH (by decide +kernel) (by decide) (Nat.le_of_ble_eq_true rfl) (rt_L_eventOf h ⟨rfl, rfl⟩)
set_option maxRecDepth 20000 in
set_option maxHeartbeats 4000000 in
theorem rt_L_secondEventOf {g : GG} {ad : Nat → Nat} {ao : Nat → Nat} {t : va_W} {x0 x1 x3 x4 x11 x12 x18 x19 x20 x24 x25 x26 x27 x28 x29 x30 x31 x37 x39 x40 x41 x47 x48 x54 x56 x58 x59 x60 x61 x63 x64 x65 x66 : Int32} {x2 x6 x8 x10 x13 x14 x15 x16 x17 x21 x22 x23 x33 x34 x35 x42 x43 x44 x45 x46 x49 x50 x51 x52 x53 x62 x67 : Nat → Int32} {x32 : Int64} {x36 x38 x55 x57 : Nat → Int64} {Cl_count : Int32} {Cl_kinds : Nat → Int32} {Cl_firsts : Nat → Int32} {L_out : Nat → Int64} {p1 : Int32} {o : Int32 × (Nat → Int64)} {Q : Rs → va_W → Prop} (h : f_L_secondEventOf Cl_count Cl_kinds Cl_firsts L_out p1 = some o) (hq : Q (.inl (some (.int o.1))) (wlX g ad x0 x1 x2 x3 x4 Cl_count x6 Cl_kinds x8 Cl_firsts x10 x11 x12 x13 x14 x15 x16 x17 x18 x19 x20 x21 x22 x23 x24 x25 x26 x27 x28 x29 x30 x31 x32 x33 x34 x35 x36 x37 x38 x39 x40 x41 x42 x43 x44 x45 x46 x47 x48 x49 x50 x51 x52 x53 x54 x55 x56 x57 x58 x59 x60 x61 x62 x63 x64 x65 x66 x67 ++ (wlO g ao o.2 ++ t))) : R g mL_secondEventOf 8 2 12 0 [(0, .ref (ad 0)), (1, .int p1), (2, .ref (ao 0))] [] (wlX g ad x0 x1 x2 x3 x4 Cl_count x6 Cl_kinds x8 Cl_firsts x10 x11 x12 x13 x14 x15 x16 x17 x18 x19 x20 x21 x22 x23 x24 x25 x26 x27 x28 x29 x30 x31 x32 x33 x34 x35 x36 x37 x38 x39 x40 x41 x42 x43 x44 x45 x46 x47 x48 x49 x50 x51 x52 x53 x54 x55 x56 x57 x58 x59 x60 x61 x62 x63 x64 x65 x66 x67 ++ (wlO g ao L_out ++ t)) Q := by
  unfold f_L_secondEventOf at h
  refine r_aload_n 2 dL_secondEventOf_0 rfl ?_
  refine r_iconst (v := (0 : Int32)) dL_secondEventOf_1 (by decide) ?_
  refine r_aload_n 0 dL_secondEventOf_2 rfl ?_
  refine r_iload_n 1 dL_secondEventOf_3 rfl ?_
  obtain ⟨r2508, hc2509, h⟩ := ob (fun z9 => z9) rfl h
  rcases r2508 with q2510 | E2512
  · refine c_X (rest := [.int (0 : Int32), .ref (ao 0)]) 0 0 _ dL_secondEventOf_4 kv_L_32 (ct_Main_secondEventOf hc2509) rfl rfl lX_0 rfl (Nat.le_of_ble_eq_true rfl) (by decide) (by decide) ?_
    try dsimp only [Sum.elim_inl, Sum.elim_inr] at h
    refine r_i2l dL_secondEventOf_7 ?_
    refine r_last _ dL_secondEventOf_8 lO_0 (by decide) (sO_0 _) ?_
    refine r_goto (tgt := 18) dL_secondEventOf_9 (by decide) ?_
    refine r_iconst (v := (0 : Int32)) dL_secondEventOf_18 (by decide) ?_
    refine r_iret dL_secondEventOf_19 rfl ?_
    have h := Option.some.inj (show some _ = some o from h)
    subst h
    exact hq
  · refine c_Xt (rest := [.int (0 : Int32), .ref (ao 0)]) 0 0 _ dL_secondEventOf_4 kv_L_32 (ct_Main_secondEventOf hc2509) rfl rfl lX_0 rfl (Nat.le_of_ble_eq_true rfl) (by decide) (by decide) ?_
    have h : (fun z9 => z9) _ = some o := h
    by_cases hE0 : E2512 = "java/lang/IndexOutOfBoundsException"
    · have h := ip (fun z9 => z9) hE0 h
      subst hE0
      refine rx_catch (pre := []) (z := { startPc := 0, endPc := 9, handlerPc := 12, catchType := 24 }) (suf := [{ startPc := 0, endPc := 9, handlerPc := 15, catchType := 13 }]) rfl (fun z hz => absurd hz List.not_mem_nil) (by decide) (by decide) kk_1116 kn_1127 (fun qx2513 => ?_)
      refine r_astore_n [(3, .ref qx2513), (0, .ref (ad 0)), (1, .int p1), (2, .ref (ao 0))] dL_secondEventOf_12 (by decide) rfl ?_
      refine r_iconst (v := (1 : Int32)) dL_secondEventOf_13 (by decide) ?_
      refine r_iret dL_secondEventOf_14 rfl ?_
      have h := Option.some.inj (show some _ = some o from h)
      subst h
      exact hq
    have h := iq (fun z9 => z9) hE0 h
    by_cases hE1 : E2512 = "java/lang/IllegalStateException"
    · have h := ip (fun z9 => z9) hE1 h
      subst hE1
      refine rx_catch (pre := [{ startPc := 0, endPc := 9, handlerPc := 12, catchType := 24 }]) (z := { startPc := 0, endPc := 9, handlerPc := 15, catchType := 13 }) (suf := []) rfl (List.forall_mem_cons.mpr ⟨⟨by decide, _, kk_1116, by decide⟩, fun _ hz => absurd hz List.not_mem_nil⟩) (by decide) (by decide) kk_1012 kn_1019 (fun qx2514 => ?_)
      refine r_astore_n [(3, .ref qx2514), (0, .ref (ad 0)), (1, .int p1), (2, .ref (ao 0))] dL_secondEventOf_15 (by decide) rfl ?_
      refine r_iconst (v := (2 : Int32)) dL_secondEventOf_16 (by decide) ?_
      refine r_iret dL_secondEventOf_17 rfl ?_
      have h := Option.some.inj (show some _ = some o from h)
      subst h
      exact hq
    have h := iq (fun z9 => z9) hE1 h
    exact nomatch (show (none : Option _) = some _ from h)
theorem ct_L_secondEventOf {g : GG} {ad : Nat → Nat} {ao : Nat → Nat} {t : va_W} {x0 x1 x3 x4 x11 x12 x18 x19 x20 x24 x25 x26 x27 x28 x29 x30 x31 x37 x39 x40 x41 x47 x48 x54 x56 x58 x59 x60 x61 x63 x64 x65 x66 : Int32} {x2 x6 x8 x10 x13 x14 x15 x16 x17 x21 x22 x23 x33 x34 x35 x42 x43 x44 x45 x46 x49 x50 x51 x52 x53 x62 x67 : Nat → Int32} {x32 : Int64} {x36 x38 x55 x57 : Nat → Int64} {Cl_count : Int32} {Cl_kinds : Nat → Int32} {Cl_firsts : Nat → Int32} {L_out : Nat → Int64} {p1 : Int32} {o : Int32 × (Nat → Int64)} (h : f_L_secondEventOf Cl_count Cl_kinds Cl_firsts L_out p1 = some o) : Ct g mL_secondEventOf 8 2 12 [.ref (ad 0), .int p1, .ref (ao 0)] (wlX g ad x0 x1 x2 x3 x4 Cl_count x6 Cl_kinds x8 Cl_firsts x10 x11 x12 x13 x14 x15 x16 x17 x18 x19 x20 x21 x22 x23 x24 x25 x26 x27 x28 x29 x30 x31 x32 x33 x34 x35 x36 x37 x38 x39 x40 x41 x42 x43 x44 x45 x46 x47 x48 x49 x50 x51 x52 x53 x54 x55 x56 x57 x58 x59 x60 x61 x62 x63 x64 x65 x66 x67 ++ (wlO g ao L_out ++ t)) (Dv (some (.int o.1)) (wlX g ad x0 x1 x2 x3 x4 Cl_count x6 Cl_kinds x8 Cl_firsts x10 x11 x12 x13 x14 x15 x16 x17 x18 x19 x20 x21 x22 x23 x24 x25 x26 x27 x28 x29 x30 x31 x32 x33 x34 x35 x36 x37 x38 x39 x40 x41 x42 x43 x44 x45 x46 x47 x48 x49 x50 x51 x52 x53 x54 x55 x56 x57 x58 x59 x60 x61 x62 x63 x64 x65 x66 x67 ++ (wlO g ao o.2 ++ t))) := Ct.ofRH (by decide +kernel) (by decide) (Nat.le_of_ble_eq_true rfl) (rt_L_secondEventOf h ⟨rfl, rfl⟩)
set_option maxRecDepth 20000 in
set_option maxHeartbeats 4000000 in
theorem rt_L_firstHourOf {g : GG} {ad : Nat → Nat} {ao : Nat → Nat} {t : va_W} {x0 x1 x3 x4 x11 x12 x18 x19 x20 x24 x25 x26 x27 x28 x29 x30 x31 x37 x39 x40 x41 x47 x48 x54 x56 x58 x59 x60 x61 x63 x64 x65 x66 : Int32} {x2 x6 x8 x10 x13 x14 x15 x16 x17 x21 x22 x23 x33 x34 x35 x42 x43 x44 x45 x46 x49 x50 x51 x52 x53 x62 x67 : Nat → Int32} {x32 : Int64} {x36 x38 x55 x57 : Nat → Int64} {Cl_count : Int32} {Cl_kinds : Nat → Int32} {Cl_firsts : Nat → Int32} {L_out : Nat → Int64} {p1 : Int32} {o : Int32 × (Nat → Int64)} {Q : Rs → va_W → Prop} (h : f_L_firstHourOf Cl_count Cl_kinds Cl_firsts L_out p1 = some o) (hq : Q (.inl (some (.int o.1))) (wlX g ad x0 x1 x2 x3 x4 Cl_count x6 Cl_kinds x8 Cl_firsts x10 x11 x12 x13 x14 x15 x16 x17 x18 x19 x20 x21 x22 x23 x24 x25 x26 x27 x28 x29 x30 x31 x32 x33 x34 x35 x36 x37 x38 x39 x40 x41 x42 x43 x44 x45 x46 x47 x48 x49 x50 x51 x52 x53 x54 x55 x56 x57 x58 x59 x60 x61 x62 x63 x64 x65 x66 x67 ++ (wlO g ao o.2 ++ t))) : R g mL_firstHourOf 8 2 12 0 [(0, .ref (ad 0)), (1, .int p1), (2, .ref (ao 0))] [] (wlX g ad x0 x1 x2 x3 x4 Cl_count x6 Cl_kinds x8 Cl_firsts x10 x11 x12 x13 x14 x15 x16 x17 x18 x19 x20 x21 x22 x23 x24 x25 x26 x27 x28 x29 x30 x31 x32 x33 x34 x35 x36 x37 x38 x39 x40 x41 x42 x43 x44 x45 x46 x47 x48 x49 x50 x51 x52 x53 x54 x55 x56 x57 x58 x59 x60 x61 x62 x63 x64 x65 x66 x67 ++ (wlO g ao L_out ++ t)) Q := by
  unfold f_L_firstHourOf at h
  refine r_aload_n 2 dL_firstHourOf_0 rfl ?_
  refine r_iconst (v := (0 : Int32)) dL_firstHourOf_1 (by decide) ?_
  refine r_aload_n 0 dL_firstHourOf_2 rfl ?_
  refine r_iload_n 1 dL_firstHourOf_3 rfl ?_
  obtain ⟨r2515, hc2516, h⟩ := ob (fun z9 => z9) rfl h
  rcases r2515 with q2517 | E2519
  · refine c_X (rest := [.int (0 : Int32), .ref (ao 0)]) 0 0 _ dL_firstHourOf_4 kv_L_35 (ct_Main_firstHourOf hc2516) rfl rfl lX_0 rfl (Nat.le_of_ble_eq_true rfl) (by decide) (by decide) ?_
    try dsimp only [Sum.elim_inl, Sum.elim_inr] at h
    refine r_i2l dL_firstHourOf_7 ?_
    refine r_last _ dL_firstHourOf_8 lO_0 (by decide) (sO_0 _) ?_
    refine r_goto (tgt := 18) dL_firstHourOf_9 (by decide) ?_
    refine r_iconst (v := (0 : Int32)) dL_firstHourOf_18 (by decide) ?_
    refine r_iret dL_firstHourOf_19 rfl ?_
    have h := Option.some.inj (show some _ = some o from h)
    subst h
    exact hq
  · refine c_Xt (rest := [.int (0 : Int32), .ref (ao 0)]) 0 0 _ dL_firstHourOf_4 kv_L_35 (ct_Main_firstHourOf hc2516) rfl rfl lX_0 rfl (Nat.le_of_ble_eq_true rfl) (by decide) (by decide) ?_
    have h : (fun z9 => z9) _ = some o := h
    by_cases hE0 : E2519 = "java/lang/IndexOutOfBoundsException"
    · have h := ip (fun z9 => z9) hE0 h
      subst hE0
      refine rx_catch (pre := []) (z := { startPc := 0, endPc := 9, handlerPc := 12, catchType := 24 }) (suf := [{ startPc := 0, endPc := 9, handlerPc := 15, catchType := 13 }]) rfl (fun z hz => absurd hz List.not_mem_nil) (by decide) (by decide) kk_1116 kn_1127 (fun qx2520 => ?_)
      refine r_astore_n [(3, .ref qx2520), (0, .ref (ad 0)), (1, .int p1), (2, .ref (ao 0))] dL_firstHourOf_12 (by decide) rfl ?_
      refine r_iconst (v := (1 : Int32)) dL_firstHourOf_13 (by decide) ?_
      refine r_iret dL_firstHourOf_14 rfl ?_
      have h := Option.some.inj (show some _ = some o from h)
      subst h
      exact hq
    have h := iq (fun z9 => z9) hE0 h
    by_cases hE1 : E2519 = "java/lang/IllegalStateException"
    · have h := ip (fun z9 => z9) hE1 h
      subst hE1
      refine rx_catch (pre := [{ startPc := 0, endPc := 9, handlerPc := 12, catchType := 24 }]) (z := { startPc := 0, endPc := 9, handlerPc := 15, catchType := 13 }) (suf := []) rfl (List.forall_mem_cons.mpr ⟨⟨by decide, _, kk_1116, by decide⟩, fun _ hz => absurd hz List.not_mem_nil⟩) (by decide) (by decide) kk_1012 kn_1019 (fun qx2521 => ?_)
      refine r_astore_n [(3, .ref qx2521), (0, .ref (ad 0)), (1, .int p1), (2, .ref (ao 0))] dL_firstHourOf_15 (by decide) rfl ?_
      refine r_iconst (v := (2 : Int32)) dL_firstHourOf_16 (by decide) ?_
      refine r_iret dL_firstHourOf_17 rfl ?_
      have h := Option.some.inj (show some _ = some o from h)
      subst h
      exact hq
    have h := iq (fun z9 => z9) hE1 h
    exact nomatch (show (none : Option _) = some _ from h)
theorem ct_L_firstHourOf {g : GG} {ad : Nat → Nat} {ao : Nat → Nat} {t : va_W} {x0 x1 x3 x4 x11 x12 x18 x19 x20 x24 x25 x26 x27 x28 x29 x30 x31 x37 x39 x40 x41 x47 x48 x54 x56 x58 x59 x60 x61 x63 x64 x65 x66 : Int32} {x2 x6 x8 x10 x13 x14 x15 x16 x17 x21 x22 x23 x33 x34 x35 x42 x43 x44 x45 x46 x49 x50 x51 x52 x53 x62 x67 : Nat → Int32} {x32 : Int64} {x36 x38 x55 x57 : Nat → Int64} {Cl_count : Int32} {Cl_kinds : Nat → Int32} {Cl_firsts : Nat → Int32} {L_out : Nat → Int64} {p1 : Int32} {o : Int32 × (Nat → Int64)} (h : f_L_firstHourOf Cl_count Cl_kinds Cl_firsts L_out p1 = some o) : Ct g mL_firstHourOf 8 2 12 [.ref (ad 0), .int p1, .ref (ao 0)] (wlX g ad x0 x1 x2 x3 x4 Cl_count x6 Cl_kinds x8 Cl_firsts x10 x11 x12 x13 x14 x15 x16 x17 x18 x19 x20 x21 x22 x23 x24 x25 x26 x27 x28 x29 x30 x31 x32 x33 x34 x35 x36 x37 x38 x39 x40 x41 x42 x43 x44 x45 x46 x47 x48 x49 x50 x51 x52 x53 x54 x55 x56 x57 x58 x59 x60 x61 x62 x63 x64 x65 x66 x67 ++ (wlO g ao L_out ++ t)) (Dv (some (.int o.1)) (wlX g ad x0 x1 x2 x3 x4 Cl_count x6 Cl_kinds x8 Cl_firsts x10 x11 x12 x13 x14 x15 x16 x17 x18 x19 x20 x21 x22 x23 x24 x25 x26 x27 x28 x29 x30 x31 x32 x33 x34 x35 x36 x37 x38 x39 x40 x41 x42 x43 x44 x45 x46 x47 x48 x49 x50 x51 x52 x53 x54 x55 x56 x57 x58 x59 x60 x61 x62 x63 x64 x65 x66 x67 ++ (wlO g ao o.2 ++ t))) := Ct.ofRH (by decide +kernel) (by decide) (Nat.le_of_ble_eq_true rfl) (rt_L_firstHourOf h ⟨rfl, rfl⟩)
set_option maxRecDepth 20000 in
set_option maxHeartbeats 4000000 in
theorem rt_L_lastHourOf {g : GG} {ad : Nat → Nat} {ao : Nat → Nat} {t : va_W} {x0 x1 x3 x4 x11 x12 x18 x19 x20 x24 x25 x26 x27 x28 x29 x30 x31 x37 x39 x40 x41 x47 x48 x54 x56 x58 x59 x60 x61 x63 x64 x65 x66 : Int32} {x2 x6 x8 x9 x13 x14 x15 x16 x17 x21 x22 x23 x33 x34 x35 x42 x43 x44 x45 x46 x49 x50 x51 x52 x53 x62 x67 : Nat → Int32} {x32 : Int64} {x36 x38 x55 x57 : Nat → Int64} {Cl_count : Int32} {Cl_kinds : Nat → Int32} {Cl_lasts : Nat → Int32} {L_out : Nat → Int64} {p1 : Int32} {o : Int32 × (Nat → Int64)} {Q : Rs → va_W → Prop} (h : f_L_lastHourOf Cl_count Cl_kinds Cl_lasts L_out p1 = some o) (hq : Q (.inl (some (.int o.1))) (wlX g ad x0 x1 x2 x3 x4 Cl_count x6 Cl_kinds x8 x9 Cl_lasts x11 x12 x13 x14 x15 x16 x17 x18 x19 x20 x21 x22 x23 x24 x25 x26 x27 x28 x29 x30 x31 x32 x33 x34 x35 x36 x37 x38 x39 x40 x41 x42 x43 x44 x45 x46 x47 x48 x49 x50 x51 x52 x53 x54 x55 x56 x57 x58 x59 x60 x61 x62 x63 x64 x65 x66 x67 ++ (wlO g ao o.2 ++ t))) : R g mL_lastHourOf 8 2 12 0 [(0, .ref (ad 0)), (1, .int p1), (2, .ref (ao 0))] [] (wlX g ad x0 x1 x2 x3 x4 Cl_count x6 Cl_kinds x8 x9 Cl_lasts x11 x12 x13 x14 x15 x16 x17 x18 x19 x20 x21 x22 x23 x24 x25 x26 x27 x28 x29 x30 x31 x32 x33 x34 x35 x36 x37 x38 x39 x40 x41 x42 x43 x44 x45 x46 x47 x48 x49 x50 x51 x52 x53 x54 x55 x56 x57 x58 x59 x60 x61 x62 x63 x64 x65 x66 x67 ++ (wlO g ao L_out ++ t)) Q := by
  unfold f_L_lastHourOf at h
  refine r_aload_n 2 dL_lastHourOf_0 rfl ?_
  refine r_iconst (v := (0 : Int32)) dL_lastHourOf_1 (by decide) ?_
  refine r_aload_n 0 dL_lastHourOf_2 rfl ?_
  refine r_iload_n 1 dL_lastHourOf_3 rfl ?_
  obtain ⟨r2522, hc2523, h⟩ := ob (fun z9 => z9) rfl h
  rcases r2522 with q2524 | E2526
  · refine c_X (rest := [.int (0 : Int32), .ref (ao 0)]) 0 0 _ dL_lastHourOf_4 kv_L_38 (ct_Main_lastHourOf hc2523) rfl rfl lX_0 rfl (Nat.le_of_ble_eq_true rfl) (by decide) (by decide) ?_
    try dsimp only [Sum.elim_inl, Sum.elim_inr] at h
    refine r_i2l dL_lastHourOf_7 ?_
    refine r_last _ dL_lastHourOf_8 lO_0 (by decide) (sO_0 _) ?_
    refine r_goto (tgt := 18) dL_lastHourOf_9 (by decide) ?_
    refine r_iconst (v := (0 : Int32)) dL_lastHourOf_18 (by decide) ?_
    refine r_iret dL_lastHourOf_19 rfl ?_
    have h := Option.some.inj (show some _ = some o from h)
    subst h
    exact hq
  · refine c_Xt (rest := [.int (0 : Int32), .ref (ao 0)]) 0 0 _ dL_lastHourOf_4 kv_L_38 (ct_Main_lastHourOf hc2523) rfl rfl lX_0 rfl (Nat.le_of_ble_eq_true rfl) (by decide) (by decide) ?_
    have h : (fun z9 => z9) _ = some o := h
    by_cases hE0 : E2526 = "java/lang/IndexOutOfBoundsException"
    · have h := ip (fun z9 => z9) hE0 h
      subst hE0
      refine rx_catch (pre := []) (z := { startPc := 0, endPc := 9, handlerPc := 12, catchType := 24 }) (suf := [{ startPc := 0, endPc := 9, handlerPc := 15, catchType := 13 }]) rfl (fun z hz => absurd hz List.not_mem_nil) (by decide) (by decide) kk_1116 kn_1127 (fun qx2527 => ?_)
      refine r_astore_n [(3, .ref qx2527), (0, .ref (ad 0)), (1, .int p1), (2, .ref (ao 0))] dL_lastHourOf_12 (by decide) rfl ?_
      refine r_iconst (v := (1 : Int32)) dL_lastHourOf_13 (by decide) ?_
      refine r_iret dL_lastHourOf_14 rfl ?_
      have h := Option.some.inj (show some _ = some o from h)
      subst h
      exact hq
    have h := iq (fun z9 => z9) hE0 h
    by_cases hE1 : E2526 = "java/lang/IllegalStateException"
    · have h := ip (fun z9 => z9) hE1 h
      subst hE1
      refine rx_catch (pre := [{ startPc := 0, endPc := 9, handlerPc := 12, catchType := 24 }]) (z := { startPc := 0, endPc := 9, handlerPc := 15, catchType := 13 }) (suf := []) rfl (List.forall_mem_cons.mpr ⟨⟨by decide, _, kk_1116, by decide⟩, fun _ hz => absurd hz List.not_mem_nil⟩) (by decide) (by decide) kk_1012 kn_1019 (fun qx2528 => ?_)
      refine r_astore_n [(3, .ref qx2528), (0, .ref (ad 0)), (1, .int p1), (2, .ref (ao 0))] dL_lastHourOf_15 (by decide) rfl ?_
      refine r_iconst (v := (2 : Int32)) dL_lastHourOf_16 (by decide) ?_
      refine r_iret dL_lastHourOf_17 rfl ?_
      have h := Option.some.inj (show some _ = some o from h)
      subst h
      exact hq
    have h := iq (fun z9 => z9) hE1 h
    exact nomatch (show (none : Option _) = some _ from h)
theorem ct_L_lastHourOf {g : GG} {ad : Nat → Nat} {ao : Nat → Nat} {t : va_W} {x0 x1 x3 x4 x11 x12 x18 x19 x20 x24 x25 x26 x27 x28 x29 x30 x31 x37 x39 x40 x41 x47 x48 x54 x56 x58 x59 x60 x61 x63 x64 x65 x66 : Int32} {x2 x6 x8 x9 x13 x14 x15 x16 x17 x21 x22 x23 x33 x34 x35 x42 x43 x44 x45 x46 x49 x50 x51 x52 x53 x62 x67 : Nat → Int32} {x32 : Int64} {x36 x38 x55 x57 : Nat → Int64} {Cl_count : Int32} {Cl_kinds : Nat → Int32} {Cl_lasts : Nat → Int32} {L_out : Nat → Int64} {p1 : Int32} {o : Int32 × (Nat → Int64)} (h : f_L_lastHourOf Cl_count Cl_kinds Cl_lasts L_out p1 = some o) : Ct g mL_lastHourOf 8 2 12 [.ref (ad 0), .int p1, .ref (ao 0)] (wlX g ad x0 x1 x2 x3 x4 Cl_count x6 Cl_kinds x8 x9 Cl_lasts x11 x12 x13 x14 x15 x16 x17 x18 x19 x20 x21 x22 x23 x24 x25 x26 x27 x28 x29 x30 x31 x32 x33 x34 x35 x36 x37 x38 x39 x40 x41 x42 x43 x44 x45 x46 x47 x48 x49 x50 x51 x52 x53 x54 x55 x56 x57 x58 x59 x60 x61 x62 x63 x64 x65 x66 x67 ++ (wlO g ao L_out ++ t)) (Dv (some (.int o.1)) (wlX g ad x0 x1 x2 x3 x4 Cl_count x6 Cl_kinds x8 x9 Cl_lasts x11 x12 x13 x14 x15 x16 x17 x18 x19 x20 x21 x22 x23 x24 x25 x26 x27 x28 x29 x30 x31 x32 x33 x34 x35 x36 x37 x38 x39 x40 x41 x42 x43 x44 x45 x46 x47 x48 x49 x50 x51 x52 x53 x54 x55 x56 x57 x58 x59 x60 x61 x62 x63 x64 x65 x66 x67 ++ (wlO g ao o.2 ++ t))) := Ct.ofRH (by decide +kernel) (by decide) (Nat.le_of_ble_eq_true rfl) (rt_L_lastHourOf h ⟨rfl, rfl⟩)
set_option maxRecDepth 20000 in
set_option maxHeartbeats 4000000 in
theorem rt_L_areContrary {g : GG} {ad : Nat → Nat} {ao : Nat → Nat} {t : va_W} {x0 x1 x3 x4 x11 x12 x18 x19 x20 x24 x25 x26 x27 x28 x29 x30 x31 x37 x39 x40 x41 x47 x48 x54 x56 x58 x59 x60 x61 x63 x64 x65 x66 : Int32} {x2 x6 x13 x14 x15 x16 x17 x21 x22 x23 x33 x34 x35 x42 x43 x44 x45 x46 x49 x50 x51 x52 x53 x62 x67 : Nat → Int32} {x32 : Int64} {x36 x38 x55 x57 : Nat → Int64} {Cl_count : Int32} {Cl_kinds : Nat → Int32} {Cl_events : Nat → Int32} {Cl_firsts : Nat → Int32} {Cl_lasts : Nat → Int32} {L_out : Nat → Int64} {p1 : Int32} {p2 : Int32} {o : Int32 × (Nat → Int64)} {Q : Rs → va_W → Prop} (h : f_L_areContrary Cl_count Cl_kinds Cl_events Cl_firsts Cl_lasts L_out p1 p2 = some o) (hq : Q (.inl (some (.int o.1))) (wlX g ad x0 x1 x2 x3 x4 Cl_count x6 Cl_kinds Cl_events Cl_firsts Cl_lasts x11 x12 x13 x14 x15 x16 x17 x18 x19 x20 x21 x22 x23 x24 x25 x26 x27 x28 x29 x30 x31 x32 x33 x34 x35 x36 x37 x38 x39 x40 x41 x42 x43 x44 x45 x46 x47 x48 x49 x50 x51 x52 x53 x54 x55 x56 x57 x58 x59 x60 x61 x62 x63 x64 x65 x66 x67 ++ (wlO g ao o.2 ++ t))) : R g mL_areContrary 8 2 12 0 [(0, .ref (ad 0)), (1, .int p1), (2, .int p2), (3, .ref (ao 0))] [] (wlX g ad x0 x1 x2 x3 x4 Cl_count x6 Cl_kinds Cl_events Cl_firsts Cl_lasts x11 x12 x13 x14 x15 x16 x17 x18 x19 x20 x21 x22 x23 x24 x25 x26 x27 x28 x29 x30 x31 x32 x33 x34 x35 x36 x37 x38 x39 x40 x41 x42 x43 x44 x45 x46 x47 x48 x49 x50 x51 x52 x53 x54 x55 x56 x57 x58 x59 x60 x61 x62 x63 x64 x65 x66 x67 ++ (wlO g ao L_out ++ t)) Q := by
  unfold f_L_areContrary at h
  refine r_aload_n 3 dL_areContrary_0 rfl ?_
  refine r_iconst (v := (0 : Int32)) dL_areContrary_1 (by decide) ?_
  refine r_aload_n 0 dL_areContrary_2 rfl ?_
  refine r_iload_n 1 dL_areContrary_3 rfl ?_
  refine r_iload_n 2 dL_areContrary_4 rfl ?_
  obtain ⟨r2529, hc2530, h⟩ := ob (fun z9 => z9) rfl h
  rcases r2529 with q2531 | E2535
  · refine c_X (rest := [.int (0 : Int32), .ref (ao 0)]) 0 0 _ dL_areContrary_5 kv_L_41 (ct_Main_areContrary hc2530) rfl rfl lX_0 rfl (Nat.le_of_ble_eq_true rfl) (by decide) (by decide) ?_
    try dsimp only [Sum.elim_inl, Sum.elim_inr] at h
    refine r_if_eq (tgt := 15) dL_areContrary_8 (by decide) (fun hc2532 => ?_) (fun hc2532 => ?_)
    · have h := ip (fun z9 => z9) hc2532 h
      refine r_lconst (v := (0 : Int64)) dL_areContrary_15 (by decide) ?_
      refine r_last _ dL_areContrary_16 lO_0 (by decide) (sO_0 _) ?_
      refine r_goto (tgt := 24) dL_areContrary_17 (by decide) ?_
      refine r_iconst (v := (0 : Int32)) dL_areContrary_24 (by decide) ?_
      refine r_iret dL_areContrary_25 rfl ?_
      have h := Option.some.inj (show some _ = some o from h)
      subst h
      exact hq
    · have h := iq (fun z9 => z9) hc2532 h
      refine r_lconst (v := (1 : Int64)) dL_areContrary_11 (by decide) ?_
      refine r_goto (tgt := 16) dL_areContrary_12 (by decide) ?_
      refine r_last _ dL_areContrary_16 lO_0 (by decide) (sO_0 _) ?_
      refine r_goto (tgt := 24) dL_areContrary_17 (by decide) ?_
      refine r_iconst (v := (0 : Int32)) dL_areContrary_24 (by decide) ?_
      refine r_iret dL_areContrary_25 rfl ?_
      have h := Option.some.inj (show some _ = some o from h)
      subst h
      exact hq
  · refine c_Xt (rest := [.int (0 : Int32), .ref (ao 0)]) 0 0 _ dL_areContrary_5 kv_L_41 (ct_Main_areContrary hc2530) rfl rfl lX_0 rfl (Nat.le_of_ble_eq_true rfl) (by decide) (by decide) ?_
    have h : (fun z9 => z9) _ = some o := h
    by_cases hE0 : E2535 = "java/lang/IndexOutOfBoundsException"
    · have h := ip (fun z9 => z9) hE0 h
      subst hE0
      refine rx_catch (pre := []) (z := { startPc := 0, endPc := 17, handlerPc := 20, catchType := 24 }) (suf := []) rfl (fun z hz => absurd hz List.not_mem_nil) (by decide) (by decide) kk_1116 kn_1127 (fun qx2536 => ?_)
      refine r_astore [(4, .ref qx2536), (0, .ref (ad 0)), (1, .int p1), (2, .int p2), (3, .ref (ao 0))] dL_areContrary_20 (by decide) rfl ?_
      refine r_iconst (v := (1 : Int32)) dL_areContrary_22 (by decide) ?_
      refine r_iret dL_areContrary_23 rfl ?_
      have h := Option.some.inj (show some _ = some o from h)
      subst h
      exact hq
    have h := iq (fun z9 => z9) hE0 h
    exact nomatch (show (none : Option _) = some _ from h)
theorem ct_L_areContrary {g : GG} {ad : Nat → Nat} {ao : Nat → Nat} {t : va_W} {x0 x1 x3 x4 x11 x12 x18 x19 x20 x24 x25 x26 x27 x28 x29 x30 x31 x37 x39 x40 x41 x47 x48 x54 x56 x58 x59 x60 x61 x63 x64 x65 x66 : Int32} {x2 x6 x13 x14 x15 x16 x17 x21 x22 x23 x33 x34 x35 x42 x43 x44 x45 x46 x49 x50 x51 x52 x53 x62 x67 : Nat → Int32} {x32 : Int64} {x36 x38 x55 x57 : Nat → Int64} {Cl_count : Int32} {Cl_kinds : Nat → Int32} {Cl_events : Nat → Int32} {Cl_firsts : Nat → Int32} {Cl_lasts : Nat → Int32} {L_out : Nat → Int64} {p1 : Int32} {p2 : Int32} {o : Int32 × (Nat → Int64)} (h : f_L_areContrary Cl_count Cl_kinds Cl_events Cl_firsts Cl_lasts L_out p1 p2 = some o) : Ct g mL_areContrary 8 2 12 [.ref (ad 0), .int p1, .int p2, .ref (ao 0)] (wlX g ad x0 x1 x2 x3 x4 Cl_count x6 Cl_kinds Cl_events Cl_firsts Cl_lasts x11 x12 x13 x14 x15 x16 x17 x18 x19 x20 x21 x22 x23 x24 x25 x26 x27 x28 x29 x30 x31 x32 x33 x34 x35 x36 x37 x38 x39 x40 x41 x42 x43 x44 x45 x46 x47 x48 x49 x50 x51 x52 x53 x54 x55 x56 x57 x58 x59 x60 x61 x62 x63 x64 x65 x66 x67 ++ (wlO g ao L_out ++ t)) (Dv (some (.int o.1)) (wlX g ad x0 x1 x2 x3 x4 Cl_count x6 Cl_kinds Cl_events Cl_firsts Cl_lasts x11 x12 x13 x14 x15 x16 x17 x18 x19 x20 x21 x22 x23 x24 x25 x26 x27 x28 x29 x30 x31 x32 x33 x34 x35 x36 x37 x38 x39 x40 x41 x42 x43 x44 x45 x46 x47 x48 x49 x50 x51 x52 x53 x54 x55 x56 x57 x58 x59 x60 x61 x62 x63 x64 x65 x66 x67 ++ (wlO g ao o.2 ++ t))) := Ct.ofRH (by decide +kernel) (by decide) (Nat.le_of_ble_eq_true rfl) (rt_L_areContrary h ⟨rfl, rfl⟩)
set_option maxRecDepth 20000 in
set_option maxHeartbeats 4000000 in
theorem rt_L_claimsOf {g : GG} {ad : Nat → Nat} {ao : Nat → Nat} {t : va_W} {x0 x1 x3 x11 x12 x18 x19 x20 x24 x25 x26 x27 x28 x29 x30 x31 x37 x39 x40 x41 x47 x48 x54 x56 x58 x59 x60 x61 x63 x64 x65 x66 : Int32} {x2 x7 x8 x9 x10 x13 x14 x15 x16 x17 x21 x22 x23 x33 x34 x35 x42 x43 x44 x45 x46 x49 x50 x51 x52 x53 x62 x67 : Nat → Int32} {x32 : Int64} {x36 x38 x55 x57 : Nat → Int64} {N : Nat} {Tap_tellerCount : Int32} {Cl_count : Int32} {Cl_tellers : Nat → Int32} {L_out : Nat → Int64} {p1 : Int32} {o : Int32 × (Nat → Int64)} {Q : Rs → va_W → Prop} (h : f_L_claimsOf N Tap_tellerCount Cl_count Cl_tellers L_out p1 = some o) (hq : Q (.inl (some (.int o.1))) (wlX g ad x0 x1 x2 x3 Tap_tellerCount Cl_count Cl_tellers x7 x8 x9 x10 x11 x12 x13 x14 x15 x16 x17 x18 x19 x20 x21 x22 x23 x24 x25 x26 x27 x28 x29 x30 x31 x32 x33 x34 x35 x36 x37 x38 x39 x40 x41 x42 x43 x44 x45 x46 x47 x48 x49 x50 x51 x52 x53 x54 x55 x56 x57 x58 x59 x60 x61 x62 x63 x64 x65 x66 x67 ++ (wlO g ao o.2 ++ t))) : R g mL_claimsOf 8 1 6 0 [(0, .ref (ad 0)), (1, .int p1), (2, .ref (ao 0))] [] (wlX g ad x0 x1 x2 x3 Tap_tellerCount Cl_count Cl_tellers x7 x8 x9 x10 x11 x12 x13 x14 x15 x16 x17 x18 x19 x20 x21 x22 x23 x24 x25 x26 x27 x28 x29 x30 x31 x32 x33 x34 x35 x36 x37 x38 x39 x40 x41 x42 x43 x44 x45 x46 x47 x48 x49 x50 x51 x52 x53 x54 x55 x56 x57 x58 x59 x60 x61 x62 x63 x64 x65 x66 x67 ++ (wlO g ao L_out ++ t)) Q := by
  unfold f_L_claimsOf at h
  refine r_aload_n 2 dL_claimsOf_0 rfl ?_
  refine r_iconst (v := (0 : Int32)) dL_claimsOf_1 (by decide) ?_
  refine r_aload_n 0 dL_claimsOf_2 rfl ?_
  refine r_iload_n 1 dL_claimsOf_3 rfl ?_
  obtain ⟨r2537, hc2538, h⟩ := ob (fun z9 => z9) rfl h
  rcases r2537 with q2539 | E2541
  · refine c_X (rest := [.int (0 : Int32), .ref (ao 0)]) 0 0 _ dL_claimsOf_4 kv_L_45 (ct_Main_claimsOf hc2538) rfl rfl lX_0 rfl (Nat.le_of_ble_eq_true rfl) (by decide) (by decide) ?_
    try dsimp only [Sum.elim_inl, Sum.elim_inr] at h
    refine r_i2l dL_claimsOf_7 ?_
    refine r_last _ dL_claimsOf_8 lO_0 (by decide) (sO_0 _) ?_
    refine r_goto (tgt := 15) dL_claimsOf_9 (by decide) ?_
    refine r_iconst (v := (0 : Int32)) dL_claimsOf_15 (by decide) ?_
    refine r_iret dL_claimsOf_16 rfl ?_
    have h := Option.some.inj (show some _ = some o from h)
    subst h
    exact hq
  · refine c_Xt (rest := [.int (0 : Int32), .ref (ao 0)]) 0 0 _ dL_claimsOf_4 kv_L_45 (ct_Main_claimsOf hc2538) rfl rfl lX_0 rfl (Nat.le_of_ble_eq_true rfl) (by decide) (by decide) ?_
    have h : (fun z9 => z9) _ = some o := h
    by_cases hE0 : E2541 = "java/lang/IndexOutOfBoundsException"
    · have h := ip (fun z9 => z9) hE0 h
      subst hE0
      refine rx_catch (pre := []) (z := { startPc := 0, endPc := 9, handlerPc := 12, catchType := 24 }) (suf := []) rfl (fun z hz => absurd hz List.not_mem_nil) (by decide) (by decide) kk_1116 kn_1127 (fun qx2542 => ?_)
      refine r_astore_n [(3, .ref qx2542), (0, .ref (ad 0)), (1, .int p1), (2, .ref (ao 0))] dL_claimsOf_12 (by decide) rfl ?_
      refine r_iconst (v := (1 : Int32)) dL_claimsOf_13 (by decide) ?_
      refine r_iret dL_claimsOf_14 rfl ?_
      have h := Option.some.inj (show some _ = some o from h)
      subst h
      exact hq
    have h := iq (fun z9 => z9) hE0 h
    exact nomatch (show (none : Option _) = some _ from h)
theorem ct_L_claimsOf {g : GG} {ad : Nat → Nat} {ao : Nat → Nat} {t : va_W} {x0 x1 x3 x11 x12 x18 x19 x20 x24 x25 x26 x27 x28 x29 x30 x31 x37 x39 x40 x41 x47 x48 x54 x56 x58 x59 x60 x61 x63 x64 x65 x66 : Int32} {x2 x7 x8 x9 x10 x13 x14 x15 x16 x17 x21 x22 x23 x33 x34 x35 x42 x43 x44 x45 x46 x49 x50 x51 x52 x53 x62 x67 : Nat → Int32} {x32 : Int64} {x36 x38 x55 x57 : Nat → Int64} {N : Nat} {Tap_tellerCount : Int32} {Cl_count : Int32} {Cl_tellers : Nat → Int32} {L_out : Nat → Int64} {p1 : Int32} {o : Int32 × (Nat → Int64)} (h : f_L_claimsOf N Tap_tellerCount Cl_count Cl_tellers L_out p1 = some o) : Ct g mL_claimsOf 8 1 6 [.ref (ad 0), .int p1, .ref (ao 0)] (wlX g ad x0 x1 x2 x3 Tap_tellerCount Cl_count Cl_tellers x7 x8 x9 x10 x11 x12 x13 x14 x15 x16 x17 x18 x19 x20 x21 x22 x23 x24 x25 x26 x27 x28 x29 x30 x31 x32 x33 x34 x35 x36 x37 x38 x39 x40 x41 x42 x43 x44 x45 x46 x47 x48 x49 x50 x51 x52 x53 x54 x55 x56 x57 x58 x59 x60 x61 x62 x63 x64 x65 x66 x67 ++ (wlO g ao L_out ++ t)) (Dv (some (.int o.1)) (wlX g ad x0 x1 x2 x3 Tap_tellerCount Cl_count Cl_tellers x7 x8 x9 x10 x11 x12 x13 x14 x15 x16 x17 x18 x19 x20 x21 x22 x23 x24 x25 x26 x27 x28 x29 x30 x31 x32 x33 x34 x35 x36 x37 x38 x39 x40 x41 x42 x43 x44 x45 x46 x47 x48 x49 x50 x51 x52 x53 x54 x55 x56 x57 x58 x59 x60 x61 x62 x63 x64 x65 x66 x67 ++ (wlO g ao o.2 ++ t))) := Ct.ofRH (by decide +kernel) (by decide) (Nat.le_of_ble_eq_true rfl) (rt_L_claimsOf h ⟨rfl, rfl⟩)
set_option maxRecDepth 20000 in
set_option maxHeartbeats 4000000 in
theorem rt_L_isDoubted {g : GG} {ad : Nat → Nat} {ao : Nat → Nat} {t : va_W} {x0 x1 x3 x5 x11 x12 x18 x19 x20 x24 x25 x26 x27 x28 x29 x30 x31 x37 x39 x40 x41 x47 x48 x54 x56 x58 x60 x61 x63 x64 x65 x66 : Int32} {x2 x6 x7 x8 x9 x10 x13 x14 x15 x16 x17 x21 x22 x23 x33 x34 x35 x42 x43 x44 x45 x46 x49 x50 x51 x52 x53 x62 x67 : Nat → Int32} {x32 : Int64} {x36 x38 x55 x57 : Nat → Int64} {Tap_tellerCount : Int32} {Co_doubted : Int32} {L_out : Nat → Int64} {p1 : Int32} {o : Int32 × (Nat → Int64)} {Q : Rs → va_W → Prop} (h : f_L_isDoubted Tap_tellerCount Co_doubted L_out p1 = some o) (hq : Q (.inl (some (.int o.1))) (wlX g ad x0 x1 x2 x3 Tap_tellerCount x5 x6 x7 x8 x9 x10 x11 x12 x13 x14 x15 x16 x17 x18 x19 x20 x21 x22 x23 x24 x25 x26 x27 x28 x29 x30 x31 x32 x33 x34 x35 x36 x37 x38 x39 x40 x41 x42 x43 x44 x45 x46 x47 x48 x49 x50 x51 x52 x53 x54 x55 x56 x57 x58 Co_doubted x60 x61 x62 x63 x64 x65 x66 x67 ++ (wlO g ao o.2 ++ t))) : R g mL_isDoubted 8 1 6 0 [(0, .ref (ad 0)), (1, .int p1), (2, .ref (ao 0))] [] (wlX g ad x0 x1 x2 x3 Tap_tellerCount x5 x6 x7 x8 x9 x10 x11 x12 x13 x14 x15 x16 x17 x18 x19 x20 x21 x22 x23 x24 x25 x26 x27 x28 x29 x30 x31 x32 x33 x34 x35 x36 x37 x38 x39 x40 x41 x42 x43 x44 x45 x46 x47 x48 x49 x50 x51 x52 x53 x54 x55 x56 x57 x58 Co_doubted x60 x61 x62 x63 x64 x65 x66 x67 ++ (wlO g ao L_out ++ t)) Q := by
  unfold f_L_isDoubted at h
  refine r_aload_n 2 dL_isDoubted_0 rfl ?_
  refine r_iconst (v := (0 : Int32)) dL_isDoubted_1 (by decide) ?_
  refine r_aload_n 0 dL_isDoubted_2 rfl ?_
  refine r_iload_n 1 dL_isDoubted_3 rfl ?_
  obtain ⟨r2543, hc2544, h⟩ := ob (fun z9 => z9) rfl h
  rcases r2543 with q2545 | E2549
  · refine c_X (rest := [.int (0 : Int32), .ref (ao 0)]) 0 0 _ dL_isDoubted_4 kv_L_48 (ct_Main_isDoubted hc2544) rfl rfl lX_0 rfl (Nat.le_of_ble_eq_true rfl) (by decide) (by decide) ?_
    try dsimp only [Sum.elim_inl, Sum.elim_inr] at h
    refine r_if_eq (tgt := 14) dL_isDoubted_7 (by decide) (fun hc2546 => ?_) (fun hc2546 => ?_)
    · have h := ip (fun z9 => z9) hc2546 h
      refine r_lconst (v := (0 : Int64)) dL_isDoubted_14 (by decide) ?_
      refine r_last _ dL_isDoubted_15 lO_0 (by decide) (sO_0 _) ?_
      refine r_goto (tgt := 22) dL_isDoubted_16 (by decide) ?_
      refine r_iconst (v := (0 : Int32)) dL_isDoubted_22 (by decide) ?_
      refine r_iret dL_isDoubted_23 rfl ?_
      have h := Option.some.inj (show some _ = some o from h)
      subst h
      exact hq
    · have h := iq (fun z9 => z9) hc2546 h
      refine r_lconst (v := (1 : Int64)) dL_isDoubted_10 (by decide) ?_
      refine r_goto (tgt := 15) dL_isDoubted_11 (by decide) ?_
      refine r_last _ dL_isDoubted_15 lO_0 (by decide) (sO_0 _) ?_
      refine r_goto (tgt := 22) dL_isDoubted_16 (by decide) ?_
      refine r_iconst (v := (0 : Int32)) dL_isDoubted_22 (by decide) ?_
      refine r_iret dL_isDoubted_23 rfl ?_
      have h := Option.some.inj (show some _ = some o from h)
      subst h
      exact hq
  · refine c_Xt (rest := [.int (0 : Int32), .ref (ao 0)]) 0 0 _ dL_isDoubted_4 kv_L_48 (ct_Main_isDoubted hc2544) rfl rfl lX_0 rfl (Nat.le_of_ble_eq_true rfl) (by decide) (by decide) ?_
    have h : (fun z9 => z9) _ = some o := h
    by_cases hE0 : E2549 = "java/lang/IndexOutOfBoundsException"
    · have h := ip (fun z9 => z9) hE0 h
      subst hE0
      refine rx_catch (pre := []) (z := { startPc := 0, endPc := 16, handlerPc := 19, catchType := 24 }) (suf := []) rfl (fun z hz => absurd hz List.not_mem_nil) (by decide) (by decide) kk_1116 kn_1127 (fun qx2550 => ?_)
      refine r_astore_n [(3, .ref qx2550), (0, .ref (ad 0)), (1, .int p1), (2, .ref (ao 0))] dL_isDoubted_19 (by decide) rfl ?_
      refine r_iconst (v := (1 : Int32)) dL_isDoubted_20 (by decide) ?_
      refine r_iret dL_isDoubted_21 rfl ?_
      have h := Option.some.inj (show some _ = some o from h)
      subst h
      exact hq
    have h := iq (fun z9 => z9) hE0 h
    exact nomatch (show (none : Option _) = some _ from h)
theorem ct_L_isDoubted {g : GG} {ad : Nat → Nat} {ao : Nat → Nat} {t : va_W} {x0 x1 x3 x5 x11 x12 x18 x19 x20 x24 x25 x26 x27 x28 x29 x30 x31 x37 x39 x40 x41 x47 x48 x54 x56 x58 x60 x61 x63 x64 x65 x66 : Int32} {x2 x6 x7 x8 x9 x10 x13 x14 x15 x16 x17 x21 x22 x23 x33 x34 x35 x42 x43 x44 x45 x46 x49 x50 x51 x52 x53 x62 x67 : Nat → Int32} {x32 : Int64} {x36 x38 x55 x57 : Nat → Int64} {Tap_tellerCount : Int32} {Co_doubted : Int32} {L_out : Nat → Int64} {p1 : Int32} {o : Int32 × (Nat → Int64)} (h : f_L_isDoubted Tap_tellerCount Co_doubted L_out p1 = some o) : Ct g mL_isDoubted 8 1 6 [.ref (ad 0), .int p1, .ref (ao 0)] (wlX g ad x0 x1 x2 x3 Tap_tellerCount x5 x6 x7 x8 x9 x10 x11 x12 x13 x14 x15 x16 x17 x18 x19 x20 x21 x22 x23 x24 x25 x26 x27 x28 x29 x30 x31 x32 x33 x34 x35 x36 x37 x38 x39 x40 x41 x42 x43 x44 x45 x46 x47 x48 x49 x50 x51 x52 x53 x54 x55 x56 x57 x58 Co_doubted x60 x61 x62 x63 x64 x65 x66 x67 ++ (wlO g ao L_out ++ t)) (Dv (some (.int o.1)) (wlX g ad x0 x1 x2 x3 Tap_tellerCount x5 x6 x7 x8 x9 x10 x11 x12 x13 x14 x15 x16 x17 x18 x19 x20 x21 x22 x23 x24 x25 x26 x27 x28 x29 x30 x31 x32 x33 x34 x35 x36 x37 x38 x39 x40 x41 x42 x43 x44 x45 x46 x47 x48 x49 x50 x51 x52 x53 x54 x55 x56 x57 x58 Co_doubted x60 x61 x62 x63 x64 x65 x66 x67 ++ (wlO g ao o.2 ++ t))) := Ct.ofRH (by decide +kernel) (by decide) (Nat.le_of_ble_eq_true rfl) (rt_L_isDoubted h ⟨rfl, rfl⟩)
set_option maxRecDepth 20000 in
set_option maxHeartbeats 4000000 in
theorem rt_L_doContradict {g : GG} {ad : Nat → Nat} {ao : Nat → Nat} {t : va_W} {x0 x1 x3 x5 x11 x12 x18 x19 x20 x24 x25 x26 x27 x28 x29 x30 x31 x37 x39 x40 x41 x47 x48 x54 x56 x58 x60 x61 x63 x64 x65 x66 : Int32} {x2 x6 x7 x8 x9 x10 x13 x14 x15 x16 x17 x22 x23 x33 x34 x35 x42 x43 x44 x45 x46 x49 x50 x51 x52 x53 x62 x67 : Nat → Int32} {x32 : Int64} {x36 x38 x55 x57 : Nat → Int64} {Tap_tellerCount : Int32} {Ve_against : Nat → Int32} {Co_doubted : Int32} {L_out : Nat → Int64} {p1 : Int32} {p2 : Int32} {o : Int32 × (Nat → Int64)} {Q : Rs → va_W → Prop} (h : f_L_doContradict Tap_tellerCount Ve_against Co_doubted L_out p1 p2 = some o) (hq : Q (.inl (some (.int o.1))) (wlX g ad x0 x1 x2 x3 Tap_tellerCount x5 x6 x7 x8 x9 x10 x11 x12 x13 x14 x15 x16 x17 x18 x19 x20 Ve_against x22 x23 x24 x25 x26 x27 x28 x29 x30 x31 x32 x33 x34 x35 x36 x37 x38 x39 x40 x41 x42 x43 x44 x45 x46 x47 x48 x49 x50 x51 x52 x53 x54 x55 x56 x57 x58 Co_doubted x60 x61 x62 x63 x64 x65 x66 x67 ++ (wlO g ao o.2 ++ t))) : R g mL_doContradict 8 2 12 0 [(0, .ref (ad 0)), (1, .int p1), (2, .int p2), (3, .ref (ao 0))] [] (wlX g ad x0 x1 x2 x3 Tap_tellerCount x5 x6 x7 x8 x9 x10 x11 x12 x13 x14 x15 x16 x17 x18 x19 x20 Ve_against x22 x23 x24 x25 x26 x27 x28 x29 x30 x31 x32 x33 x34 x35 x36 x37 x38 x39 x40 x41 x42 x43 x44 x45 x46 x47 x48 x49 x50 x51 x52 x53 x54 x55 x56 x57 x58 Co_doubted x60 x61 x62 x63 x64 x65 x66 x67 ++ (wlO g ao L_out ++ t)) Q := by
  unfold f_L_doContradict at h
  refine r_aload_n 3 dL_doContradict_0 rfl ?_
  refine r_iconst (v := (0 : Int32)) dL_doContradict_1 (by decide) ?_
  refine r_aload_n 0 dL_doContradict_2 rfl ?_
  refine r_iload_n 1 dL_doContradict_3 rfl ?_
  refine r_iload_n 2 dL_doContradict_4 rfl ?_
  obtain ⟨r2551, hc2552, h⟩ := ob (fun z9 => z9) rfl h
  rcases r2551 with q2553 | E2557
  · refine c_X (rest := [.int (0 : Int32), .ref (ao 0)]) 0 0 _ dL_doContradict_5 kv_L_52 (ct_Main_doContradict hc2552) rfl rfl lX_0 rfl (Nat.le_of_ble_eq_true rfl) (by decide) (by decide) ?_
    try dsimp only [Sum.elim_inl, Sum.elim_inr] at h
    refine r_if_eq (tgt := 15) dL_doContradict_8 (by decide) (fun hc2554 => ?_) (fun hc2554 => ?_)
    · have h := ip (fun z9 => z9) hc2554 h
      refine r_lconst (v := (0 : Int64)) dL_doContradict_15 (by decide) ?_
      refine r_last _ dL_doContradict_16 lO_0 (by decide) (sO_0 _) ?_
      refine r_goto (tgt := 24) dL_doContradict_17 (by decide) ?_
      refine r_iconst (v := (0 : Int32)) dL_doContradict_24 (by decide) ?_
      refine r_iret dL_doContradict_25 rfl ?_
      have h := Option.some.inj (show some _ = some o from h)
      subst h
      exact hq
    · have h := iq (fun z9 => z9) hc2554 h
      refine r_lconst (v := (1 : Int64)) dL_doContradict_11 (by decide) ?_
      refine r_goto (tgt := 16) dL_doContradict_12 (by decide) ?_
      refine r_last _ dL_doContradict_16 lO_0 (by decide) (sO_0 _) ?_
      refine r_goto (tgt := 24) dL_doContradict_17 (by decide) ?_
      refine r_iconst (v := (0 : Int32)) dL_doContradict_24 (by decide) ?_
      refine r_iret dL_doContradict_25 rfl ?_
      have h := Option.some.inj (show some _ = some o from h)
      subst h
      exact hq
  · refine c_Xt (rest := [.int (0 : Int32), .ref (ao 0)]) 0 0 _ dL_doContradict_5 kv_L_52 (ct_Main_doContradict hc2552) rfl rfl lX_0 rfl (Nat.le_of_ble_eq_true rfl) (by decide) (by decide) ?_
    have h : (fun z9 => z9) _ = some o := h
    by_cases hE0 : E2557 = "java/lang/IndexOutOfBoundsException"
    · have h := ip (fun z9 => z9) hE0 h
      subst hE0
      refine rx_catch (pre := []) (z := { startPc := 0, endPc := 17, handlerPc := 20, catchType := 24 }) (suf := []) rfl (fun z hz => absurd hz List.not_mem_nil) (by decide) (by decide) kk_1116 kn_1127 (fun qx2558 => ?_)
      refine r_astore [(4, .ref qx2558), (0, .ref (ad 0)), (1, .int p1), (2, .int p2), (3, .ref (ao 0))] dL_doContradict_20 (by decide) rfl ?_
      refine r_iconst (v := (1 : Int32)) dL_doContradict_22 (by decide) ?_
      refine r_iret dL_doContradict_23 rfl ?_
      have h := Option.some.inj (show some _ = some o from h)
      subst h
      exact hq
    have h := iq (fun z9 => z9) hE0 h
    exact nomatch (show (none : Option _) = some _ from h)
theorem ct_L_doContradict {g : GG} {ad : Nat → Nat} {ao : Nat → Nat} {t : va_W} {x0 x1 x3 x5 x11 x12 x18 x19 x20 x24 x25 x26 x27 x28 x29 x30 x31 x37 x39 x40 x41 x47 x48 x54 x56 x58 x60 x61 x63 x64 x65 x66 : Int32} {x2 x6 x7 x8 x9 x10 x13 x14 x15 x16 x17 x22 x23 x33 x34 x35 x42 x43 x44 x45 x46 x49 x50 x51 x52 x53 x62 x67 : Nat → Int32} {x32 : Int64} {x36 x38 x55 x57 : Nat → Int64} {Tap_tellerCount : Int32} {Ve_against : Nat → Int32} {Co_doubted : Int32} {L_out : Nat → Int64} {p1 : Int32} {p2 : Int32} {o : Int32 × (Nat → Int64)} (h : f_L_doContradict Tap_tellerCount Ve_against Co_doubted L_out p1 p2 = some o) : Ct g mL_doContradict 8 2 12 [.ref (ad 0), .int p1, .int p2, .ref (ao 0)] (wlX g ad x0 x1 x2 x3 Tap_tellerCount x5 x6 x7 x8 x9 x10 x11 x12 x13 x14 x15 x16 x17 x18 x19 x20 Ve_against x22 x23 x24 x25 x26 x27 x28 x29 x30 x31 x32 x33 x34 x35 x36 x37 x38 x39 x40 x41 x42 x43 x44 x45 x46 x47 x48 x49 x50 x51 x52 x53 x54 x55 x56 x57 x58 Co_doubted x60 x61 x62 x63 x64 x65 x66 x67 ++ (wlO g ao L_out ++ t)) (Dv (some (.int o.1)) (wlX g ad x0 x1 x2 x3 Tap_tellerCount x5 x6 x7 x8 x9 x10 x11 x12 x13 x14 x15 x16 x17 x18 x19 x20 Ve_against x22 x23 x24 x25 x26 x27 x28 x29 x30 x31 x32 x33 x34 x35 x36 x37 x38 x39 x40 x41 x42 x43 x44 x45 x46 x47 x48 x49 x50 x51 x52 x53 x54 x55 x56 x57 x58 Co_doubted x60 x61 x62 x63 x64 x65 x66 x67 ++ (wlO g ao o.2 ++ t))) := Ct.ofRH (by decide +kernel) (by decide) (Nat.le_of_ble_eq_true rfl) (rt_L_doContradict h ⟨rfl, rfl⟩)
set_option maxRecDepth 20000 in
set_option maxHeartbeats 4000000 in
theorem rt_L_contraryPairs {g : GG} {ad : Nat → Nat} {ao : Nat → Nat} {t : va_W} {x0 x1 x3 x11 x12 x18 x19 x20 x24 x25 x26 x27 x28 x29 x30 x31 x37 x39 x40 x41 x47 x48 x54 x56 x58 x59 x60 x61 x63 x64 x65 x66 : Int32} {x2 x13 x14 x15 x16 x17 x21 x22 x23 x33 x34 x35 x42 x43 x44 x45 x46 x49 x50 x51 x52 x53 x62 x67 : Nat → Int32} {x32 : Int64} {x36 x38 x55 x57 : Nat → Int64} {N : Nat} {Tap_tellerCount : Int32} {Cl_count : Int32} {Cl_tellers : Nat → Int32} {Cl_kinds : Nat → Int32} {Cl_events : Nat → Int32} {Cl_firsts : Nat → Int32} {Cl_lasts : Nat → Int32} {L_out : Nat → Int64} {p1 : Int32} {p2 : Int32} {o : Int32 × (Nat → Int64)} {Q : Rs → va_W → Prop} (h : f_L_contraryPairs N Tap_tellerCount Cl_count Cl_tellers Cl_kinds Cl_events Cl_firsts Cl_lasts L_out p1 p2 = some o) (hq : Q (.inl (some (.int o.1))) (wlX g ad x0 x1 x2 x3 Tap_tellerCount Cl_count Cl_tellers Cl_kinds Cl_events Cl_firsts Cl_lasts x11 x12 x13 x14 x15 x16 x17 x18 x19 x20 x21 x22 x23 x24 x25 x26 x27 x28 x29 x30 x31 x32 x33 x34 x35 x36 x37 x38 x39 x40 x41 x42 x43 x44 x45 x46 x47 x48 x49 x50 x51 x52 x53 x54 x55 x56 x57 x58 x59 x60 x61 x62 x63 x64 x65 x66 x67 ++ (wlO g ao o.2 ++ t))) : R g mL_contraryPairs 8 2 12 0 [(0, .ref (ad 0)), (1, .int p1), (2, .int p2), (3, .ref (ao 0))] [] (wlX g ad x0 x1 x2 x3 Tap_tellerCount Cl_count Cl_tellers Cl_kinds Cl_events Cl_firsts Cl_lasts x11 x12 x13 x14 x15 x16 x17 x18 x19 x20 x21 x22 x23 x24 x25 x26 x27 x28 x29 x30 x31 x32 x33 x34 x35 x36 x37 x38 x39 x40 x41 x42 x43 x44 x45 x46 x47 x48 x49 x50 x51 x52 x53 x54 x55 x56 x57 x58 x59 x60 x61 x62 x63 x64 x65 x66 x67 ++ (wlO g ao L_out ++ t)) Q := by
  unfold f_L_contraryPairs at h
  refine r_aload_n 3 dL_contraryPairs_0 rfl ?_
  refine r_iconst (v := (0 : Int32)) dL_contraryPairs_1 (by decide) ?_
  refine r_aload_n 0 dL_contraryPairs_2 rfl ?_
  refine r_iload_n 1 dL_contraryPairs_3 rfl ?_
  refine r_iload_n 2 dL_contraryPairs_4 rfl ?_
  obtain ⟨r2559, hc2560, h⟩ := ob (fun z9 => z9) rfl h
  rcases r2559 with q2561 | E2563
  · refine c_X (rest := [.int (0 : Int32), .ref (ao 0)]) 0 0 _ dL_contraryPairs_5 kv_L_55 (ct_Main_contraryPairs hc2560) rfl rfl lX_0 rfl (Nat.le_of_ble_eq_true rfl) (by decide) (by decide) ?_
    try dsimp only [Sum.elim_inl, Sum.elim_inr] at h
    refine r_i2l dL_contraryPairs_8 ?_
    refine r_last _ dL_contraryPairs_9 lO_0 (by decide) (sO_0 _) ?_
    refine r_goto (tgt := 17) dL_contraryPairs_10 (by decide) ?_
    refine r_iconst (v := (0 : Int32)) dL_contraryPairs_17 (by decide) ?_
    refine r_iret dL_contraryPairs_18 rfl ?_
    have h := Option.some.inj (show some _ = some o from h)
    subst h
    exact hq
  · refine c_Xt (rest := [.int (0 : Int32), .ref (ao 0)]) 0 0 _ dL_contraryPairs_5 kv_L_55 (ct_Main_contraryPairs hc2560) rfl rfl lX_0 rfl (Nat.le_of_ble_eq_true rfl) (by decide) (by decide) ?_
    have h : (fun z9 => z9) _ = some o := h
    by_cases hE0 : E2563 = "java/lang/IndexOutOfBoundsException"
    · have h := ip (fun z9 => z9) hE0 h
      subst hE0
      refine rx_catch (pre := []) (z := { startPc := 0, endPc := 10, handlerPc := 13, catchType := 24 }) (suf := []) rfl (fun z hz => absurd hz List.not_mem_nil) (by decide) (by decide) kk_1116 kn_1127 (fun qx2564 => ?_)
      refine r_astore [(4, .ref qx2564), (0, .ref (ad 0)), (1, .int p1), (2, .int p2), (3, .ref (ao 0))] dL_contraryPairs_13 (by decide) rfl ?_
      refine r_iconst (v := (1 : Int32)) dL_contraryPairs_15 (by decide) ?_
      refine r_iret dL_contraryPairs_16 rfl ?_
      have h := Option.some.inj (show some _ = some o from h)
      subst h
      exact hq
    have h := iq (fun z9 => z9) hE0 h
    exact nomatch (show (none : Option _) = some _ from h)
theorem ct_L_contraryPairs {g : GG} {ad : Nat → Nat} {ao : Nat → Nat} {t : va_W} {x0 x1 x3 x11 x12 x18 x19 x20 x24 x25 x26 x27 x28 x29 x30 x31 x37 x39 x40 x41 x47 x48 x54 x56 x58 x59 x60 x61 x63 x64 x65 x66 : Int32} {x2 x13 x14 x15 x16 x17 x21 x22 x23 x33 x34 x35 x42 x43 x44 x45 x46 x49 x50 x51 x52 x53 x62 x67 : Nat → Int32} {x32 : Int64} {x36 x38 x55 x57 : Nat → Int64} {N : Nat} {Tap_tellerCount : Int32} {Cl_count : Int32} {Cl_tellers : Nat → Int32} {Cl_kinds : Nat → Int32} {Cl_events : Nat → Int32} {Cl_firsts : Nat → Int32} {Cl_lasts : Nat → Int32} {L_out : Nat → Int64} {p1 : Int32} {p2 : Int32} {o : Int32 × (Nat → Int64)} (h : f_L_contraryPairs N Tap_tellerCount Cl_count Cl_tellers Cl_kinds Cl_events Cl_firsts Cl_lasts L_out p1 p2 = some o) : Ct g mL_contraryPairs 8 2 12 [.ref (ad 0), .int p1, .int p2, .ref (ao 0)] (wlX g ad x0 x1 x2 x3 Tap_tellerCount Cl_count Cl_tellers Cl_kinds Cl_events Cl_firsts Cl_lasts x11 x12 x13 x14 x15 x16 x17 x18 x19 x20 x21 x22 x23 x24 x25 x26 x27 x28 x29 x30 x31 x32 x33 x34 x35 x36 x37 x38 x39 x40 x41 x42 x43 x44 x45 x46 x47 x48 x49 x50 x51 x52 x53 x54 x55 x56 x57 x58 x59 x60 x61 x62 x63 x64 x65 x66 x67 ++ (wlO g ao L_out ++ t)) (Dv (some (.int o.1)) (wlX g ad x0 x1 x2 x3 Tap_tellerCount Cl_count Cl_tellers Cl_kinds Cl_events Cl_firsts Cl_lasts x11 x12 x13 x14 x15 x16 x17 x18 x19 x20 x21 x22 x23 x24 x25 x26 x27 x28 x29 x30 x31 x32 x33 x34 x35 x36 x37 x38 x39 x40 x41 x42 x43 x44 x45 x46 x47 x48 x49 x50 x51 x52 x53 x54 x55 x56 x57 x58 x59 x60 x61 x62 x63 x64 x65 x66 x67 ++ (wlO g ao o.2 ++ t))) := Ct.ofRH (by decide +kernel) (by decide) (Nat.le_of_ble_eq_true rfl) (rt_L_contraryPairs h ⟨rfl, rfl⟩)
set_option maxRecDepth 20000 in
set_option maxHeartbeats 4000000 in
theorem rt_L_isLiar {g : GG} {ad : Nat → Nat} {ao : Nat → Nat} {t : va_W} {x0 x1 x3 x5 x11 x12 x24 x25 x26 x27 x28 x29 x30 x31 x37 x39 x40 x41 x47 x48 x54 x56 x58 x60 x61 x63 x64 x65 x66 : Int32} {x2 x6 x7 x8 x9 x10 x13 x14 x15 x16 x17 x22 x23 x33 x34 x35 x42 x43 x44 x45 x46 x49 x50 x51 x52 x53 x62 x67 : Nat → Int32} {x32 : Int64} {x36 x38 x55 x57 : Nat → Int64} {N : Nat} {Tap_tellerCount : Int32} {Ve_judged : Int32} {Ve_liarSet : Int32} {Ve_setCount : Int32} {Ve_against : Nat → Int32} {Co_doubted : Int32} {L_out : Nat → Int64} {p1 : Int32} {o : Int32 × Int32 × Int32 × Int32 × (Nat → Int64)} {Q : Rs → va_W → Prop} (h : f_L_isLiar N Tap_tellerCount Ve_judged Ve_liarSet Ve_setCount Ve_against Co_doubted L_out p1 = some o) (hq : Q (.inl (some (.int o.1))) (wlX g ad x0 x1 x2 x3 Tap_tellerCount x5 x6 x7 x8 x9 x10 x11 x12 x13 x14 x15 x16 x17 o.2.1 o.2.2.1 o.2.2.2.1 Ve_against x22 x23 x24 x25 x26 x27 x28 x29 x30 x31 x32 x33 x34 x35 x36 x37 x38 x39 x40 x41 x42 x43 x44 x45 x46 x47 x48 x49 x50 x51 x52 x53 x54 x55 x56 x57 x58 Co_doubted x60 x61 x62 x63 x64 x65 x66 x67 ++ (wlO g ao o.2.2.2.2 ++ t))) : R g mL_isLiar 8 1 6 0 [(0, .ref (ad 0)), (1, .int p1), (2, .ref (ao 0))] [] (wlX g ad x0 x1 x2 x3 Tap_tellerCount x5 x6 x7 x8 x9 x10 x11 x12 x13 x14 x15 x16 x17 Ve_judged Ve_liarSet Ve_setCount Ve_against x22 x23 x24 x25 x26 x27 x28 x29 x30 x31 x32 x33 x34 x35 x36 x37 x38 x39 x40 x41 x42 x43 x44 x45 x46 x47 x48 x49 x50 x51 x52 x53 x54 x55 x56 x57 x58 Co_doubted x60 x61 x62 x63 x64 x65 x66 x67 ++ (wlO g ao L_out ++ t)) Q := by
  unfold f_L_isLiar at h
  refine r_aload_n 2 dL_isLiar_0 rfl ?_
  refine r_iconst (v := (0 : Int32)) dL_isLiar_1 (by decide) ?_
  refine r_aload_n 0 dL_isLiar_2 rfl ?_
  refine r_iload_n 1 dL_isLiar_3 rfl ?_
  obtain ⟨r2565, hc2566, h⟩ := ob (fun z9 => z9) rfl h
  rcases r2565 with q2567 | E2571
  · refine c_X (rest := [.int (0 : Int32), .ref (ao 0)]) 0 0 _ dL_isLiar_4 kv_L_59 (ct_Main_isLiar hc2566) rfl rfl lX_0 rfl (Nat.le_of_ble_eq_true rfl) (by decide) (by decide) ?_
    try dsimp only [Sum.elim_inl, Sum.elim_inr] at h
    refine r_if_eq (tgt := 14) dL_isLiar_7 (by decide) (fun hc2568 => ?_) (fun hc2568 => ?_)
    · have h := ip (fun z9 => z9) hc2568 h
      refine r_lconst (v := (0 : Int64)) dL_isLiar_14 (by decide) ?_
      refine r_last _ dL_isLiar_15 lO_0 (by decide) (sO_0 _) ?_
      refine r_goto (tgt := 22) dL_isLiar_16 (by decide) ?_
      refine r_iconst (v := (0 : Int32)) dL_isLiar_22 (by decide) ?_
      refine r_iret dL_isLiar_23 rfl ?_
      have h := Option.some.inj (show some _ = some o from h)
      subst h
      exact hq
    · have h := iq (fun z9 => z9) hc2568 h
      refine r_lconst (v := (1 : Int64)) dL_isLiar_10 (by decide) ?_
      refine r_goto (tgt := 15) dL_isLiar_11 (by decide) ?_
      refine r_last _ dL_isLiar_15 lO_0 (by decide) (sO_0 _) ?_
      refine r_goto (tgt := 22) dL_isLiar_16 (by decide) ?_
      refine r_iconst (v := (0 : Int32)) dL_isLiar_22 (by decide) ?_
      refine r_iret dL_isLiar_23 rfl ?_
      have h := Option.some.inj (show some _ = some o from h)
      subst h
      exact hq
  · refine c_Xt (rest := [.int (0 : Int32), .ref (ao 0)]) 0 0 _ dL_isLiar_4 kv_L_59 (ct_Main_isLiar hc2566) rfl rfl lX_0 rfl (Nat.le_of_ble_eq_true rfl) (by decide) (by decide) ?_
    have h : (fun z9 => z9) _ = some o := h
    by_cases hE0 : E2571 = "java/lang/IndexOutOfBoundsException"
    · have h := ip (fun z9 => z9) hE0 h
      subst hE0
      refine rx_catch (pre := []) (z := { startPc := 0, endPc := 16, handlerPc := 19, catchType := 24 }) (suf := []) rfl (fun z hz => absurd hz List.not_mem_nil) (by decide) (by decide) kk_1116 kn_1127 (fun qx2572 => ?_)
      refine r_astore_n [(3, .ref qx2572), (0, .ref (ad 0)), (1, .int p1), (2, .ref (ao 0))] dL_isLiar_19 (by decide) rfl ?_
      refine r_iconst (v := (1 : Int32)) dL_isLiar_20 (by decide) ?_
      refine r_iret dL_isLiar_21 rfl ?_
      have h := Option.some.inj (show some _ = some o from h)
      subst h
      exact hq
    have h := iq (fun z9 => z9) hE0 h
    exact nomatch (show (none : Option _) = some _ from h)
theorem ct_L_isLiar {g : GG} {ad : Nat → Nat} {ao : Nat → Nat} {t : va_W} {x0 x1 x3 x5 x11 x12 x24 x25 x26 x27 x28 x29 x30 x31 x37 x39 x40 x41 x47 x48 x54 x56 x58 x60 x61 x63 x64 x65 x66 : Int32} {x2 x6 x7 x8 x9 x10 x13 x14 x15 x16 x17 x22 x23 x33 x34 x35 x42 x43 x44 x45 x46 x49 x50 x51 x52 x53 x62 x67 : Nat → Int32} {x32 : Int64} {x36 x38 x55 x57 : Nat → Int64} {N : Nat} {Tap_tellerCount : Int32} {Ve_judged : Int32} {Ve_liarSet : Int32} {Ve_setCount : Int32} {Ve_against : Nat → Int32} {Co_doubted : Int32} {L_out : Nat → Int64} {p1 : Int32} {o : Int32 × Int32 × Int32 × Int32 × (Nat → Int64)} (h : f_L_isLiar N Tap_tellerCount Ve_judged Ve_liarSet Ve_setCount Ve_against Co_doubted L_out p1 = some o) : Ct g mL_isLiar 8 1 6 [.ref (ad 0), .int p1, .ref (ao 0)] (wlX g ad x0 x1 x2 x3 Tap_tellerCount x5 x6 x7 x8 x9 x10 x11 x12 x13 x14 x15 x16 x17 Ve_judged Ve_liarSet Ve_setCount Ve_against x22 x23 x24 x25 x26 x27 x28 x29 x30 x31 x32 x33 x34 x35 x36 x37 x38 x39 x40 x41 x42 x43 x44 x45 x46 x47 x48 x49 x50 x51 x52 x53 x54 x55 x56 x57 x58 Co_doubted x60 x61 x62 x63 x64 x65 x66 x67 ++ (wlO g ao L_out ++ t)) (Dv (some (.int o.1)) (wlX g ad x0 x1 x2 x3 Tap_tellerCount x5 x6 x7 x8 x9 x10 x11 x12 x13 x14 x15 x16 x17 o.2.1 o.2.2.1 o.2.2.2.1 Ve_against x22 x23 x24 x25 x26 x27 x28 x29 x30 x31 x32 x33 x34 x35 x36 x37 x38 x39 x40 x41 x42 x43 x44 x45 x46 x47 x48 x49 x50 x51 x52 x53 x54 x55 x56 x57 x58 Co_doubted x60 x61 x62 x63 x64 x65 x66 x67 ++ (wlO g ao o.2.2.2.2 ++ t))) := Ct.ofRH (by decide +kernel) (by decide) (Nat.le_of_ble_eq_true rfl) (rt_L_isLiar h ⟨rfl, rfl⟩)
set_option maxRecDepth 20000 in
set_option maxHeartbeats 4000000 in
theorem rt_L_isAgreed {g : GG} {ad : Nat → Nat} {ao : Nat → Nat} {t : va_W} {x0 x1 x4 x11 x12 x18 x19 x20 x24 x25 x26 x27 x28 x29 x30 x31 x37 x39 x40 x41 x47 x48 x54 x56 x58 x60 x61 x63 x64 x65 x66 : Int32} {x2 x13 x14 x15 x16 x17 x21 x22 x23 x33 x34 x35 x42 x43 x44 x45 x46 x49 x50 x51 x52 x53 x62 x67 : Nat → Int32} {x32 : Int64} {x36 x38 x55 x57 : Nat → Int64} {N : Nat} {Tap_eventCount : Int32} {Cl_count : Int32} {Cl_tellers : Nat → Int32} {Cl_kinds : Nat → Int32} {Cl_events : Nat → Int32} {Cl_firsts : Nat → Int32} {Cl_lasts : Nat → Int32} {Co_doubted : Int32} {L_out : Nat → Int64} {p1 : Int32} {o : Int32 × (Nat → Int64)} {Q : Rs → va_W → Prop} (h : f_L_isAgreed N Tap_eventCount Cl_count Cl_tellers Cl_kinds Cl_events Cl_firsts Cl_lasts Co_doubted L_out p1 = some o) (hq : Q (.inl (some (.int o.1))) (wlX g ad x0 x1 x2 Tap_eventCount x4 Cl_count Cl_tellers Cl_kinds Cl_events Cl_firsts Cl_lasts x11 x12 x13 x14 x15 x16 x17 x18 x19 x20 x21 x22 x23 x24 x25 x26 x27 x28 x29 x30 x31 x32 x33 x34 x35 x36 x37 x38 x39 x40 x41 x42 x43 x44 x45 x46 x47 x48 x49 x50 x51 x52 x53 x54 x55 x56 x57 x58 Co_doubted x60 x61 x62 x63 x64 x65 x66 x67 ++ (wlO g ao o.2 ++ t))) : R g mL_isAgreed 8 1 6 0 [(0, .ref (ad 0)), (1, .int p1), (2, .ref (ao 0))] [] (wlX g ad x0 x1 x2 Tap_eventCount x4 Cl_count Cl_tellers Cl_kinds Cl_events Cl_firsts Cl_lasts x11 x12 x13 x14 x15 x16 x17 x18 x19 x20 x21 x22 x23 x24 x25 x26 x27 x28 x29 x30 x31 x32 x33 x34 x35 x36 x37 x38 x39 x40 x41 x42 x43 x44 x45 x46 x47 x48 x49 x50 x51 x52 x53 x54 x55 x56 x57 x58 Co_doubted x60 x61 x62 x63 x64 x65 x66 x67 ++ (wlO g ao L_out ++ t)) Q := by
  unfold f_L_isAgreed at h
  refine r_aload_n 2 dL_isAgreed_0 rfl ?_
  refine r_iconst (v := (0 : Int32)) dL_isAgreed_1 (by decide) ?_
  refine r_aload_n 0 dL_isAgreed_2 rfl ?_
  refine r_iload_n 1 dL_isAgreed_3 rfl ?_
  obtain ⟨r2573, hc2574, h⟩ := ob (fun z9 => z9) rfl h
  rcases r2573 with q2575 | E2579
  · refine c_X (rest := [.int (0 : Int32), .ref (ao 0)]) 0 0 _ dL_isAgreed_4 kv_L_62 (ct_Main_isAgreed hc2574) rfl rfl lX_0 rfl (Nat.le_of_ble_eq_true rfl) (by decide) (by decide) ?_
    try dsimp only [Sum.elim_inl, Sum.elim_inr] at h
    refine r_if_eq (tgt := 14) dL_isAgreed_7 (by decide) (fun hc2576 => ?_) (fun hc2576 => ?_)
    · have h := ip (fun z9 => z9) hc2576 h
      refine r_lconst (v := (0 : Int64)) dL_isAgreed_14 (by decide) ?_
      refine r_last _ dL_isAgreed_15 lO_0 (by decide) (sO_0 _) ?_
      refine r_goto (tgt := 22) dL_isAgreed_16 (by decide) ?_
      refine r_iconst (v := (0 : Int32)) dL_isAgreed_22 (by decide) ?_
      refine r_iret dL_isAgreed_23 rfl ?_
      have h := Option.some.inj (show some _ = some o from h)
      subst h
      exact hq
    · have h := iq (fun z9 => z9) hc2576 h
      refine r_lconst (v := (1 : Int64)) dL_isAgreed_10 (by decide) ?_
      refine r_goto (tgt := 15) dL_isAgreed_11 (by decide) ?_
      refine r_last _ dL_isAgreed_15 lO_0 (by decide) (sO_0 _) ?_
      refine r_goto (tgt := 22) dL_isAgreed_16 (by decide) ?_
      refine r_iconst (v := (0 : Int32)) dL_isAgreed_22 (by decide) ?_
      refine r_iret dL_isAgreed_23 rfl ?_
      have h := Option.some.inj (show some _ = some o from h)
      subst h
      exact hq
  · refine c_Xt (rest := [.int (0 : Int32), .ref (ao 0)]) 0 0 _ dL_isAgreed_4 kv_L_62 (ct_Main_isAgreed hc2574) rfl rfl lX_0 rfl (Nat.le_of_ble_eq_true rfl) (by decide) (by decide) ?_
    have h : (fun z9 => z9) _ = some o := h
    by_cases hE0 : E2579 = "java/lang/IndexOutOfBoundsException"
    · have h := ip (fun z9 => z9) hE0 h
      subst hE0
      refine rx_catch (pre := []) (z := { startPc := 0, endPc := 16, handlerPc := 19, catchType := 24 }) (suf := []) rfl (fun z hz => absurd hz List.not_mem_nil) (by decide) (by decide) kk_1116 kn_1127 (fun qx2580 => ?_)
      refine r_astore_n [(3, .ref qx2580), (0, .ref (ad 0)), (1, .int p1), (2, .ref (ao 0))] dL_isAgreed_19 (by decide) rfl ?_
      refine r_iconst (v := (1 : Int32)) dL_isAgreed_20 (by decide) ?_
      refine r_iret dL_isAgreed_21 rfl ?_
      have h := Option.some.inj (show some _ = some o from h)
      subst h
      exact hq
    have h := iq (fun z9 => z9) hE0 h
    exact nomatch (show (none : Option _) = some _ from h)
theorem ct_L_isAgreed {g : GG} {ad : Nat → Nat} {ao : Nat → Nat} {t : va_W} {x0 x1 x4 x11 x12 x18 x19 x20 x24 x25 x26 x27 x28 x29 x30 x31 x37 x39 x40 x41 x47 x48 x54 x56 x58 x60 x61 x63 x64 x65 x66 : Int32} {x2 x13 x14 x15 x16 x17 x21 x22 x23 x33 x34 x35 x42 x43 x44 x45 x46 x49 x50 x51 x52 x53 x62 x67 : Nat → Int32} {x32 : Int64} {x36 x38 x55 x57 : Nat → Int64} {N : Nat} {Tap_eventCount : Int32} {Cl_count : Int32} {Cl_tellers : Nat → Int32} {Cl_kinds : Nat → Int32} {Cl_events : Nat → Int32} {Cl_firsts : Nat → Int32} {Cl_lasts : Nat → Int32} {Co_doubted : Int32} {L_out : Nat → Int64} {p1 : Int32} {o : Int32 × (Nat → Int64)} (h : f_L_isAgreed N Tap_eventCount Cl_count Cl_tellers Cl_kinds Cl_events Cl_firsts Cl_lasts Co_doubted L_out p1 = some o) : Ct g mL_isAgreed 8 1 6 [.ref (ad 0), .int p1, .ref (ao 0)] (wlX g ad x0 x1 x2 Tap_eventCount x4 Cl_count Cl_tellers Cl_kinds Cl_events Cl_firsts Cl_lasts x11 x12 x13 x14 x15 x16 x17 x18 x19 x20 x21 x22 x23 x24 x25 x26 x27 x28 x29 x30 x31 x32 x33 x34 x35 x36 x37 x38 x39 x40 x41 x42 x43 x44 x45 x46 x47 x48 x49 x50 x51 x52 x53 x54 x55 x56 x57 x58 Co_doubted x60 x61 x62 x63 x64 x65 x66 x67 ++ (wlO g ao L_out ++ t)) (Dv (some (.int o.1)) (wlX g ad x0 x1 x2 Tap_eventCount x4 Cl_count Cl_tellers Cl_kinds Cl_events Cl_firsts Cl_lasts x11 x12 x13 x14 x15 x16 x17 x18 x19 x20 x21 x22 x23 x24 x25 x26 x27 x28 x29 x30 x31 x32 x33 x34 x35 x36 x37 x38 x39 x40 x41 x42 x43 x44 x45 x46 x47 x48 x49 x50 x51 x52 x53 x54 x55 x56 x57 x58 Co_doubted x60 x61 x62 x63 x64 x65 x66 x67 ++ (wlO g ao o.2 ++ t))) := Ct.ofRH (by decide +kernel) (by decide) (Nat.le_of_ble_eq_true rfl) (rt_L_isAgreed h ⟨rfl, rfl⟩)
set_option maxRecDepth 20000 in
set_option maxHeartbeats 4000000 in
theorem rt_L_windowFrom {g : GG} {ad : Nat → Nat} {ao : Nat → Nat} {t : va_W} {x0 x1 x4 x11 x12 x18 x19 x20 x24 x25 x26 x27 x28 x29 x30 x31 x37 x39 x40 x41 x47 x48 x54 x56 x58 x60 x61 x63 x64 x65 x66 : Int32} {x2 x13 x14 x15 x16 x17 x21 x22 x23 x33 x34 x35 x42 x43 x44 x45 x46 x49 x50 x51 x52 x53 x62 x67 : Nat → Int32} {x32 : Int64} {x36 x38 x55 x57 : Nat → Int64} {N : Nat} {Tap_eventCount : Int32} {Cl_count : Int32} {Cl_tellers : Nat → Int32} {Cl_kinds : Nat → Int32} {Cl_events : Nat → Int32} {Cl_firsts : Nat → Int32} {Cl_lasts : Nat → Int32} {Co_doubted : Int32} {L_out : Nat → Int64} {p1 : Int32} {o : Int32 × (Nat → Int64)} {Q : Rs → va_W → Prop} (h : f_L_windowFrom N Tap_eventCount Cl_count Cl_tellers Cl_kinds Cl_events Cl_firsts Cl_lasts Co_doubted L_out p1 = some o) (hq : Q (.inl (some (.int o.1))) (wlX g ad x0 x1 x2 Tap_eventCount x4 Cl_count Cl_tellers Cl_kinds Cl_events Cl_firsts Cl_lasts x11 x12 x13 x14 x15 x16 x17 x18 x19 x20 x21 x22 x23 x24 x25 x26 x27 x28 x29 x30 x31 x32 x33 x34 x35 x36 x37 x38 x39 x40 x41 x42 x43 x44 x45 x46 x47 x48 x49 x50 x51 x52 x53 x54 x55 x56 x57 x58 Co_doubted x60 x61 x62 x63 x64 x65 x66 x67 ++ (wlO g ao o.2 ++ t))) : R g mL_windowFrom 8 2 12 0 [(0, .ref (ad 0)), (1, .int p1), (2, .ref (ao 0))] [] (wlX g ad x0 x1 x2 Tap_eventCount x4 Cl_count Cl_tellers Cl_kinds Cl_events Cl_firsts Cl_lasts x11 x12 x13 x14 x15 x16 x17 x18 x19 x20 x21 x22 x23 x24 x25 x26 x27 x28 x29 x30 x31 x32 x33 x34 x35 x36 x37 x38 x39 x40 x41 x42 x43 x44 x45 x46 x47 x48 x49 x50 x51 x52 x53 x54 x55 x56 x57 x58 Co_doubted x60 x61 x62 x63 x64 x65 x66 x67 ++ (wlO g ao L_out ++ t)) Q := by
  unfold f_L_windowFrom at h
  refine r_aload_n 2 dL_windowFrom_0 rfl ?_
  refine r_iconst (v := (0 : Int32)) dL_windowFrom_1 (by decide) ?_
  refine r_aload_n 0 dL_windowFrom_2 rfl ?_
  refine r_iload_n 1 dL_windowFrom_3 rfl ?_
  obtain ⟨r2581, hc2582, h⟩ := ob (fun z9 => z9) rfl h
  rcases r2581 with q2583 | E2585
  · refine c_X (rest := [.int (0 : Int32), .ref (ao 0)]) 0 0 _ dL_windowFrom_4 kv_L_65 (ct_Main_windowFrom hc2582) rfl rfl lX_0 rfl (Nat.le_of_ble_eq_true rfl) (by decide) (by decide) ?_
    try dsimp only [Sum.elim_inl, Sum.elim_inr] at h
    refine r_i2l dL_windowFrom_7 ?_
    refine r_last _ dL_windowFrom_8 lO_0 (by decide) (sO_0 _) ?_
    refine r_goto (tgt := 18) dL_windowFrom_9 (by decide) ?_
    refine r_iconst (v := (0 : Int32)) dL_windowFrom_18 (by decide) ?_
    refine r_iret dL_windowFrom_19 rfl ?_
    have h := Option.some.inj (show some _ = some o from h)
    subst h
    exact hq
  · refine c_Xt (rest := [.int (0 : Int32), .ref (ao 0)]) 0 0 _ dL_windowFrom_4 kv_L_65 (ct_Main_windowFrom hc2582) rfl rfl lX_0 rfl (Nat.le_of_ble_eq_true rfl) (by decide) (by decide) ?_
    have h : (fun z9 => z9) _ = some o := h
    by_cases hE0 : E2585 = "java/lang/IndexOutOfBoundsException"
    · have h := ip (fun z9 => z9) hE0 h
      subst hE0
      refine rx_catch (pre := []) (z := { startPc := 0, endPc := 9, handlerPc := 12, catchType := 24 }) (suf := [{ startPc := 0, endPc := 9, handlerPc := 15, catchType := 13 }]) rfl (fun z hz => absurd hz List.not_mem_nil) (by decide) (by decide) kk_1116 kn_1127 (fun qx2586 => ?_)
      refine r_astore_n [(3, .ref qx2586), (0, .ref (ad 0)), (1, .int p1), (2, .ref (ao 0))] dL_windowFrom_12 (by decide) rfl ?_
      refine r_iconst (v := (1 : Int32)) dL_windowFrom_13 (by decide) ?_
      refine r_iret dL_windowFrom_14 rfl ?_
      have h := Option.some.inj (show some _ = some o from h)
      subst h
      exact hq
    have h := iq (fun z9 => z9) hE0 h
    by_cases hE1 : E2585 = "java/lang/IllegalStateException"
    · have h := ip (fun z9 => z9) hE1 h
      subst hE1
      refine rx_catch (pre := [{ startPc := 0, endPc := 9, handlerPc := 12, catchType := 24 }]) (z := { startPc := 0, endPc := 9, handlerPc := 15, catchType := 13 }) (suf := []) rfl (List.forall_mem_cons.mpr ⟨⟨by decide, _, kk_1116, by decide⟩, fun _ hz => absurd hz List.not_mem_nil⟩) (by decide) (by decide) kk_1012 kn_1019 (fun qx2587 => ?_)
      refine r_astore_n [(3, .ref qx2587), (0, .ref (ad 0)), (1, .int p1), (2, .ref (ao 0))] dL_windowFrom_15 (by decide) rfl ?_
      refine r_iconst (v := (2 : Int32)) dL_windowFrom_16 (by decide) ?_
      refine r_iret dL_windowFrom_17 rfl ?_
      have h := Option.some.inj (show some _ = some o from h)
      subst h
      exact hq
    have h := iq (fun z9 => z9) hE1 h
    exact nomatch (show (none : Option _) = some _ from h)
theorem ct_L_windowFrom {g : GG} {ad : Nat → Nat} {ao : Nat → Nat} {t : va_W} {x0 x1 x4 x11 x12 x18 x19 x20 x24 x25 x26 x27 x28 x29 x30 x31 x37 x39 x40 x41 x47 x48 x54 x56 x58 x60 x61 x63 x64 x65 x66 : Int32} {x2 x13 x14 x15 x16 x17 x21 x22 x23 x33 x34 x35 x42 x43 x44 x45 x46 x49 x50 x51 x52 x53 x62 x67 : Nat → Int32} {x32 : Int64} {x36 x38 x55 x57 : Nat → Int64} {N : Nat} {Tap_eventCount : Int32} {Cl_count : Int32} {Cl_tellers : Nat → Int32} {Cl_kinds : Nat → Int32} {Cl_events : Nat → Int32} {Cl_firsts : Nat → Int32} {Cl_lasts : Nat → Int32} {Co_doubted : Int32} {L_out : Nat → Int64} {p1 : Int32} {o : Int32 × (Nat → Int64)} (h : f_L_windowFrom N Tap_eventCount Cl_count Cl_tellers Cl_kinds Cl_events Cl_firsts Cl_lasts Co_doubted L_out p1 = some o) : Ct g mL_windowFrom 8 2 12 [.ref (ad 0), .int p1, .ref (ao 0)] (wlX g ad x0 x1 x2 Tap_eventCount x4 Cl_count Cl_tellers Cl_kinds Cl_events Cl_firsts Cl_lasts x11 x12 x13 x14 x15 x16 x17 x18 x19 x20 x21 x22 x23 x24 x25 x26 x27 x28 x29 x30 x31 x32 x33 x34 x35 x36 x37 x38 x39 x40 x41 x42 x43 x44 x45 x46 x47 x48 x49 x50 x51 x52 x53 x54 x55 x56 x57 x58 Co_doubted x60 x61 x62 x63 x64 x65 x66 x67 ++ (wlO g ao L_out ++ t)) (Dv (some (.int o.1)) (wlX g ad x0 x1 x2 Tap_eventCount x4 Cl_count Cl_tellers Cl_kinds Cl_events Cl_firsts Cl_lasts x11 x12 x13 x14 x15 x16 x17 x18 x19 x20 x21 x22 x23 x24 x25 x26 x27 x28 x29 x30 x31 x32 x33 x34 x35 x36 x37 x38 x39 x40 x41 x42 x43 x44 x45 x46 x47 x48 x49 x50 x51 x52 x53 x54 x55 x56 x57 x58 Co_doubted x60 x61 x62 x63 x64 x65 x66 x67 ++ (wlO g ao o.2 ++ t))) := Ct.ofRH (by decide +kernel) (by decide) (Nat.le_of_ble_eq_true rfl) (rt_L_windowFrom h ⟨rfl, rfl⟩)
set_option maxRecDepth 20000 in
set_option maxHeartbeats 4000000 in
theorem rt_L_windowTo {g : GG} {ad : Nat → Nat} {ao : Nat → Nat} {t : va_W} {x0 x1 x4 x11 x12 x18 x19 x20 x24 x25 x26 x27 x28 x29 x30 x31 x37 x39 x40 x41 x47 x48 x54 x56 x58 x60 x61 x63 x64 x65 x66 : Int32} {x2 x13 x14 x15 x16 x17 x21 x22 x23 x33 x34 x35 x42 x43 x44 x45 x46 x49 x50 x51 x52 x53 x62 x67 : Nat → Int32} {x32 : Int64} {x36 x38 x55 x57 : Nat → Int64} {N : Nat} {Tap_eventCount : Int32} {Cl_count : Int32} {Cl_tellers : Nat → Int32} {Cl_kinds : Nat → Int32} {Cl_events : Nat → Int32} {Cl_firsts : Nat → Int32} {Cl_lasts : Nat → Int32} {Co_doubted : Int32} {L_out : Nat → Int64} {p1 : Int32} {o : Int32 × (Nat → Int64)} {Q : Rs → va_W → Prop} (h : f_L_windowTo N Tap_eventCount Cl_count Cl_tellers Cl_kinds Cl_events Cl_firsts Cl_lasts Co_doubted L_out p1 = some o) (hq : Q (.inl (some (.int o.1))) (wlX g ad x0 x1 x2 Tap_eventCount x4 Cl_count Cl_tellers Cl_kinds Cl_events Cl_firsts Cl_lasts x11 x12 x13 x14 x15 x16 x17 x18 x19 x20 x21 x22 x23 x24 x25 x26 x27 x28 x29 x30 x31 x32 x33 x34 x35 x36 x37 x38 x39 x40 x41 x42 x43 x44 x45 x46 x47 x48 x49 x50 x51 x52 x53 x54 x55 x56 x57 x58 Co_doubted x60 x61 x62 x63 x64 x65 x66 x67 ++ (wlO g ao o.2 ++ t))) : R g mL_windowTo 8 2 12 0 [(0, .ref (ad 0)), (1, .int p1), (2, .ref (ao 0))] [] (wlX g ad x0 x1 x2 Tap_eventCount x4 Cl_count Cl_tellers Cl_kinds Cl_events Cl_firsts Cl_lasts x11 x12 x13 x14 x15 x16 x17 x18 x19 x20 x21 x22 x23 x24 x25 x26 x27 x28 x29 x30 x31 x32 x33 x34 x35 x36 x37 x38 x39 x40 x41 x42 x43 x44 x45 x46 x47 x48 x49 x50 x51 x52 x53 x54 x55 x56 x57 x58 Co_doubted x60 x61 x62 x63 x64 x65 x66 x67 ++ (wlO g ao L_out ++ t)) Q := by
  unfold f_L_windowTo at h
  refine r_aload_n 2 dL_windowTo_0 rfl ?_
  refine r_iconst (v := (0 : Int32)) dL_windowTo_1 (by decide) ?_
  refine r_aload_n 0 dL_windowTo_2 rfl ?_
  refine r_iload_n 1 dL_windowTo_3 rfl ?_
  obtain ⟨r2588, hc2589, h⟩ := ob (fun z9 => z9) rfl h
  rcases r2588 with q2590 | E2592
  · refine c_X (rest := [.int (0 : Int32), .ref (ao 0)]) 0 0 _ dL_windowTo_4 kv_L_68 (ct_Main_windowTo hc2589) rfl rfl lX_0 rfl (Nat.le_of_ble_eq_true rfl) (by decide) (by decide) ?_
    try dsimp only [Sum.elim_inl, Sum.elim_inr] at h
    refine r_i2l dL_windowTo_7 ?_
    refine r_last _ dL_windowTo_8 lO_0 (by decide) (sO_0 _) ?_
    refine r_goto (tgt := 18) dL_windowTo_9 (by decide) ?_
    refine r_iconst (v := (0 : Int32)) dL_windowTo_18 (by decide) ?_
    refine r_iret dL_windowTo_19 rfl ?_
    have h := Option.some.inj (show some _ = some o from h)
    subst h
    exact hq
  · refine c_Xt (rest := [.int (0 : Int32), .ref (ao 0)]) 0 0 _ dL_windowTo_4 kv_L_68 (ct_Main_windowTo hc2589) rfl rfl lX_0 rfl (Nat.le_of_ble_eq_true rfl) (by decide) (by decide) ?_
    have h : (fun z9 => z9) _ = some o := h
    by_cases hE0 : E2592 = "java/lang/IndexOutOfBoundsException"
    · have h := ip (fun z9 => z9) hE0 h
      subst hE0
      refine rx_catch (pre := []) (z := { startPc := 0, endPc := 9, handlerPc := 12, catchType := 24 }) (suf := [{ startPc := 0, endPc := 9, handlerPc := 15, catchType := 13 }]) rfl (fun z hz => absurd hz List.not_mem_nil) (by decide) (by decide) kk_1116 kn_1127 (fun qx2593 => ?_)
      refine r_astore_n [(3, .ref qx2593), (0, .ref (ad 0)), (1, .int p1), (2, .ref (ao 0))] dL_windowTo_12 (by decide) rfl ?_
      refine r_iconst (v := (1 : Int32)) dL_windowTo_13 (by decide) ?_
      refine r_iret dL_windowTo_14 rfl ?_
      have h := Option.some.inj (show some _ = some o from h)
      subst h
      exact hq
    have h := iq (fun z9 => z9) hE0 h
    by_cases hE1 : E2592 = "java/lang/IllegalStateException"
    · have h := ip (fun z9 => z9) hE1 h
      subst hE1
      refine rx_catch (pre := [{ startPc := 0, endPc := 9, handlerPc := 12, catchType := 24 }]) (z := { startPc := 0, endPc := 9, handlerPc := 15, catchType := 13 }) (suf := []) rfl (List.forall_mem_cons.mpr ⟨⟨by decide, _, kk_1116, by decide⟩, fun _ hz => absurd hz List.not_mem_nil⟩) (by decide) (by decide) kk_1012 kn_1019 (fun qx2594 => ?_)
      refine r_astore_n [(3, .ref qx2594), (0, .ref (ad 0)), (1, .int p1), (2, .ref (ao 0))] dL_windowTo_15 (by decide) rfl ?_
      refine r_iconst (v := (2 : Int32)) dL_windowTo_16 (by decide) ?_
      refine r_iret dL_windowTo_17 rfl ?_
      have h := Option.some.inj (show some _ = some o from h)
      subst h
      exact hq
    have h := iq (fun z9 => z9) hE1 h
    exact nomatch (show (none : Option _) = some _ from h)
theorem ct_L_windowTo {g : GG} {ad : Nat → Nat} {ao : Nat → Nat} {t : va_W} {x0 x1 x4 x11 x12 x18 x19 x20 x24 x25 x26 x27 x28 x29 x30 x31 x37 x39 x40 x41 x47 x48 x54 x56 x58 x60 x61 x63 x64 x65 x66 : Int32} {x2 x13 x14 x15 x16 x17 x21 x22 x23 x33 x34 x35 x42 x43 x44 x45 x46 x49 x50 x51 x52 x53 x62 x67 : Nat → Int32} {x32 : Int64} {x36 x38 x55 x57 : Nat → Int64} {N : Nat} {Tap_eventCount : Int32} {Cl_count : Int32} {Cl_tellers : Nat → Int32} {Cl_kinds : Nat → Int32} {Cl_events : Nat → Int32} {Cl_firsts : Nat → Int32} {Cl_lasts : Nat → Int32} {Co_doubted : Int32} {L_out : Nat → Int64} {p1 : Int32} {o : Int32 × (Nat → Int64)} (h : f_L_windowTo N Tap_eventCount Cl_count Cl_tellers Cl_kinds Cl_events Cl_firsts Cl_lasts Co_doubted L_out p1 = some o) : Ct g mL_windowTo 8 2 12 [.ref (ad 0), .int p1, .ref (ao 0)] (wlX g ad x0 x1 x2 Tap_eventCount x4 Cl_count Cl_tellers Cl_kinds Cl_events Cl_firsts Cl_lasts x11 x12 x13 x14 x15 x16 x17 x18 x19 x20 x21 x22 x23 x24 x25 x26 x27 x28 x29 x30 x31 x32 x33 x34 x35 x36 x37 x38 x39 x40 x41 x42 x43 x44 x45 x46 x47 x48 x49 x50 x51 x52 x53 x54 x55 x56 x57 x58 Co_doubted x60 x61 x62 x63 x64 x65 x66 x67 ++ (wlO g ao L_out ++ t)) (Dv (some (.int o.1)) (wlX g ad x0 x1 x2 Tap_eventCount x4 Cl_count Cl_tellers Cl_kinds Cl_events Cl_firsts Cl_lasts x11 x12 x13 x14 x15 x16 x17 x18 x19 x20 x21 x22 x23 x24 x25 x26 x27 x28 x29 x30 x31 x32 x33 x34 x35 x36 x37 x38 x39 x40 x41 x42 x43 x44 x45 x46 x47 x48 x49 x50 x51 x52 x53 x54 x55 x56 x57 x58 Co_doubted x60 x61 x62 x63 x64 x65 x66 x67 ++ (wlO g ao o.2 ++ t))) := Ct.ofRH (by decide +kernel) (by decide) (Nat.le_of_ble_eq_true rfl) (rt_L_windowTo h ⟨rfl, rfl⟩)
set_option maxRecDepth 20000 in
set_option maxHeartbeats 4000000 in
theorem rt_L_eventAt {g : GG} {ad : Nat → Nat} {ao : Nat → Nat} {t : va_W} {x0 x1 x11 x12 x24 x25 x26 x27 x28 x29 x30 x31 x37 x39 x40 x41 x47 x48 x54 x56 x58 x60 x61 x63 x64 x65 x66 : Int32} {x2 x10 x13 x14 x15 x16 x17 x33 x34 x35 x42 x43 x44 x45 x46 x49 x50 x51 x52 x53 x62 x67 : Nat → Int32} {x32 : Int64} {x36 x38 x55 x57 : Nat → Int64} {N : Nat} {Tap_eventCount : Int32} {Tap_tellerCount : Int32} {Cl_count : Int32} {Cl_tellers : Nat → Int32} {Cl_kinds : Nat → Int32} {Cl_events : Nat → Int32} {Cl_firsts : Nat → Int32} {Ve_judged : Int32} {Ve_liarSet : Int32} {Ve_setCount : Int32} {Ve_against : Nat → Int32} {Ve_ahead : Nat → Int32} {Ve_order : Nat → Int32} {Co_doubted : Int32} {L_out : Nat → Int64} {p1 : Int32} {o : Int32 × Int32 × Int32 × Int32 × (Nat → Int32) × (Nat → Int32) × (Nat → Int64)} {Q : Rs → va_W → Prop} (h : f_L_eventAt N Tap_eventCount Tap_tellerCount Cl_count Cl_tellers Cl_kinds Cl_events Cl_firsts Ve_judged Ve_liarSet Ve_setCount Ve_against Ve_ahead Ve_order Co_doubted L_out p1 = some o) (hq : Q (.inl (some (.int o.1))) (wlX g ad x0 x1 x2 Tap_eventCount Tap_tellerCount Cl_count Cl_tellers Cl_kinds Cl_events Cl_firsts x10 x11 x12 x13 x14 x15 x16 x17 o.2.1 o.2.2.1 o.2.2.2.1 Ve_against o.2.2.2.2.1 o.2.2.2.2.2.1 x24 x25 x26 x27 x28 x29 x30 x31 x32 x33 x34 x35 x36 x37 x38 x39 x40 x41 x42 x43 x44 x45 x46 x47 x48 x49 x50 x51 x52 x53 x54 x55 x56 x57 x58 Co_doubted x60 x61 x62 x63 x64 x65 x66 x67 ++ (wlO g ao o.2.2.2.2.2.2 ++ t))) : R g mL_eventAt 7 1 6 0 [(0, .ref (ad 0)), (1, .int p1), (2, .ref (ao 0))] [] (wlX g ad x0 x1 x2 Tap_eventCount Tap_tellerCount Cl_count Cl_tellers Cl_kinds Cl_events Cl_firsts x10 x11 x12 x13 x14 x15 x16 x17 Ve_judged Ve_liarSet Ve_setCount Ve_against Ve_ahead Ve_order x24 x25 x26 x27 x28 x29 x30 x31 x32 x33 x34 x35 x36 x37 x38 x39 x40 x41 x42 x43 x44 x45 x46 x47 x48 x49 x50 x51 x52 x53 x54 x55 x56 x57 x58 Co_doubted x60 x61 x62 x63 x64 x65 x66 x67 ++ (wlO g ao L_out ++ t)) Q := by
  unfold f_L_eventAt at h
  refine r_aload_n 2 dL_eventAt_0 rfl ?_
  refine r_iconst (v := (0 : Int32)) dL_eventAt_1 (by decide) ?_
  refine r_aload_n 0 dL_eventAt_2 rfl ?_
  refine r_iload_n 1 dL_eventAt_3 rfl ?_
  obtain ⟨r2595, hc2596, h⟩ := ob (fun z9 => z9) rfl h
  rcases r2595 with q2597 | E2599
  · refine c_Xu (rest := [.int (0 : Int32), .ref (ao 0)]) 0 0 _ dL_eventAt_4 kv_L_71 (ct_Main_eventAt hc2596) rfl rfl lX_0 rfl (Nat.le_of_ble_eq_true rfl) (by decide) (by decide) ?_
    try dsimp only [Sum.elim_inl, Sum.elim_inr] at h
    refine r_i2l dL_eventAt_7 ?_
    refine r_last _ dL_eventAt_8 lO_0 (by decide) (sO_0 _) ?_
    refine r_goto (tgt := 18) dL_eventAt_9 (by decide) ?_
    refine r_iconst (v := (0 : Int32)) dL_eventAt_18 (by decide) ?_
    refine r_iret dL_eventAt_19 rfl ?_
    have h := Option.some.inj (show some _ = some o from h)
    subst h
    exact hq
  · refine c_Xtu (rest := [.int (0 : Int32), .ref (ao 0)]) 0 0 _ dL_eventAt_4 kv_L_71 (ct_Main_eventAt hc2596) rfl rfl lX_0 rfl (Nat.le_of_ble_eq_true rfl) (by decide) (by decide) ?_
    have h : (fun z9 => z9) _ = some o := h
    by_cases hE0 : E2599.1 = "java/lang/IndexOutOfBoundsException"
    · have h := ip (fun z9 => z9) hE0 h
      rw [hE0]
      refine rx_catch (pre := []) (z := { startPc := 0, endPc := 9, handlerPc := 12, catchType := 24 }) (suf := [{ startPc := 0, endPc := 9, handlerPc := 15, catchType := 13 }]) rfl (fun z hz => absurd hz List.not_mem_nil) (by decide) (by decide) kk_1116 kn_1127 (fun qx2600 => ?_)
      refine r_astore_n [(3, .ref qx2600), (0, .ref (ad 0)), (1, .int p1), (2, .ref (ao 0))] dL_eventAt_12 (by decide) rfl ?_
      refine r_iconst (v := (1 : Int32)) dL_eventAt_13 (by decide) ?_
      refine r_iret dL_eventAt_14 rfl ?_
      have h := Option.some.inj (show some _ = some o from h)
      subst h
      exact hq
    have h := iq (fun z9 => z9) hE0 h
    by_cases hE1 : E2599.1 = "java/lang/IllegalStateException"
    · have h := ip (fun z9 => z9) hE1 h
      rw [hE1]
      refine rx_catch (pre := [{ startPc := 0, endPc := 9, handlerPc := 12, catchType := 24 }]) (z := { startPc := 0, endPc := 9, handlerPc := 15, catchType := 13 }) (suf := []) rfl (List.forall_mem_cons.mpr ⟨⟨by decide, _, kk_1116, by decide⟩, fun _ hz => absurd hz List.not_mem_nil⟩) (by decide) (by decide) kk_1012 kn_1019 (fun qx2601 => ?_)
      refine r_astore_n [(3, .ref qx2601), (0, .ref (ad 0)), (1, .int p1), (2, .ref (ao 0))] dL_eventAt_15 (by decide) rfl ?_
      refine r_iconst (v := (2 : Int32)) dL_eventAt_16 (by decide) ?_
      refine r_iret dL_eventAt_17 rfl ?_
      have h := Option.some.inj (show some _ = some o from h)
      subst h
      exact hq
    have h := iq (fun z9 => z9) hE1 h
    exact nomatch (show (none : Option _) = some _ from h)
theorem ct_L_eventAt {g : GG} {ad : Nat → Nat} {ao : Nat → Nat} {t : va_W} {x0 x1 x11 x12 x24 x25 x26 x27 x28 x29 x30 x31 x37 x39 x40 x41 x47 x48 x54 x56 x58 x60 x61 x63 x64 x65 x66 : Int32} {x2 x10 x13 x14 x15 x16 x17 x33 x34 x35 x42 x43 x44 x45 x46 x49 x50 x51 x52 x53 x62 x67 : Nat → Int32} {x32 : Int64} {x36 x38 x55 x57 : Nat → Int64} {N : Nat} {Tap_eventCount : Int32} {Tap_tellerCount : Int32} {Cl_count : Int32} {Cl_tellers : Nat → Int32} {Cl_kinds : Nat → Int32} {Cl_events : Nat → Int32} {Cl_firsts : Nat → Int32} {Ve_judged : Int32} {Ve_liarSet : Int32} {Ve_setCount : Int32} {Ve_against : Nat → Int32} {Ve_ahead : Nat → Int32} {Ve_order : Nat → Int32} {Co_doubted : Int32} {L_out : Nat → Int64} {p1 : Int32} {o : Int32 × Int32 × Int32 × Int32 × (Nat → Int32) × (Nat → Int32) × (Nat → Int64)} (h : f_L_eventAt N Tap_eventCount Tap_tellerCount Cl_count Cl_tellers Cl_kinds Cl_events Cl_firsts Ve_judged Ve_liarSet Ve_setCount Ve_against Ve_ahead Ve_order Co_doubted L_out p1 = some o) : Ct g mL_eventAt 7 1 6 [.ref (ad 0), .int p1, .ref (ao 0)] (wlX g ad x0 x1 x2 Tap_eventCount Tap_tellerCount Cl_count Cl_tellers Cl_kinds Cl_events Cl_firsts x10 x11 x12 x13 x14 x15 x16 x17 Ve_judged Ve_liarSet Ve_setCount Ve_against Ve_ahead Ve_order x24 x25 x26 x27 x28 x29 x30 x31 x32 x33 x34 x35 x36 x37 x38 x39 x40 x41 x42 x43 x44 x45 x46 x47 x48 x49 x50 x51 x52 x53 x54 x55 x56 x57 x58 Co_doubted x60 x61 x62 x63 x64 x65 x66 x67 ++ (wlO g ao L_out ++ t)) (Dv (some (.int o.1)) (wlX g ad x0 x1 x2 Tap_eventCount Tap_tellerCount Cl_count Cl_tellers Cl_kinds Cl_events Cl_firsts x10 x11 x12 x13 x14 x15 x16 x17 o.2.1 o.2.2.1 o.2.2.2.1 Ve_against o.2.2.2.2.1 o.2.2.2.2.2.1 x24 x25 x26 x27 x28 x29 x30 x31 x32 x33 x34 x35 x36 x37 x38 x39 x40 x41 x42 x43 x44 x45 x46 x47 x48 x49 x50 x51 x52 x53 x54 x55 x56 x57 x58 Co_doubted x60 x61 x62 x63 x64 x65 x66 x67 ++ (wlO g ao o.2.2.2.2.2.2 ++ t))) := Ct.ofRH (by decide +kernel) (by decide) (Nat.le_of_ble_eq_true rfl) (rt_L_eventAt h ⟨rfl, rfl⟩)
set_option maxRecDepth 20000 in
set_option maxHeartbeats 4000000 in
theorem rt_L_claimHours {g : GG} {ad : Nat → Nat} {ao : Nat → Nat} {t : va_W} {x0 x1 x11 x12 x19 x20 x24 x25 x26 x27 x28 x29 x30 x31 x37 x39 x40 x41 x47 x48 x54 x56 x58 x59 x60 x61 x63 x64 x65 x66 : Int32} {x2 x13 x14 x15 x16 x17 x22 x23 x33 x34 x35 x42 x43 x44 x45 x46 x49 x50 x51 x52 x53 x62 x67 : Nat → Int32} {x32 : Int64} {x36 x38 x55 x57 : Nat → Int64} {N : Nat} {Tap_eventCount : Int32} {Tap_tellerCount : Int32} {Cl_count : Int32} {Cl_tellers : Nat → Int32} {Cl_kinds : Nat → Int32} {Cl_events : Nat → Int32} {Cl_firsts : Nat → Int32} {Cl_lasts : Nat → Int32} {Ve_judged : Int32} {Ve_against : Nat → Int32} {L_out : Nat → Int64} {p1 : Int32} {p2 : Int32} {p3 : Int32} {p4 : Int32} {o : Int32 × Int32 × (Nat → Int32) × (Nat → Int32) × (Nat → Int32) × (Nat → Int32) × (Nat → Int32) × Int32 × (Nat → Int32) × (Nat → Int64)} {Q : Rs → va_W → Prop} (h : f_L_claimHours N Tap_eventCount Tap_tellerCount Cl_count Cl_tellers Cl_kinds Cl_events Cl_firsts Cl_lasts Ve_judged Ve_against L_out p1 p2 p3 p4 = some o) (hq : Q (.inl (some (.int o.1))) (wlX g ad x0 x1 x2 Tap_eventCount Tap_tellerCount o.2.1 o.2.2.1 o.2.2.2.1 o.2.2.2.2.1 o.2.2.2.2.2.1 o.2.2.2.2.2.2.1 x11 x12 x13 x14 x15 x16 x17 o.2.2.2.2.2.2.2.1 x19 x20 o.2.2.2.2.2.2.2.2.1 x22 x23 x24 x25 x26 x27 x28 x29 x30 x31 x32 x33 x34 x35 x36 x37 x38 x39 x40 x41 x42 x43 x44 x45 x46 x47 x48 x49 x50 x51 x52 x53 x54 x55 x56 x57 x58 x59 x60 x61 x62 x63 x64 x65 x66 x67 ++ (wlO g ao o.2.2.2.2.2.2.2.2.2 ++ t))) : R g mL_claimHours 8 3 18 0 [(0, .ref (ad 0)), (1, .int p1), (2, .int p2), (3, .int p3), (4, .int p4), (5, .ref (ao 0))] [] (wlX g ad x0 x1 x2 Tap_eventCount Tap_tellerCount Cl_count Cl_tellers Cl_kinds Cl_events Cl_firsts Cl_lasts x11 x12 x13 x14 x15 x16 x17 Ve_judged x19 x20 Ve_against x22 x23 x24 x25 x26 x27 x28 x29 x30 x31 x32 x33 x34 x35 x36 x37 x38 x39 x40 x41 x42 x43 x44 x45 x46 x47 x48 x49 x50 x51 x52 x53 x54 x55 x56 x57 x58 x59 x60 x61 x62 x63 x64 x65 x66 x67 ++ (wlO g ao L_out ++ t)) Q := by
  unfold f_L_claimHours at h
  refine r_aload 5 dL_claimHours_0 rfl ?_
  refine r_iconst (v := (0 : Int32)) dL_claimHours_2 (by decide) ?_
  refine r_aload_n 0 dL_claimHours_3 rfl ?_
  refine r_iload_n 1 dL_claimHours_4 rfl ?_
  refine r_iload_n 2 dL_claimHours_5 rfl ?_
  refine r_iload_n 3 dL_claimHours_6 rfl ?_
  refine r_iload 4 dL_claimHours_7 rfl ?_
  obtain ⟨r2602, hc2603, h⟩ := ob (fun z9 => z9) rfl h
  rcases r2602 with q2604 | E2606
  · refine c_X (rest := [.int (0 : Int32), .ref (ao 0)]) 0 0 _ dL_claimHours_9 kv_L_74 (ct_Main_claimHours hc2603) rfl rfl lX_0 rfl (Nat.le_of_ble_eq_true rfl) (by decide) (by decide) ?_
    try dsimp only [Sum.elim_inl, Sum.elim_inr] at h
    refine r_i2l dL_claimHours_12 ?_
    refine r_last _ dL_claimHours_13 lO_0 (by decide) (sO_0 _) ?_
    refine r_goto (tgt := 29) dL_claimHours_14 (by decide) ?_
    refine r_iconst (v := (0 : Int32)) dL_claimHours_29 (by decide) ?_
    refine r_iret dL_claimHours_30 rfl ?_
    have h := Option.some.inj (show some _ = some o from h)
    subst h
    exact hq
  · refine c_Xt (rest := [.int (0 : Int32), .ref (ao 0)]) 0 0 _ dL_claimHours_9 kv_L_74 (ct_Main_claimHours hc2603) rfl rfl lX_0 rfl (Nat.le_of_ble_eq_true rfl) (by decide) (by decide) ?_
    have h : (fun z9 => z9) _ = some o := h
    by_cases hE0 : E2606 = "java/lang/IndexOutOfBoundsException"
    · have h := ip (fun z9 => z9) hE0 h
      subst hE0
      refine rx_catch (pre := []) (z := { startPc := 0, endPc := 14, handlerPc := 17, catchType := 24 }) (suf := [{ startPc := 0, endPc := 14, handlerPc := 21, catchType := 19 }, { startPc := 0, endPc := 14, handlerPc := 25, catchType := 13 }]) rfl (fun z hz => absurd hz List.not_mem_nil) (by decide) (by decide) kk_1116 kn_1127 (fun qx2607 => ?_)
      refine r_astore [(6, .ref qx2607), (0, .ref (ad 0)), (1, .int p1), (2, .int p2), (3, .int p3), (4, .int p4), (5, .ref (ao 0))] dL_claimHours_17 (by decide) rfl ?_
      refine r_iconst (v := (1 : Int32)) dL_claimHours_19 (by decide) ?_
      refine r_iret dL_claimHours_20 rfl ?_
      have h := Option.some.inj (show some _ = some o from h)
      subst h
      exact hq
    have h := iq (fun z9 => z9) hE0 h
    by_cases hE1 : E2606 = "java/lang/IllegalArgumentException"
    · have h := ip (fun z9 => z9) hE1 h
      subst hE1
      refine rx_catch (pre := [{ startPc := 0, endPc := 14, handlerPc := 17, catchType := 24 }]) (z := { startPc := 0, endPc := 14, handlerPc := 21, catchType := 19 }) (suf := [{ startPc := 0, endPc := 14, handlerPc := 25, catchType := 13 }]) rfl (List.forall_mem_cons.mpr ⟨⟨by decide, _, kk_1116, by decide⟩, fun _ hz => absurd hz List.not_mem_nil⟩) (by decide) (by decide) kk_1092 kn_1099 (fun qx2608 => ?_)
      refine r_astore [(6, .ref qx2608), (0, .ref (ad 0)), (1, .int p1), (2, .int p2), (3, .int p3), (4, .int p4), (5, .ref (ao 0))] dL_claimHours_21 (by decide) rfl ?_
      refine r_iconst (v := (2 : Int32)) dL_claimHours_23 (by decide) ?_
      refine r_iret dL_claimHours_24 rfl ?_
      have h := Option.some.inj (show some _ = some o from h)
      subst h
      exact hq
    have h := iq (fun z9 => z9) hE1 h
    by_cases hE2 : E2606 = "java/lang/IllegalStateException"
    · have h := ip (fun z9 => z9) hE2 h
      subst hE2
      refine rx_catch (pre := [{ startPc := 0, endPc := 14, handlerPc := 17, catchType := 24 }, { startPc := 0, endPc := 14, handlerPc := 21, catchType := 19 }]) (z := { startPc := 0, endPc := 14, handlerPc := 25, catchType := 13 }) (suf := []) rfl (List.forall_mem_cons.mpr ⟨⟨by decide, _, kk_1116, by decide⟩, List.forall_mem_cons.mpr ⟨⟨by decide, _, kk_1092, by decide⟩, fun _ hz => absurd hz List.not_mem_nil⟩⟩) (by decide) (by decide) kk_1012 kn_1019 (fun qx2609 => ?_)
      refine r_astore [(6, .ref qx2609), (0, .ref (ad 0)), (1, .int p1), (2, .int p2), (3, .int p3), (4, .int p4), (5, .ref (ao 0))] dL_claimHours_25 (by decide) rfl ?_
      refine r_iconst (v := (3 : Int32)) dL_claimHours_27 (by decide) ?_
      refine r_iret dL_claimHours_28 rfl ?_
      have h := Option.some.inj (show some _ = some o from h)
      subst h
      exact hq
    have h := iq (fun z9 => z9) hE2 h
    exact nomatch (show (none : Option _) = some _ from h)
theorem ct_L_claimHours {g : GG} {ad : Nat → Nat} {ao : Nat → Nat} {t : va_W} {x0 x1 x11 x12 x19 x20 x24 x25 x26 x27 x28 x29 x30 x31 x37 x39 x40 x41 x47 x48 x54 x56 x58 x59 x60 x61 x63 x64 x65 x66 : Int32} {x2 x13 x14 x15 x16 x17 x22 x23 x33 x34 x35 x42 x43 x44 x45 x46 x49 x50 x51 x52 x53 x62 x67 : Nat → Int32} {x32 : Int64} {x36 x38 x55 x57 : Nat → Int64} {N : Nat} {Tap_eventCount : Int32} {Tap_tellerCount : Int32} {Cl_count : Int32} {Cl_tellers : Nat → Int32} {Cl_kinds : Nat → Int32} {Cl_events : Nat → Int32} {Cl_firsts : Nat → Int32} {Cl_lasts : Nat → Int32} {Ve_judged : Int32} {Ve_against : Nat → Int32} {L_out : Nat → Int64} {p1 : Int32} {p2 : Int32} {p3 : Int32} {p4 : Int32} {o : Int32 × Int32 × (Nat → Int32) × (Nat → Int32) × (Nat → Int32) × (Nat → Int32) × (Nat → Int32) × Int32 × (Nat → Int32) × (Nat → Int64)} (h : f_L_claimHours N Tap_eventCount Tap_tellerCount Cl_count Cl_tellers Cl_kinds Cl_events Cl_firsts Cl_lasts Ve_judged Ve_against L_out p1 p2 p3 p4 = some o) : Ct g mL_claimHours 8 3 18 [.ref (ad 0), .int p1, .int p2, .int p3, .int p4, .ref (ao 0)] (wlX g ad x0 x1 x2 Tap_eventCount Tap_tellerCount Cl_count Cl_tellers Cl_kinds Cl_events Cl_firsts Cl_lasts x11 x12 x13 x14 x15 x16 x17 Ve_judged x19 x20 Ve_against x22 x23 x24 x25 x26 x27 x28 x29 x30 x31 x32 x33 x34 x35 x36 x37 x38 x39 x40 x41 x42 x43 x44 x45 x46 x47 x48 x49 x50 x51 x52 x53 x54 x55 x56 x57 x58 x59 x60 x61 x62 x63 x64 x65 x66 x67 ++ (wlO g ao L_out ++ t)) (Dv (some (.int o.1)) (wlX g ad x0 x1 x2 Tap_eventCount Tap_tellerCount o.2.1 o.2.2.1 o.2.2.2.1 o.2.2.2.2.1 o.2.2.2.2.2.1 o.2.2.2.2.2.2.1 x11 x12 x13 x14 x15 x16 x17 o.2.2.2.2.2.2.2.1 x19 x20 o.2.2.2.2.2.2.2.2.1 x22 x23 x24 x25 x26 x27 x28 x29 x30 x31 x32 x33 x34 x35 x36 x37 x38 x39 x40 x41 x42 x43 x44 x45 x46 x47 x48 x49 x50 x51 x52 x53 x54 x55 x56 x57 x58 x59 x60 x61 x62 x63 x64 x65 x66 x67 ++ (wlO g ao o.2.2.2.2.2.2.2.2.2 ++ t))) := Ct.ofRH (by decide +kernel) (by decide) (Nat.le_of_ble_eq_true rfl) (rt_L_claimHours h ⟨rfl, rfl⟩)
set_option maxRecDepth 20000 in
set_option maxHeartbeats 4000000 in
theorem rt_L_claimBefore {g : GG} {ad : Nat → Nat} {ao : Nat → Nat} {t : va_W} {x0 x1 x11 x12 x19 x20 x24 x25 x26 x27 x28 x29 x30 x31 x37 x39 x40 x41 x47 x48 x54 x56 x58 x59 x60 x61 x63 x64 x65 x66 : Int32} {x2 x13 x14 x15 x16 x17 x22 x23 x33 x34 x35 x42 x43 x44 x45 x46 x49 x50 x51 x52 x53 x62 x67 : Nat → Int32} {x32 : Int64} {x36 x38 x55 x57 : Nat → Int64} {N : Nat} {Tap_eventCount : Int32} {Tap_tellerCount : Int32} {Cl_count : Int32} {Cl_tellers : Nat → Int32} {Cl_kinds : Nat → Int32} {Cl_events : Nat → Int32} {Cl_firsts : Nat → Int32} {Cl_lasts : Nat → Int32} {Ve_judged : Int32} {Ve_against : Nat → Int32} {L_out : Nat → Int64} {p1 : Int32} {p2 : Int32} {p3 : Int32} {o : Int32 × Int32 × (Nat → Int32) × (Nat → Int32) × (Nat → Int32) × (Nat → Int32) × (Nat → Int32) × Int32 × (Nat → Int32) × (Nat → Int64)} {Q : Rs → va_W → Prop} (h : f_L_claimBefore N Tap_eventCount Tap_tellerCount Cl_count Cl_tellers Cl_kinds Cl_events Cl_firsts Cl_lasts Ve_judged Ve_against L_out p1 p2 p3 = some o) (hq : Q (.inl (some (.int o.1))) (wlX g ad x0 x1 x2 Tap_eventCount Tap_tellerCount o.2.1 o.2.2.1 o.2.2.2.1 o.2.2.2.2.1 o.2.2.2.2.2.1 o.2.2.2.2.2.2.1 x11 x12 x13 x14 x15 x16 x17 o.2.2.2.2.2.2.2.1 x19 x20 o.2.2.2.2.2.2.2.2.1 x22 x23 x24 x25 x26 x27 x28 x29 x30 x31 x32 x33 x34 x35 x36 x37 x38 x39 x40 x41 x42 x43 x44 x45 x46 x47 x48 x49 x50 x51 x52 x53 x54 x55 x56 x57 x58 x59 x60 x61 x62 x63 x64 x65 x66 x67 ++ (wlO g ao o.2.2.2.2.2.2.2.2.2 ++ t))) : R g mL_claimBefore 9 5 30 0 [(0, .ref (ad 0)), (1, .int p1), (2, .int p2), (3, .int p3), (4, .ref (ao 0))] [] (wlX g ad x0 x1 x2 Tap_eventCount Tap_tellerCount Cl_count Cl_tellers Cl_kinds Cl_events Cl_firsts Cl_lasts x11 x12 x13 x14 x15 x16 x17 Ve_judged x19 x20 Ve_against x22 x23 x24 x25 x26 x27 x28 x29 x30 x31 x32 x33 x34 x35 x36 x37 x38 x39 x40 x41 x42 x43 x44 x45 x46 x47 x48 x49 x50 x51 x52 x53 x54 x55 x56 x57 x58 x59 x60 x61 x62 x63 x64 x65 x66 x67 ++ (wlO g ao L_out ++ t)) Q := by
  unfold f_L_claimBefore at h
  refine r_aload 4 dL_claimBefore_0 rfl ?_
  refine r_iconst (v := (0 : Int32)) dL_claimBefore_2 (by decide) ?_
  refine r_aload_n 0 dL_claimBefore_3 rfl ?_
  refine r_iload_n 1 dL_claimBefore_4 rfl ?_
  refine r_iload_n 2 dL_claimBefore_5 rfl ?_
  refine r_iload_n 3 dL_claimBefore_6 rfl ?_
  obtain ⟨r2610, hc2611, h⟩ := ob (fun z9 => z9) rfl h
  rcases r2610 with q2612 | E2614
  · refine c_X (rest := [.int (0 : Int32), .ref (ao 0)]) 0 0 _ dL_claimBefore_7 kv_L_78 (ct_Main_claimBefore hc2611) rfl rfl lX_0 rfl (Nat.le_of_ble_eq_true rfl) (by decide) (by decide) ?_
    try dsimp only [Sum.elim_inl, Sum.elim_inr] at h
    refine r_i2l dL_claimBefore_10 ?_
    refine r_last _ dL_claimBefore_11 lO_0 (by decide) (sO_0 _) ?_
    refine r_goto (tgt := 27) dL_claimBefore_12 (by decide) ?_
    refine r_iconst (v := (0 : Int32)) dL_claimBefore_27 (by decide) ?_
    refine r_iret dL_claimBefore_28 rfl ?_
    have h := Option.some.inj (show some _ = some o from h)
    subst h
    exact hq
  · refine c_Xt (rest := [.int (0 : Int32), .ref (ao 0)]) 0 0 _ dL_claimBefore_7 kv_L_78 (ct_Main_claimBefore hc2611) rfl rfl lX_0 rfl (Nat.le_of_ble_eq_true rfl) (by decide) (by decide) ?_
    have h : (fun z9 => z9) _ = some o := h
    by_cases hE0 : E2614 = "java/lang/IndexOutOfBoundsException"
    · have h := ip (fun z9 => z9) hE0 h
      subst hE0
      refine rx_catch (pre := []) (z := { startPc := 0, endPc := 12, handlerPc := 15, catchType := 24 }) (suf := [{ startPc := 0, endPc := 12, handlerPc := 19, catchType := 19 }, { startPc := 0, endPc := 12, handlerPc := 23, catchType := 13 }]) rfl (fun z hz => absurd hz List.not_mem_nil) (by decide) (by decide) kk_1116 kn_1127 (fun qx2615 => ?_)
      refine r_astore [(5, .ref qx2615), (0, .ref (ad 0)), (1, .int p1), (2, .int p2), (3, .int p3), (4, .ref (ao 0))] dL_claimBefore_15 (by decide) rfl ?_
      refine r_iconst (v := (1 : Int32)) dL_claimBefore_17 (by decide) ?_
      refine r_iret dL_claimBefore_18 rfl ?_
      have h := Option.some.inj (show some _ = some o from h)
      subst h
      exact hq
    have h := iq (fun z9 => z9) hE0 h
    by_cases hE1 : E2614 = "java/lang/IllegalArgumentException"
    · have h := ip (fun z9 => z9) hE1 h
      subst hE1
      refine rx_catch (pre := [{ startPc := 0, endPc := 12, handlerPc := 15, catchType := 24 }]) (z := { startPc := 0, endPc := 12, handlerPc := 19, catchType := 19 }) (suf := [{ startPc := 0, endPc := 12, handlerPc := 23, catchType := 13 }]) rfl (List.forall_mem_cons.mpr ⟨⟨by decide, _, kk_1116, by decide⟩, fun _ hz => absurd hz List.not_mem_nil⟩) (by decide) (by decide) kk_1092 kn_1099 (fun qx2616 => ?_)
      refine r_astore [(5, .ref qx2616), (0, .ref (ad 0)), (1, .int p1), (2, .int p2), (3, .int p3), (4, .ref (ao 0))] dL_claimBefore_19 (by decide) rfl ?_
      refine r_iconst (v := (2 : Int32)) dL_claimBefore_21 (by decide) ?_
      refine r_iret dL_claimBefore_22 rfl ?_
      have h := Option.some.inj (show some _ = some o from h)
      subst h
      exact hq
    have h := iq (fun z9 => z9) hE1 h
    by_cases hE2 : E2614 = "java/lang/IllegalStateException"
    · have h := ip (fun z9 => z9) hE2 h
      subst hE2
      refine rx_catch (pre := [{ startPc := 0, endPc := 12, handlerPc := 15, catchType := 24 }, { startPc := 0, endPc := 12, handlerPc := 19, catchType := 19 }]) (z := { startPc := 0, endPc := 12, handlerPc := 23, catchType := 13 }) (suf := []) rfl (List.forall_mem_cons.mpr ⟨⟨by decide, _, kk_1116, by decide⟩, List.forall_mem_cons.mpr ⟨⟨by decide, _, kk_1092, by decide⟩, fun _ hz => absurd hz List.not_mem_nil⟩⟩) (by decide) (by decide) kk_1012 kn_1019 (fun qx2617 => ?_)
      refine r_astore [(5, .ref qx2617), (0, .ref (ad 0)), (1, .int p1), (2, .int p2), (3, .int p3), (4, .ref (ao 0))] dL_claimBefore_23 (by decide) rfl ?_
      refine r_iconst (v := (3 : Int32)) dL_claimBefore_25 (by decide) ?_
      refine r_iret dL_claimBefore_26 rfl ?_
      have h := Option.some.inj (show some _ = some o from h)
      subst h
      exact hq
    have h := iq (fun z9 => z9) hE2 h
    exact nomatch (show (none : Option _) = some _ from h)
theorem ct_L_claimBefore {g : GG} {ad : Nat → Nat} {ao : Nat → Nat} {t : va_W} {x0 x1 x11 x12 x19 x20 x24 x25 x26 x27 x28 x29 x30 x31 x37 x39 x40 x41 x47 x48 x54 x56 x58 x59 x60 x61 x63 x64 x65 x66 : Int32} {x2 x13 x14 x15 x16 x17 x22 x23 x33 x34 x35 x42 x43 x44 x45 x46 x49 x50 x51 x52 x53 x62 x67 : Nat → Int32} {x32 : Int64} {x36 x38 x55 x57 : Nat → Int64} {N : Nat} {Tap_eventCount : Int32} {Tap_tellerCount : Int32} {Cl_count : Int32} {Cl_tellers : Nat → Int32} {Cl_kinds : Nat → Int32} {Cl_events : Nat → Int32} {Cl_firsts : Nat → Int32} {Cl_lasts : Nat → Int32} {Ve_judged : Int32} {Ve_against : Nat → Int32} {L_out : Nat → Int64} {p1 : Int32} {p2 : Int32} {p3 : Int32} {o : Int32 × Int32 × (Nat → Int32) × (Nat → Int32) × (Nat → Int32) × (Nat → Int32) × (Nat → Int32) × Int32 × (Nat → Int32) × (Nat → Int64)} (h : f_L_claimBefore N Tap_eventCount Tap_tellerCount Cl_count Cl_tellers Cl_kinds Cl_events Cl_firsts Cl_lasts Ve_judged Ve_against L_out p1 p2 p3 = some o) : Ct g mL_claimBefore 9 5 30 [.ref (ad 0), .int p1, .int p2, .int p3, .ref (ao 0)] (wlX g ad x0 x1 x2 Tap_eventCount Tap_tellerCount Cl_count Cl_tellers Cl_kinds Cl_events Cl_firsts Cl_lasts x11 x12 x13 x14 x15 x16 x17 Ve_judged x19 x20 Ve_against x22 x23 x24 x25 x26 x27 x28 x29 x30 x31 x32 x33 x34 x35 x36 x37 x38 x39 x40 x41 x42 x43 x44 x45 x46 x47 x48 x49 x50 x51 x52 x53 x54 x55 x56 x57 x58 x59 x60 x61 x62 x63 x64 x65 x66 x67 ++ (wlO g ao L_out ++ t)) (Dv (some (.int o.1)) (wlX g ad x0 x1 x2 Tap_eventCount Tap_tellerCount o.2.1 o.2.2.1 o.2.2.2.1 o.2.2.2.2.1 o.2.2.2.2.2.1 o.2.2.2.2.2.2.1 x11 x12 x13 x14 x15 x16 x17 o.2.2.2.2.2.2.2.1 x19 x20 o.2.2.2.2.2.2.2.2.1 x22 x23 x24 x25 x26 x27 x28 x29 x30 x31 x32 x33 x34 x35 x36 x37 x38 x39 x40 x41 x42 x43 x44 x45 x46 x47 x48 x49 x50 x51 x52 x53 x54 x55 x56 x57 x58 x59 x60 x61 x62 x63 x64 x65 x66 x67 ++ (wlO g ao o.2.2.2.2.2.2.2.2.2 ++ t))) := Ct.ofRH (by decide +kernel) (by decide) (Nat.le_of_ble_eq_true rfl) (rt_L_claimBefore h ⟨rfl, rfl⟩)
set_option maxRecDepth 20000 in
set_option maxHeartbeats 4000000 in
theorem rt_L_claimTogether {g : GG} {ad : Nat → Nat} {ao : Nat → Nat} {t : va_W} {x0 x1 x11 x12 x19 x20 x24 x25 x26 x27 x28 x29 x30 x31 x37 x39 x40 x41 x47 x48 x54 x56 x58 x59 x60 x61 x63 x64 x65 x66 : Int32} {x2 x13 x14 x15 x16 x17 x22 x23 x33 x34 x35 x42 x43 x44 x45 x46 x49 x50 x51 x52 x53 x62 x67 : Nat → Int32} {x32 : Int64} {x36 x38 x55 x57 : Nat → Int64} {N : Nat} {Tap_eventCount : Int32} {Tap_tellerCount : Int32} {Cl_count : Int32} {Cl_tellers : Nat → Int32} {Cl_kinds : Nat → Int32} {Cl_events : Nat → Int32} {Cl_firsts : Nat → Int32} {Cl_lasts : Nat → Int32} {Ve_judged : Int32} {Ve_against : Nat → Int32} {L_out : Nat → Int64} {p1 : Int32} {p2 : Int32} {p3 : Int32} {o : Int32 × Int32 × (Nat → Int32) × (Nat → Int32) × (Nat → Int32) × (Nat → Int32) × (Nat → Int32) × Int32 × (Nat → Int32) × (Nat → Int64)} {Q : Rs → va_W → Prop} (h : f_L_claimTogether N Tap_eventCount Tap_tellerCount Cl_count Cl_tellers Cl_kinds Cl_events Cl_firsts Cl_lasts Ve_judged Ve_against L_out p1 p2 p3 = some o) (hq : Q (.inl (some (.int o.1))) (wlX g ad x0 x1 x2 Tap_eventCount Tap_tellerCount o.2.1 o.2.2.1 o.2.2.2.1 o.2.2.2.2.1 o.2.2.2.2.2.1 o.2.2.2.2.2.2.1 x11 x12 x13 x14 x15 x16 x17 o.2.2.2.2.2.2.2.1 x19 x20 o.2.2.2.2.2.2.2.2.1 x22 x23 x24 x25 x26 x27 x28 x29 x30 x31 x32 x33 x34 x35 x36 x37 x38 x39 x40 x41 x42 x43 x44 x45 x46 x47 x48 x49 x50 x51 x52 x53 x54 x55 x56 x57 x58 x59 x60 x61 x62 x63 x64 x65 x66 x67 ++ (wlO g ao o.2.2.2.2.2.2.2.2.2 ++ t))) : R g mL_claimTogether 9 5 30 0 [(0, .ref (ad 0)), (1, .int p1), (2, .int p2), (3, .int p3), (4, .ref (ao 0))] [] (wlX g ad x0 x1 x2 Tap_eventCount Tap_tellerCount Cl_count Cl_tellers Cl_kinds Cl_events Cl_firsts Cl_lasts x11 x12 x13 x14 x15 x16 x17 Ve_judged x19 x20 Ve_against x22 x23 x24 x25 x26 x27 x28 x29 x30 x31 x32 x33 x34 x35 x36 x37 x38 x39 x40 x41 x42 x43 x44 x45 x46 x47 x48 x49 x50 x51 x52 x53 x54 x55 x56 x57 x58 x59 x60 x61 x62 x63 x64 x65 x66 x67 ++ (wlO g ao L_out ++ t)) Q := by
  unfold f_L_claimTogether at h
  refine r_aload 4 dL_claimTogether_0 rfl ?_
  refine r_iconst (v := (0 : Int32)) dL_claimTogether_2 (by decide) ?_
  refine r_aload_n 0 dL_claimTogether_3 rfl ?_
  refine r_iload_n 1 dL_claimTogether_4 rfl ?_
  refine r_iload_n 2 dL_claimTogether_5 rfl ?_
  refine r_iload_n 3 dL_claimTogether_6 rfl ?_
  obtain ⟨r2618, hc2619, h⟩ := ob (fun z9 => z9) rfl h
  rcases r2618 with q2620 | E2622
  · refine c_X (rest := [.int (0 : Int32), .ref (ao 0)]) 0 0 _ dL_claimTogether_7 kv_L_82 (ct_Main_claimTogether hc2619) rfl rfl lX_0 rfl (Nat.le_of_ble_eq_true rfl) (by decide) (by decide) ?_
    try dsimp only [Sum.elim_inl, Sum.elim_inr] at h
    refine r_i2l dL_claimTogether_10 ?_
    refine r_last _ dL_claimTogether_11 lO_0 (by decide) (sO_0 _) ?_
    refine r_goto (tgt := 27) dL_claimTogether_12 (by decide) ?_
    refine r_iconst (v := (0 : Int32)) dL_claimTogether_27 (by decide) ?_
    refine r_iret dL_claimTogether_28 rfl ?_
    have h := Option.some.inj (show some _ = some o from h)
    subst h
    exact hq
  · refine c_Xt (rest := [.int (0 : Int32), .ref (ao 0)]) 0 0 _ dL_claimTogether_7 kv_L_82 (ct_Main_claimTogether hc2619) rfl rfl lX_0 rfl (Nat.le_of_ble_eq_true rfl) (by decide) (by decide) ?_
    have h : (fun z9 => z9) _ = some o := h
    by_cases hE0 : E2622 = "java/lang/IndexOutOfBoundsException"
    · have h := ip (fun z9 => z9) hE0 h
      subst hE0
      refine rx_catch (pre := []) (z := { startPc := 0, endPc := 12, handlerPc := 15, catchType := 24 }) (suf := [{ startPc := 0, endPc := 12, handlerPc := 19, catchType := 19 }, { startPc := 0, endPc := 12, handlerPc := 23, catchType := 13 }]) rfl (fun z hz => absurd hz List.not_mem_nil) (by decide) (by decide) kk_1116 kn_1127 (fun qx2623 => ?_)
      refine r_astore [(5, .ref qx2623), (0, .ref (ad 0)), (1, .int p1), (2, .int p2), (3, .int p3), (4, .ref (ao 0))] dL_claimTogether_15 (by decide) rfl ?_
      refine r_iconst (v := (1 : Int32)) dL_claimTogether_17 (by decide) ?_
      refine r_iret dL_claimTogether_18 rfl ?_
      have h := Option.some.inj (show some _ = some o from h)
      subst h
      exact hq
    have h := iq (fun z9 => z9) hE0 h
    by_cases hE1 : E2622 = "java/lang/IllegalArgumentException"
    · have h := ip (fun z9 => z9) hE1 h
      subst hE1
      refine rx_catch (pre := [{ startPc := 0, endPc := 12, handlerPc := 15, catchType := 24 }]) (z := { startPc := 0, endPc := 12, handlerPc := 19, catchType := 19 }) (suf := [{ startPc := 0, endPc := 12, handlerPc := 23, catchType := 13 }]) rfl (List.forall_mem_cons.mpr ⟨⟨by decide, _, kk_1116, by decide⟩, fun _ hz => absurd hz List.not_mem_nil⟩) (by decide) (by decide) kk_1092 kn_1099 (fun qx2624 => ?_)
      refine r_astore [(5, .ref qx2624), (0, .ref (ad 0)), (1, .int p1), (2, .int p2), (3, .int p3), (4, .ref (ao 0))] dL_claimTogether_19 (by decide) rfl ?_
      refine r_iconst (v := (2 : Int32)) dL_claimTogether_21 (by decide) ?_
      refine r_iret dL_claimTogether_22 rfl ?_
      have h := Option.some.inj (show some _ = some o from h)
      subst h
      exact hq
    have h := iq (fun z9 => z9) hE1 h
    by_cases hE2 : E2622 = "java/lang/IllegalStateException"
    · have h := ip (fun z9 => z9) hE2 h
      subst hE2
      refine rx_catch (pre := [{ startPc := 0, endPc := 12, handlerPc := 15, catchType := 24 }, { startPc := 0, endPc := 12, handlerPc := 19, catchType := 19 }]) (z := { startPc := 0, endPc := 12, handlerPc := 23, catchType := 13 }) (suf := []) rfl (List.forall_mem_cons.mpr ⟨⟨by decide, _, kk_1116, by decide⟩, List.forall_mem_cons.mpr ⟨⟨by decide, _, kk_1092, by decide⟩, fun _ hz => absurd hz List.not_mem_nil⟩⟩) (by decide) (by decide) kk_1012 kn_1019 (fun qx2625 => ?_)
      refine r_astore [(5, .ref qx2625), (0, .ref (ad 0)), (1, .int p1), (2, .int p2), (3, .int p3), (4, .ref (ao 0))] dL_claimTogether_23 (by decide) rfl ?_
      refine r_iconst (v := (3 : Int32)) dL_claimTogether_25 (by decide) ?_
      refine r_iret dL_claimTogether_26 rfl ?_
      have h := Option.some.inj (show some _ = some o from h)
      subst h
      exact hq
    have h := iq (fun z9 => z9) hE2 h
    exact nomatch (show (none : Option _) = some _ from h)
theorem ct_L_claimTogether {g : GG} {ad : Nat → Nat} {ao : Nat → Nat} {t : va_W} {x0 x1 x11 x12 x19 x20 x24 x25 x26 x27 x28 x29 x30 x31 x37 x39 x40 x41 x47 x48 x54 x56 x58 x59 x60 x61 x63 x64 x65 x66 : Int32} {x2 x13 x14 x15 x16 x17 x22 x23 x33 x34 x35 x42 x43 x44 x45 x46 x49 x50 x51 x52 x53 x62 x67 : Nat → Int32} {x32 : Int64} {x36 x38 x55 x57 : Nat → Int64} {N : Nat} {Tap_eventCount : Int32} {Tap_tellerCount : Int32} {Cl_count : Int32} {Cl_tellers : Nat → Int32} {Cl_kinds : Nat → Int32} {Cl_events : Nat → Int32} {Cl_firsts : Nat → Int32} {Cl_lasts : Nat → Int32} {Ve_judged : Int32} {Ve_against : Nat → Int32} {L_out : Nat → Int64} {p1 : Int32} {p2 : Int32} {p3 : Int32} {o : Int32 × Int32 × (Nat → Int32) × (Nat → Int32) × (Nat → Int32) × (Nat → Int32) × (Nat → Int32) × Int32 × (Nat → Int32) × (Nat → Int64)} (h : f_L_claimTogether N Tap_eventCount Tap_tellerCount Cl_count Cl_tellers Cl_kinds Cl_events Cl_firsts Cl_lasts Ve_judged Ve_against L_out p1 p2 p3 = some o) : Ct g mL_claimTogether 9 5 30 [.ref (ad 0), .int p1, .int p2, .int p3, .ref (ao 0)] (wlX g ad x0 x1 x2 Tap_eventCount Tap_tellerCount Cl_count Cl_tellers Cl_kinds Cl_events Cl_firsts Cl_lasts x11 x12 x13 x14 x15 x16 x17 Ve_judged x19 x20 Ve_against x22 x23 x24 x25 x26 x27 x28 x29 x30 x31 x32 x33 x34 x35 x36 x37 x38 x39 x40 x41 x42 x43 x44 x45 x46 x47 x48 x49 x50 x51 x52 x53 x54 x55 x56 x57 x58 x59 x60 x61 x62 x63 x64 x65 x66 x67 ++ (wlO g ao L_out ++ t)) (Dv (some (.int o.1)) (wlX g ad x0 x1 x2 Tap_eventCount Tap_tellerCount o.2.1 o.2.2.1 o.2.2.2.1 o.2.2.2.2.1 o.2.2.2.2.2.1 o.2.2.2.2.2.2.1 x11 x12 x13 x14 x15 x16 x17 o.2.2.2.2.2.2.2.1 x19 x20 o.2.2.2.2.2.2.2.2.1 x22 x23 x24 x25 x26 x27 x28 x29 x30 x31 x32 x33 x34 x35 x36 x37 x38 x39 x40 x41 x42 x43 x44 x45 x46 x47 x48 x49 x50 x51 x52 x53 x54 x55 x56 x57 x58 x59 x60 x61 x62 x63 x64 x65 x66 x67 ++ (wlO g ao o.2.2.2.2.2.2.2.2.2 ++ t))) := Ct.ofRH (by decide +kernel) (by decide) (Nat.le_of_ble_eq_true rfl) (rt_L_claimTogether h ⟨rfl, rfl⟩)
set_option maxRecDepth 20000 in
set_option maxHeartbeats 4000000 in
theorem rt_L_takeBack {g : GG} {ad : Nat → Nat} {ao : Nat → Nat} {t : va_W} {x0 x1 x3 x4 x11 x12 x19 x20 x24 x25 x26 x27 x28 x29 x30 x31 x37 x39 x40 x41 x47 x48 x54 x56 x58 x59 x60 x61 x63 x64 x65 x66 : Int32} {x2 x13 x14 x15 x16 x17 x22 x23 x33 x34 x35 x42 x43 x44 x45 x46 x49 x50 x51 x52 x53 x62 x67 : Nat → Int32} {x32 : Int64} {x36 x38 x55 x57 : Nat → Int64} {N : Nat} {Cl_count : Int32} {Cl_tellers : Nat → Int32} {Cl_kinds : Nat → Int32} {Cl_events : Nat → Int32} {Cl_firsts : Nat → Int32} {Cl_lasts : Nat → Int32} {Ve_judged : Int32} {Ve_against : Nat → Int32} {L_out : Nat → Int64} {p1 : Int32} {o : Int32 × Int32 × (Nat → Int32) × (Nat → Int32) × (Nat → Int32) × (Nat → Int32) × (Nat → Int32) × Int32 × (Nat → Int32) × (Nat → Int64)} {Q : Rs → va_W → Prop} (h : f_L_takeBack N Cl_count Cl_tellers Cl_kinds Cl_events Cl_firsts Cl_lasts Ve_judged Ve_against L_out p1 = some o) (hq : Q (.inl (some (.int o.1))) (wlX g ad x0 x1 x2 x3 x4 o.2.1 o.2.2.1 o.2.2.2.1 o.2.2.2.2.1 o.2.2.2.2.2.1 o.2.2.2.2.2.2.1 x11 x12 x13 x14 x15 x16 x17 o.2.2.2.2.2.2.2.1 x19 x20 o.2.2.2.2.2.2.2.2.1 x22 x23 x24 x25 x26 x27 x28 x29 x30 x31 x32 x33 x34 x35 x36 x37 x38 x39 x40 x41 x42 x43 x44 x45 x46 x47 x48 x49 x50 x51 x52 x53 x54 x55 x56 x57 x58 x59 x60 x61 x62 x63 x64 x65 x66 x67 ++ (wlO g ao o.2.2.2.2.2.2.2.2.2 ++ t))) : R g mL_takeBack 8 1 6 0 [(0, .ref (ad 0)), (1, .int p1), (2, .ref (ao 0))] [] (wlX g ad x0 x1 x2 x3 x4 Cl_count Cl_tellers Cl_kinds Cl_events Cl_firsts Cl_lasts x11 x12 x13 x14 x15 x16 x17 Ve_judged x19 x20 Ve_against x22 x23 x24 x25 x26 x27 x28 x29 x30 x31 x32 x33 x34 x35 x36 x37 x38 x39 x40 x41 x42 x43 x44 x45 x46 x47 x48 x49 x50 x51 x52 x53 x54 x55 x56 x57 x58 x59 x60 x61 x62 x63 x64 x65 x66 x67 ++ (wlO g ao L_out ++ t)) Q := by
  unfold f_L_takeBack at h
  refine r_aload_n 2 dL_takeBack_0 rfl ?_
  refine r_iconst (v := (0 : Int32)) dL_takeBack_1 (by decide) ?_
  refine r_aload_n 0 dL_takeBack_2 rfl ?_
  refine r_iload_n 1 dL_takeBack_3 rfl ?_
  obtain ⟨r2626, hc2627, h⟩ := ob (fun z9 => z9) rfl h
  rcases r2626 with q2628 | E2630
  · refine c_X (rest := [.int (0 : Int32), .ref (ao 0)]) 0 0 _ dL_takeBack_4 kv_L_85 (ct_Main_takeBack hc2627) rfl rfl lX_0 rfl (Nat.le_of_ble_eq_true rfl) (by decide) (by decide) ?_
    try dsimp only [Sum.elim_inl, Sum.elim_inr] at h
    refine r_i2l dL_takeBack_7 ?_
    refine r_last _ dL_takeBack_8 lO_0 (by decide) (sO_0 _) ?_
    refine r_goto (tgt := 15) dL_takeBack_9 (by decide) ?_
    refine r_iconst (v := (0 : Int32)) dL_takeBack_15 (by decide) ?_
    refine r_iret dL_takeBack_16 rfl ?_
    have h := Option.some.inj (show some _ = some o from h)
    subst h
    exact hq
  · refine c_Xt (rest := [.int (0 : Int32), .ref (ao 0)]) 0 0 _ dL_takeBack_4 kv_L_85 (ct_Main_takeBack hc2627) rfl rfl lX_0 rfl (Nat.le_of_ble_eq_true rfl) (by decide) (by decide) ?_
    have h : (fun z9 => z9) _ = some o := h
    by_cases hE0 : E2630 = "java/lang/IndexOutOfBoundsException"
    · have h := ip (fun z9 => z9) hE0 h
      subst hE0
      refine rx_catch (pre := []) (z := { startPc := 0, endPc := 9, handlerPc := 12, catchType := 24 }) (suf := []) rfl (fun z hz => absurd hz List.not_mem_nil) (by decide) (by decide) kk_1116 kn_1127 (fun qx2631 => ?_)
      refine r_astore_n [(3, .ref qx2631), (0, .ref (ad 0)), (1, .int p1), (2, .ref (ao 0))] dL_takeBack_12 (by decide) rfl ?_
      refine r_iconst (v := (1 : Int32)) dL_takeBack_13 (by decide) ?_
      refine r_iret dL_takeBack_14 rfl ?_
      have h := Option.some.inj (show some _ = some o from h)
      subst h
      exact hq
    have h := iq (fun z9 => z9) hE0 h
    exact nomatch (show (none : Option _) = some _ from h)
theorem ct_L_takeBack {g : GG} {ad : Nat → Nat} {ao : Nat → Nat} {t : va_W} {x0 x1 x3 x4 x11 x12 x19 x20 x24 x25 x26 x27 x28 x29 x30 x31 x37 x39 x40 x41 x47 x48 x54 x56 x58 x59 x60 x61 x63 x64 x65 x66 : Int32} {x2 x13 x14 x15 x16 x17 x22 x23 x33 x34 x35 x42 x43 x44 x45 x46 x49 x50 x51 x52 x53 x62 x67 : Nat → Int32} {x32 : Int64} {x36 x38 x55 x57 : Nat → Int64} {N : Nat} {Cl_count : Int32} {Cl_tellers : Nat → Int32} {Cl_kinds : Nat → Int32} {Cl_events : Nat → Int32} {Cl_firsts : Nat → Int32} {Cl_lasts : Nat → Int32} {Ve_judged : Int32} {Ve_against : Nat → Int32} {L_out : Nat → Int64} {p1 : Int32} {o : Int32 × Int32 × (Nat → Int32) × (Nat → Int32) × (Nat → Int32) × (Nat → Int32) × (Nat → Int32) × Int32 × (Nat → Int32) × (Nat → Int64)} (h : f_L_takeBack N Cl_count Cl_tellers Cl_kinds Cl_events Cl_firsts Cl_lasts Ve_judged Ve_against L_out p1 = some o) : Ct g mL_takeBack 8 1 6 [.ref (ad 0), .int p1, .ref (ao 0)] (wlX g ad x0 x1 x2 x3 x4 Cl_count Cl_tellers Cl_kinds Cl_events Cl_firsts Cl_lasts x11 x12 x13 x14 x15 x16 x17 Ve_judged x19 x20 Ve_against x22 x23 x24 x25 x26 x27 x28 x29 x30 x31 x32 x33 x34 x35 x36 x37 x38 x39 x40 x41 x42 x43 x44 x45 x46 x47 x48 x49 x50 x51 x52 x53 x54 x55 x56 x57 x58 x59 x60 x61 x62 x63 x64 x65 x66 x67 ++ (wlO g ao L_out ++ t)) (Dv (some (.int o.1)) (wlX g ad x0 x1 x2 x3 x4 o.2.1 o.2.2.1 o.2.2.2.1 o.2.2.2.2.1 o.2.2.2.2.2.1 o.2.2.2.2.2.2.1 x11 x12 x13 x14 x15 x16 x17 o.2.2.2.2.2.2.2.1 x19 x20 o.2.2.2.2.2.2.2.2.1 x22 x23 x24 x25 x26 x27 x28 x29 x30 x31 x32 x33 x34 x35 x36 x37 x38 x39 x40 x41 x42 x43 x44 x45 x46 x47 x48 x49 x50 x51 x52 x53 x54 x55 x56 x57 x58 x59 x60 x61 x62 x63 x64 x65 x66 x67 ++ (wlO g ao o.2.2.2.2.2.2.2.2.2 ++ t))) := Ct.ofRH (by decide +kernel) (by decide) (Nat.le_of_ble_eq_true rfl) (rt_L_takeBack h ⟨rfl, rfl⟩)
set_option maxRecDepth 20000 in
set_option maxHeartbeats 4000000 in
theorem rt_L_turnDoubt {g : GG} {ad : Nat → Nat} {ao : Nat → Nat} {t : va_W} {x0 x1 x3 x5 x11 x12 x18 x19 x20 x24 x25 x26 x27 x28 x29 x30 x31 x37 x39 x40 x41 x47 x48 x54 x56 x58 x60 x61 x63 x64 x65 x66 : Int32} {x2 x6 x7 x8 x9 x10 x13 x14 x15 x16 x17 x21 x22 x23 x33 x34 x35 x42 x43 x44 x45 x46 x49 x50 x51 x52 x53 x62 x67 : Nat → Int32} {x32 : Int64} {x36 x38 x55 x57 : Nat → Int64} {Tap_tellerCount : Int32} {Co_doubted : Int32} {L_out : Nat → Int64} {p1 : Int32} {o : Int32 × Int32 × (Nat → Int64)} {Q : Rs → va_W → Prop} (h : f_L_turnDoubt Tap_tellerCount Co_doubted L_out p1 = some o) (hq : Q (.inl (some (.int o.1))) (wlX g ad x0 x1 x2 x3 Tap_tellerCount x5 x6 x7 x8 x9 x10 x11 x12 x13 x14 x15 x16 x17 x18 x19 x20 x21 x22 x23 x24 x25 x26 x27 x28 x29 x30 x31 x32 x33 x34 x35 x36 x37 x38 x39 x40 x41 x42 x43 x44 x45 x46 x47 x48 x49 x50 x51 x52 x53 x54 x55 x56 x57 x58 o.2.1 x60 x61 x62 x63 x64 x65 x66 x67 ++ (wlO g ao o.2.2 ++ t))) : R g mL_turnDoubt 8 1 6 0 [(0, .ref (ad 0)), (1, .int p1), (2, .ref (ao 0))] [] (wlX g ad x0 x1 x2 x3 Tap_tellerCount x5 x6 x7 x8 x9 x10 x11 x12 x13 x14 x15 x16 x17 x18 x19 x20 x21 x22 x23 x24 x25 x26 x27 x28 x29 x30 x31 x32 x33 x34 x35 x36 x37 x38 x39 x40 x41 x42 x43 x44 x45 x46 x47 x48 x49 x50 x51 x52 x53 x54 x55 x56 x57 x58 Co_doubted x60 x61 x62 x63 x64 x65 x66 x67 ++ (wlO g ao L_out ++ t)) Q := by
  unfold f_L_turnDoubt at h
  refine r_aload_n 2 dL_turnDoubt_0 rfl ?_
  refine r_iconst (v := (0 : Int32)) dL_turnDoubt_1 (by decide) ?_
  refine r_aload_n 0 dL_turnDoubt_2 rfl ?_
  refine r_iload_n 1 dL_turnDoubt_3 rfl ?_
  obtain ⟨r2632, hc2633, h⟩ := ob (fun z9 => z9) rfl h
  rcases r2632 with q2634 | E2638
  · refine c_X (rest := [.int (0 : Int32), .ref (ao 0)]) 0 0 _ dL_turnDoubt_4 kv_L_88 (ct_Main_turnDoubt hc2633) rfl rfl lX_0 rfl (Nat.le_of_ble_eq_true rfl) (by decide) (by decide) ?_
    try dsimp only [Sum.elim_inl, Sum.elim_inr] at h
    refine r_if_eq (tgt := 14) dL_turnDoubt_7 (by decide) (fun hc2635 => ?_) (fun hc2635 => ?_)
    · have h := ip (fun z9 => z9) hc2635 h
      refine r_lconst (v := (0 : Int64)) dL_turnDoubt_14 (by decide) ?_
      refine r_last _ dL_turnDoubt_15 lO_0 (by decide) (sO_0 _) ?_
      refine r_goto (tgt := 22) dL_turnDoubt_16 (by decide) ?_
      refine r_iconst (v := (0 : Int32)) dL_turnDoubt_22 (by decide) ?_
      refine r_iret dL_turnDoubt_23 rfl ?_
      have h := Option.some.inj (show some _ = some o from h)
      subst h
      exact hq
    · have h := iq (fun z9 => z9) hc2635 h
      refine r_lconst (v := (1 : Int64)) dL_turnDoubt_10 (by decide) ?_
      refine r_goto (tgt := 15) dL_turnDoubt_11 (by decide) ?_
      refine r_last _ dL_turnDoubt_15 lO_0 (by decide) (sO_0 _) ?_
      refine r_goto (tgt := 22) dL_turnDoubt_16 (by decide) ?_
      refine r_iconst (v := (0 : Int32)) dL_turnDoubt_22 (by decide) ?_
      refine r_iret dL_turnDoubt_23 rfl ?_
      have h := Option.some.inj (show some _ = some o from h)
      subst h
      exact hq
  · refine c_Xt (rest := [.int (0 : Int32), .ref (ao 0)]) 0 0 _ dL_turnDoubt_4 kv_L_88 (ct_Main_turnDoubt hc2633) rfl rfl lX_0 rfl (Nat.le_of_ble_eq_true rfl) (by decide) (by decide) ?_
    have h : (fun z9 => z9) _ = some o := h
    by_cases hE0 : E2638 = "java/lang/IndexOutOfBoundsException"
    · have h := ip (fun z9 => z9) hE0 h
      subst hE0
      refine rx_catch (pre := []) (z := { startPc := 0, endPc := 16, handlerPc := 19, catchType := 24 }) (suf := []) rfl (fun z hz => absurd hz List.not_mem_nil) (by decide) (by decide) kk_1116 kn_1127 (fun qx2639 => ?_)
      refine r_astore_n [(3, .ref qx2639), (0, .ref (ad 0)), (1, .int p1), (2, .ref (ao 0))] dL_turnDoubt_19 (by decide) rfl ?_
      refine r_iconst (v := (1 : Int32)) dL_turnDoubt_20 (by decide) ?_
      refine r_iret dL_turnDoubt_21 rfl ?_
      have h := Option.some.inj (show some _ = some o from h)
      subst h
      exact hq
    have h := iq (fun z9 => z9) hE0 h
    exact nomatch (show (none : Option _) = some _ from h)
theorem ct_L_turnDoubt {g : GG} {ad : Nat → Nat} {ao : Nat → Nat} {t : va_W} {x0 x1 x3 x5 x11 x12 x18 x19 x20 x24 x25 x26 x27 x28 x29 x30 x31 x37 x39 x40 x41 x47 x48 x54 x56 x58 x60 x61 x63 x64 x65 x66 : Int32} {x2 x6 x7 x8 x9 x10 x13 x14 x15 x16 x17 x21 x22 x23 x33 x34 x35 x42 x43 x44 x45 x46 x49 x50 x51 x52 x53 x62 x67 : Nat → Int32} {x32 : Int64} {x36 x38 x55 x57 : Nat → Int64} {Tap_tellerCount : Int32} {Co_doubted : Int32} {L_out : Nat → Int64} {p1 : Int32} {o : Int32 × Int32 × (Nat → Int64)} (h : f_L_turnDoubt Tap_tellerCount Co_doubted L_out p1 = some o) : Ct g mL_turnDoubt 8 1 6 [.ref (ad 0), .int p1, .ref (ao 0)] (wlX g ad x0 x1 x2 x3 Tap_tellerCount x5 x6 x7 x8 x9 x10 x11 x12 x13 x14 x15 x16 x17 x18 x19 x20 x21 x22 x23 x24 x25 x26 x27 x28 x29 x30 x31 x32 x33 x34 x35 x36 x37 x38 x39 x40 x41 x42 x43 x44 x45 x46 x47 x48 x49 x50 x51 x52 x53 x54 x55 x56 x57 x58 Co_doubted x60 x61 x62 x63 x64 x65 x66 x67 ++ (wlO g ao L_out ++ t)) (Dv (some (.int o.1)) (wlX g ad x0 x1 x2 x3 Tap_tellerCount x5 x6 x7 x8 x9 x10 x11 x12 x13 x14 x15 x16 x17 x18 x19 x20 x21 x22 x23 x24 x25 x26 x27 x28 x29 x30 x31 x32 x33 x34 x35 x36 x37 x38 x39 x40 x41 x42 x43 x44 x45 x46 x47 x48 x49 x50 x51 x52 x53 x54 x55 x56 x57 x58 o.2.1 x60 x61 x62 x63 x64 x65 x66 x67 ++ (wlO g ao o.2.2 ++ t))) := Ct.ofRH (by decide +kernel) (by decide) (Nat.le_of_ble_eq_true rfl) (rt_L_turnDoubt h ⟨rfl, rfl⟩)
set_option maxRecDepth 20000 in
set_option maxHeartbeats 4000000 in
theorem rt_L_passEvenings {g : GG} {ad : Nat → Nat} {ao : Nat → Nat} {t : va_W} {x0 x1 x3 x12 x24 x25 x26 x27 x28 x29 x30 x31 x37 x39 x40 x41 x47 x48 x54 x56 x63 x64 x65 x66 : Int32} {x2 x22 x23 x33 x34 x35 x42 x43 x44 x45 x46 x49 x50 x51 x52 x53 x67 : Nat → Int32} {x32 : Int64} {x36 x38 x55 x57 : Nat → Int64} {N : Nat} {Tap_tellerCount : Int32} {Cl_count : Int32} {Cl_tellers : Nat → Int32} {Cl_kinds : Nat → Int32} {Cl_events : Nat → Int32} {Cl_firsts : Nat → Int32} {Cl_lasts : Nat → Int32} {Or_count : Int32} {Or_doubts : Nat → Int32} {Or_tellers : Nat → Int32} {Or_ends : Nat → Int32} {Or_stepKinds : Nat → Int32} {Or_stepParts : Nat → Int32} {Ve_judged : Int32} {Ve_liarSet : Int32} {Ve_setCount : Int32} {Ve_against : Nat → Int32} {Co_top : Int32} {Co_doubted : Int32} {Co_evening : Int32} {Co_carriedOut : Int32} {Co_stack : Nat → Int32} {L_out : Nat → Int64} {p1 : Int32} {o : Int32 × Int32 × Int32 × Int32 × Int32 × Int32 × Int32 × Int32 × (Nat → Int32) × (Nat → Int64)} {Q : Rs → va_W → Prop} (h : f_L_passEvenings N Tap_tellerCount Cl_count Cl_tellers Cl_kinds Cl_events Cl_firsts Cl_lasts Or_count Or_doubts Or_tellers Or_ends Or_stepKinds Or_stepParts Ve_judged Ve_liarSet Ve_setCount Ve_against Co_top Co_doubted Co_evening Co_carriedOut Co_stack L_out p1 = some o) (hq : Q (.inl (some (.int o.1))) (wlX g ad x0 x1 x2 x3 Tap_tellerCount Cl_count Cl_tellers Cl_kinds Cl_events Cl_firsts Cl_lasts Or_count x12 Or_doubts Or_tellers Or_ends Or_stepKinds Or_stepParts o.2.1 o.2.2.1 o.2.2.2.1 Ve_against x22 x23 x24 x25 x26 x27 x28 x29 x30 x31 x32 x33 x34 x35 x36 x37 x38 x39 x40 x41 x42 x43 x44 x45 x46 x47 x48 x49 x50 x51 x52 x53 x54 x55 x56 x57 o.2.2.2.2.1 o.2.2.2.2.2.1 o.2.2.2.2.2.2.1 o.2.2.2.2.2.2.2.1 o.2.2.2.2.2.2.2.2.1 x63 x64 x65 x66 x67 ++ (wlO g ao o.2.2.2.2.2.2.2.2.2 ++ t))) : R g mL_passEvenings 9 1 6 0 [(0, .ref (ad 0)), (1, .int p1), (2, .ref (ao 0))] [] (wlX g ad x0 x1 x2 x3 Tap_tellerCount Cl_count Cl_tellers Cl_kinds Cl_events Cl_firsts Cl_lasts Or_count x12 Or_doubts Or_tellers Or_ends Or_stepKinds Or_stepParts Ve_judged Ve_liarSet Ve_setCount Ve_against x22 x23 x24 x25 x26 x27 x28 x29 x30 x31 x32 x33 x34 x35 x36 x37 x38 x39 x40 x41 x42 x43 x44 x45 x46 x47 x48 x49 x50 x51 x52 x53 x54 x55 x56 x57 Co_top Co_doubted Co_evening Co_carriedOut Co_stack x63 x64 x65 x66 x67 ++ (wlO g ao L_out ++ t)) Q := by
  unfold f_L_passEvenings at h
  refine r_aload_n 2 dL_passEvenings_0 rfl ?_
  refine r_iconst (v := (0 : Int32)) dL_passEvenings_1 (by decide) ?_
  refine r_aload_n 0 dL_passEvenings_2 rfl ?_
  refine r_iload_n 1 dL_passEvenings_3 rfl ?_
  obtain ⟨r2640, hc2641, h⟩ := ob (fun z9 => z9) rfl h
  rcases r2640 with q2642 | E2644
  · refine c_X (rest := [.int (0 : Int32), .ref (ao 0)]) 0 0 _ dL_passEvenings_4 kv_L_91 (ct_Main_passEvenings hc2641) rfl rfl lX_0 rfl (Nat.le_of_ble_eq_true rfl) (by decide) (by decide) ?_
    try dsimp only [Sum.elim_inl, Sum.elim_inr] at h
    refine r_i2l dL_passEvenings_7 ?_
    refine r_last _ dL_passEvenings_8 lO_0 (by decide) (sO_0 _) ?_
    refine r_goto (tgt := 15) dL_passEvenings_9 (by decide) ?_
    refine r_iconst (v := (0 : Int32)) dL_passEvenings_15 (by decide) ?_
    refine r_iret dL_passEvenings_16 rfl ?_
    have h := Option.some.inj (show some _ = some o from h)
    subst h
    exact hq
  · refine c_Xt (rest := [.int (0 : Int32), .ref (ao 0)]) 0 0 _ dL_passEvenings_4 kv_L_91 (ct_Main_passEvenings hc2641) rfl rfl lX_0 rfl (Nat.le_of_ble_eq_true rfl) (by decide) (by decide) ?_
    have h : (fun z9 => z9) _ = some o := h
    by_cases hE0 : E2644 = "java/lang/IllegalArgumentException"
    · have h := ip (fun z9 => z9) hE0 h
      subst hE0
      refine rx_catch (pre := []) (z := { startPc := 0, endPc := 9, handlerPc := 12, catchType := 19 }) (suf := []) rfl (fun z hz => absurd hz List.not_mem_nil) (by decide) (by decide) kk_1092 kn_1099 (fun qx2645 => ?_)
      refine r_astore_n [(3, .ref qx2645), (0, .ref (ad 0)), (1, .int p1), (2, .ref (ao 0))] dL_passEvenings_12 (by decide) rfl ?_
      refine r_iconst (v := (1 : Int32)) dL_passEvenings_13 (by decide) ?_
      refine r_iret dL_passEvenings_14 rfl ?_
      have h := Option.some.inj (show some _ = some o from h)
      subst h
      exact hq
    have h := iq (fun z9 => z9) hE0 h
    exact nomatch (show (none : Option _) = some _ from h)
theorem ct_L_passEvenings {g : GG} {ad : Nat → Nat} {ao : Nat → Nat} {t : va_W} {x0 x1 x3 x12 x24 x25 x26 x27 x28 x29 x30 x31 x37 x39 x40 x41 x47 x48 x54 x56 x63 x64 x65 x66 : Int32} {x2 x22 x23 x33 x34 x35 x42 x43 x44 x45 x46 x49 x50 x51 x52 x53 x67 : Nat → Int32} {x32 : Int64} {x36 x38 x55 x57 : Nat → Int64} {N : Nat} {Tap_tellerCount : Int32} {Cl_count : Int32} {Cl_tellers : Nat → Int32} {Cl_kinds : Nat → Int32} {Cl_events : Nat → Int32} {Cl_firsts : Nat → Int32} {Cl_lasts : Nat → Int32} {Or_count : Int32} {Or_doubts : Nat → Int32} {Or_tellers : Nat → Int32} {Or_ends : Nat → Int32} {Or_stepKinds : Nat → Int32} {Or_stepParts : Nat → Int32} {Ve_judged : Int32} {Ve_liarSet : Int32} {Ve_setCount : Int32} {Ve_against : Nat → Int32} {Co_top : Int32} {Co_doubted : Int32} {Co_evening : Int32} {Co_carriedOut : Int32} {Co_stack : Nat → Int32} {L_out : Nat → Int64} {p1 : Int32} {o : Int32 × Int32 × Int32 × Int32 × Int32 × Int32 × Int32 × Int32 × (Nat → Int32) × (Nat → Int64)} (h : f_L_passEvenings N Tap_tellerCount Cl_count Cl_tellers Cl_kinds Cl_events Cl_firsts Cl_lasts Or_count Or_doubts Or_tellers Or_ends Or_stepKinds Or_stepParts Ve_judged Ve_liarSet Ve_setCount Ve_against Co_top Co_doubted Co_evening Co_carriedOut Co_stack L_out p1 = some o) : Ct g mL_passEvenings 9 1 6 [.ref (ad 0), .int p1, .ref (ao 0)] (wlX g ad x0 x1 x2 x3 Tap_tellerCount Cl_count Cl_tellers Cl_kinds Cl_events Cl_firsts Cl_lasts Or_count x12 Or_doubts Or_tellers Or_ends Or_stepKinds Or_stepParts Ve_judged Ve_liarSet Ve_setCount Ve_against x22 x23 x24 x25 x26 x27 x28 x29 x30 x31 x32 x33 x34 x35 x36 x37 x38 x39 x40 x41 x42 x43 x44 x45 x46 x47 x48 x49 x50 x51 x52 x53 x54 x55 x56 x57 Co_top Co_doubted Co_evening Co_carriedOut Co_stack x63 x64 x65 x66 x67 ++ (wlO g ao L_out ++ t)) (Dv (some (.int o.1)) (wlX g ad x0 x1 x2 x3 Tap_tellerCount Cl_count Cl_tellers Cl_kinds Cl_events Cl_firsts Cl_lasts Or_count x12 Or_doubts Or_tellers Or_ends Or_stepKinds Or_stepParts o.2.1 o.2.2.1 o.2.2.2.1 Ve_against x22 x23 x24 x25 x26 x27 x28 x29 x30 x31 x32 x33 x34 x35 x36 x37 x38 x39 x40 x41 x42 x43 x44 x45 x46 x47 x48 x49 x50 x51 x52 x53 x54 x55 x56 x57 o.2.2.2.2.1 o.2.2.2.2.2.1 o.2.2.2.2.2.2.1 o.2.2.2.2.2.2.2.1 o.2.2.2.2.2.2.2.2.1 x63 x64 x65 x66 x67 ++ (wlO g ao o.2.2.2.2.2.2.2.2.2 ++ t))) := Ct.ofRH (by decide +kernel) (by decide) (Nat.le_of_ble_eq_true rfl) (rt_L_passEvenings h ⟨rfl, rfl⟩)
set_option maxRecDepth 20000 in
set_option maxHeartbeats 4000000 in
theorem rt_L_liarsAfter {g : GG} {ad : Nat → Nat} {ao : Nat → Nat} {t : va_W} {x0 x1 x3 x12 x24 x25 x26 x27 x28 x29 x30 x31 x37 x39 x40 x41 x47 x48 x54 x56 x58 : Int32} {x2 x22 x23 x33 x34 x35 x42 x43 x44 x45 x46 x49 x50 x51 x52 x53 x62 : Nat → Int32} {x32 : Int64} {x36 x38 x55 x57 : Nat → Int64} {N : Nat} {Tap_tellerCount : Int32} {Cl_count : Int32} {Cl_tellers : Nat → Int32} {Cl_kinds : Nat → Int32} {Cl_events : Nat → Int32} {Cl_firsts : Nat → Int32} {Cl_lasts : Nat → Int32} {Or_count : Int32} {Or_doubts : Nat → Int32} {Or_tellers : Nat → Int32} {Or_ends : Nat → Int32} {Or_stepKinds : Nat → Int32} {Or_stepParts : Nat → Int32} {Ve_judged : Int32} {Ve_liarSet : Int32} {Ve_setCount : Int32} {Ve_against : Nat → Int32} {Co_doubted : Int32} {Co_evening : Int32} {Co_carriedOut : Int32} {Co_top : Int32} {Co_doubted_2 : Int32} {Co_evening_2 : Int32} {Co_carriedOut_2 : Int32} {Co_stack : Nat → Int32} {L_out : Nat → Int64} {p1 : Int32} {o : Int32 × Int32 × Int32 × Int32 × Int32 × Int32 × Int32 × Int32 × (Nat → Int32) × (Nat → Int64)} {Q : Rs → va_W → Prop} (h : f_L_liarsAfter N Tap_tellerCount Cl_count Cl_tellers Cl_kinds Cl_events Cl_firsts Cl_lasts Or_count Or_doubts Or_tellers Or_ends Or_stepKinds Or_stepParts Ve_judged Ve_liarSet Ve_setCount Ve_against Co_doubted Co_evening Co_carriedOut Co_top Co_doubted_2 Co_evening_2 Co_carriedOut_2 Co_stack L_out p1 = some o) (hq : Q (.inl (some (.int o.1))) (wlX g ad x0 x1 x2 x3 Tap_tellerCount Cl_count Cl_tellers Cl_kinds Cl_events Cl_firsts Cl_lasts Or_count x12 Or_doubts Or_tellers Or_ends Or_stepKinds Or_stepParts o.2.1 o.2.2.1 o.2.2.2.1 Ve_against x22 x23 x24 x25 x26 x27 x28 x29 x30 x31 x32 x33 x34 x35 x36 x37 x38 x39 x40 x41 x42 x43 x44 x45 x46 x47 x48 x49 x50 x51 x52 x53 x54 x55 x56 x57 x58 Co_doubted Co_evening Co_carriedOut x62 o.2.2.2.2.1 o.2.2.2.2.2.1 o.2.2.2.2.2.2.1 o.2.2.2.2.2.2.2.1 o.2.2.2.2.2.2.2.2.1 ++ (wlO g ao o.2.2.2.2.2.2.2.2.2 ++ t))) : R g mL_liarsAfter 9 1 6 0 [(0, .ref (ad 0)), (1, .int p1), (2, .ref (ao 0))] [] (wlX g ad x0 x1 x2 x3 Tap_tellerCount Cl_count Cl_tellers Cl_kinds Cl_events Cl_firsts Cl_lasts Or_count x12 Or_doubts Or_tellers Or_ends Or_stepKinds Or_stepParts Ve_judged Ve_liarSet Ve_setCount Ve_against x22 x23 x24 x25 x26 x27 x28 x29 x30 x31 x32 x33 x34 x35 x36 x37 x38 x39 x40 x41 x42 x43 x44 x45 x46 x47 x48 x49 x50 x51 x52 x53 x54 x55 x56 x57 x58 Co_doubted Co_evening Co_carriedOut x62 Co_top Co_doubted_2 Co_evening_2 Co_carriedOut_2 Co_stack ++ (wlO g ao L_out ++ t)) Q := by
  unfold f_L_liarsAfter at h
  refine r_aload_n 2 dL_liarsAfter_0 rfl ?_
  refine r_iconst (v := (0 : Int32)) dL_liarsAfter_1 (by decide) ?_
  refine r_aload_n 0 dL_liarsAfter_2 rfl ?_
  refine r_iload_n 1 dL_liarsAfter_3 rfl ?_
  obtain ⟨r2646, hc2647, h⟩ := ob (fun z9 => z9) rfl h
  rcases r2646 with q2648 | E2650
  · refine c_X (rest := [.int (0 : Int32), .ref (ao 0)]) 0 0 _ dL_liarsAfter_4 kv_L_94 (ct_Main_liarsAfter hc2647) rfl rfl lX_0 rfl (Nat.le_of_ble_eq_true rfl) (by decide) (by decide) ?_
    try dsimp only [Sum.elim_inl, Sum.elim_inr] at h
    refine r_i2l dL_liarsAfter_7 ?_
    refine r_last _ dL_liarsAfter_8 lO_0 (by decide) (sO_0 _) ?_
    refine r_goto (tgt := 15) dL_liarsAfter_9 (by decide) ?_
    refine r_iconst (v := (0 : Int32)) dL_liarsAfter_15 (by decide) ?_
    refine r_iret dL_liarsAfter_16 rfl ?_
    have h := Option.some.inj (show some _ = some o from h)
    subst h
    exact hq
  · refine c_Xt (rest := [.int (0 : Int32), .ref (ao 0)]) 0 0 _ dL_liarsAfter_4 kv_L_94 (ct_Main_liarsAfter hc2647) rfl rfl lX_0 rfl (Nat.le_of_ble_eq_true rfl) (by decide) (by decide) ?_
    have h : (fun z9 => z9) _ = some o := h
    by_cases hE0 : E2650 = "java/lang/IllegalArgumentException"
    · have h := ip (fun z9 => z9) hE0 h
      subst hE0
      refine rx_catch (pre := []) (z := { startPc := 0, endPc := 9, handlerPc := 12, catchType := 19 }) (suf := []) rfl (fun z hz => absurd hz List.not_mem_nil) (by decide) (by decide) kk_1092 kn_1099 (fun qx2651 => ?_)
      refine r_astore_n [(3, .ref qx2651), (0, .ref (ad 0)), (1, .int p1), (2, .ref (ao 0))] dL_liarsAfter_12 (by decide) rfl ?_
      refine r_iconst (v := (1 : Int32)) dL_liarsAfter_13 (by decide) ?_
      refine r_iret dL_liarsAfter_14 rfl ?_
      have h := Option.some.inj (show some _ = some o from h)
      subst h
      exact hq
    have h := iq (fun z9 => z9) hE0 h
    exact nomatch (show (none : Option _) = some _ from h)
theorem ct_L_liarsAfter {g : GG} {ad : Nat → Nat} {ao : Nat → Nat} {t : va_W} {x0 x1 x3 x12 x24 x25 x26 x27 x28 x29 x30 x31 x37 x39 x40 x41 x47 x48 x54 x56 x58 : Int32} {x2 x22 x23 x33 x34 x35 x42 x43 x44 x45 x46 x49 x50 x51 x52 x53 x62 : Nat → Int32} {x32 : Int64} {x36 x38 x55 x57 : Nat → Int64} {N : Nat} {Tap_tellerCount : Int32} {Cl_count : Int32} {Cl_tellers : Nat → Int32} {Cl_kinds : Nat → Int32} {Cl_events : Nat → Int32} {Cl_firsts : Nat → Int32} {Cl_lasts : Nat → Int32} {Or_count : Int32} {Or_doubts : Nat → Int32} {Or_tellers : Nat → Int32} {Or_ends : Nat → Int32} {Or_stepKinds : Nat → Int32} {Or_stepParts : Nat → Int32} {Ve_judged : Int32} {Ve_liarSet : Int32} {Ve_setCount : Int32} {Ve_against : Nat → Int32} {Co_doubted : Int32} {Co_evening : Int32} {Co_carriedOut : Int32} {Co_top : Int32} {Co_doubted_2 : Int32} {Co_evening_2 : Int32} {Co_carriedOut_2 : Int32} {Co_stack : Nat → Int32} {L_out : Nat → Int64} {p1 : Int32} {o : Int32 × Int32 × Int32 × Int32 × Int32 × Int32 × Int32 × Int32 × (Nat → Int32) × (Nat → Int64)} (h : f_L_liarsAfter N Tap_tellerCount Cl_count Cl_tellers Cl_kinds Cl_events Cl_firsts Cl_lasts Or_count Or_doubts Or_tellers Or_ends Or_stepKinds Or_stepParts Ve_judged Ve_liarSet Ve_setCount Ve_against Co_doubted Co_evening Co_carriedOut Co_top Co_doubted_2 Co_evening_2 Co_carriedOut_2 Co_stack L_out p1 = some o) : Ct g mL_liarsAfter 9 1 6 [.ref (ad 0), .int p1, .ref (ao 0)] (wlX g ad x0 x1 x2 x3 Tap_tellerCount Cl_count Cl_tellers Cl_kinds Cl_events Cl_firsts Cl_lasts Or_count x12 Or_doubts Or_tellers Or_ends Or_stepKinds Or_stepParts Ve_judged Ve_liarSet Ve_setCount Ve_against x22 x23 x24 x25 x26 x27 x28 x29 x30 x31 x32 x33 x34 x35 x36 x37 x38 x39 x40 x41 x42 x43 x44 x45 x46 x47 x48 x49 x50 x51 x52 x53 x54 x55 x56 x57 x58 Co_doubted Co_evening Co_carriedOut x62 Co_top Co_doubted_2 Co_evening_2 Co_carriedOut_2 Co_stack ++ (wlO g ao L_out ++ t)) (Dv (some (.int o.1)) (wlX g ad x0 x1 x2 x3 Tap_tellerCount Cl_count Cl_tellers Cl_kinds Cl_events Cl_firsts Cl_lasts Or_count x12 Or_doubts Or_tellers Or_ends Or_stepKinds Or_stepParts o.2.1 o.2.2.1 o.2.2.2.1 Ve_against x22 x23 x24 x25 x26 x27 x28 x29 x30 x31 x32 x33 x34 x35 x36 x37 x38 x39 x40 x41 x42 x43 x44 x45 x46 x47 x48 x49 x50 x51 x52 x53 x54 x55 x56 x57 x58 Co_doubted Co_evening Co_carriedOut x62 o.2.2.2.2.1 o.2.2.2.2.2.1 o.2.2.2.2.2.2.1 o.2.2.2.2.2.2.2.1 o.2.2.2.2.2.2.2.2.1 ++ (wlO g ao o.2.2.2.2.2.2.2.2.2 ++ t))) := Ct.ofRH (by decide +kernel) (by decide) (Nat.le_of_ble_eq_true rfl) (rt_L_liarsAfter h ⟨rfl, rfl⟩)
