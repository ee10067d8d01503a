set_option maxRecDepth 20000 in
set_option maxHeartbeats 4000000 in
theorem rt_Main_claimHours {g : GG} {ad : Nat → Nat} {t : va_W} {x0 x1 x11 x12 x19 x20 x24 x25 x26 x27 x28 x29 x30 x31 x37 x39 x40 x41 x47 x48 x54 x56 x58 x59 x60 x61 x63 x64 x65 x66 : Int32} {x2 x13 x14 x15 x16 x17 x22 x23 x33 x34 x35 x42 x43 x44 x45 x46 x49 x50 x51 x52 x53 x62 x67 : Nat → Int32} {x32 : Int64} {x36 x38 x55 x57 : Nat → Int64} {N : Nat} {Tap_eventCount : Int32} {Tap_tellerCount : Int32} {Cl_count : Int32} {Cl_tellers : Nat → Int32} {Cl_kinds : Nat → Int32} {Cl_events : Nat → Int32} {Cl_firsts : Nat → Int32} {Cl_lasts : Nat → Int32} {Ve_judged : Int32} {Ve_against : Nat → Int32} {p1 : Int32} {p2 : Int32} {p3 : Int32} {p4 : Int32} {o : (Int32 × Int32 × (Nat → Int32) × (Nat → Int32) × (Nat → Int32) × (Nat → Int32) × (Nat → Int32) × Int32 × (Nat → Int32)) ⊕ String} {Q : Rs → va_W → Prop} (h : f_Main_claimHours N Tap_eventCount Tap_tellerCount Cl_count Cl_tellers Cl_kinds Cl_events Cl_firsts Cl_lasts Ve_judged Ve_against p1 p2 p3 p4 = some o) (hq1 : ∀ q, o = .inl q → Q (.inl (some (.int q.1))) (wlX g ad x0 x1 x2 Tap_eventCount Tap_tellerCount q.2.1 q.2.2.1 q.2.2.2.1 q.2.2.2.2.1 q.2.2.2.2.2.1 q.2.2.2.2.2.2.1 x11 x12 x13 x14 x15 x16 x17 q.2.2.2.2.2.2.2.1 x19 x20 q.2.2.2.2.2.2.2.2 x22 x23 x24 x25 x26 x27 x28 x29 x30 x31 x32 x33 x34 x35 x36 x37 x38 x39 x40 x41 x42 x43 x44 x45 x46 x47 x48 x49 x50 x51 x52 x53 x54 x55 x56 x57 x58 x59 x60 x61 x62 x63 x64 x65 x66 x67 ++ t)) (hq2 : ∀ E, o = .inr E → Q (.inr E) (wlX g ad x0 x1 x2 Tap_eventCount Tap_tellerCount Cl_count Cl_tellers Cl_kinds Cl_events Cl_firsts Cl_lasts x11 x12 x13 x14 x15 x16 x17 Ve_judged x19 x20 Ve_against x22 x23 x24 x25 x26 x27 x28 x29 x30 x31 x32 x33 x34 x35 x36 x37 x38 x39 x40 x41 x42 x43 x44 x45 x46 x47 x48 x49 x50 x51 x52 x53 x54 x55 x56 x57 x58 x59 x60 x61 x62 x63 x64 x65 x66 x67 ++ t)) : R g mX9_claimHours 7 3 18 0 [(0, .ref (ad 0)), (1, .int p1), (2, .int p2), (3, .int p3), (4, .int p4)] [] (wlX g ad x0 x1 x2 Tap_eventCount Tap_tellerCount Cl_count Cl_tellers Cl_kinds Cl_events Cl_firsts Cl_lasts x11 x12 x13 x14 x15 x16 x17 Ve_judged x19 x20 Ve_against x22 x23 x24 x25 x26 x27 x28 x29 x30 x31 x32 x33 x34 x35 x36 x37 x38 x39 x40 x41 x42 x43 x44 x45 x46 x47 x48 x49 x50 x51 x52 x53 x54 x55 x56 x57 x58 x59 x60 x61 x62 x63 x64 x65 x66 x67 ++ t) Q := by
  unfold f_Main_claimHours at h
  refine r_aload_n 0 dX9_claimHours_0 rfl ?_
  refine r_iload_n 1 dX9_claimHours_1 rfl ?_
  obtain ⟨r968, hc969, h⟩ := ob (fun z9 => z9) rfl h
  rcases r968 with q970 | E982
  · refine c_Xv (rest := []) 2 12 _ dX9_claimHours_2 kv_X9_156 (ct_Main_needTeller hc969) rfl rfl lX_0 rfl (Nat.le_of_ble_eq_true rfl) (by decide) (by decide) ?_
    try dsimp only [Sum.elim_inl, Sum.elim_inr] at h
    refine r_aload_n 0 dX9_claimHours_5 rfl ?_
    refine r_iload_n 2 dX9_claimHours_6 rfl ?_
    obtain ⟨r971, hc972, h⟩ := ob (fun z9 => z9) rfl h
    rcases r971 with q973 | E981
    · refine c_Xv (rest := []) 1 6 _ dX9_claimHours_7 kv_X9_192 (ct_Main_needEvent hc972) rfl rfl lX_0 rfl (Nat.le_of_ble_eq_true rfl) (by decide) (by decide) ?_
      try dsimp only [Sum.elim_inl, Sum.elim_inr] at h
      refine r_iload_n 3 dX9_claimHours_10 rfl ?_
      refine r_if_lt (tgt := 27) dX9_claimHours_11 (by decide) (fun hc974 => ?_) (fun hc974 => ?_)
      · have h := ip (fun z9 => z9) hc974 h
        refine r_throw (x := 0) (y := 0) dX9_claimHours_27 dX9_claimHours_30 dX9_claimHours_31 dX9_claimHours_33 dX9_claimHours_36 kx_X9_76_222_80 rfl (Nat.le_of_ble_eq_true rfl) (by decide) ?_
        have h := Option.some.inj (show some _ = some o from h)
        subst h
        exact hq2 _ rfl
      · have h := iq (fun z9 => z9) hc974 h
        refine r_iload 4 dX9_claimHours_14 rfl ?_
        refine r_bipush (v := (99 : Int32)) dX9_claimHours_16 (by decide) ?_
        refine r_icmp_gt (tgt := 27) dX9_claimHours_18 (by decide) (fun hc975 => ?_) (fun hc975 => ?_)
        · have h := ip (fun z9 => z9) hc975 h
          refine r_throw (x := 0) (y := 0) dX9_claimHours_27 dX9_claimHours_30 dX9_claimHours_31 dX9_claimHours_33 dX9_claimHours_36 kx_X9_76_222_80 rfl (Nat.le_of_ble_eq_true rfl) (by decide) ?_
          have h := Option.some.inj (show some _ = some o from h)
          subst h
          exact hq2 _ rfl
        · have h := iq (fun z9 => z9) hc975 h
          refine r_iload 4 dX9_claimHours_21 rfl ?_
          refine r_iload_n 3 dX9_claimHours_23 rfl ?_
          refine r_icmp_ge (tgt := 37) dX9_claimHours_24 (by decide) (fun hc976 => ?_) (fun hc976 => ?_)
          · have h := ip (fun z9 => z9) hc976 h
            refine r_aload_n 0 dX9_claimHours_37 rfl ?_
            refine r_iload_n 1 dX9_claimHours_38 rfl ?_
            refine r_iconst (v := (0 : Int32)) dX9_claimHours_39 (by decide) ?_
            refine r_iload_n 2 dX9_claimHours_40 rfl ?_
            refine r_iload_n 3 dX9_claimHours_41 rfl ?_
            refine r_iload 4 dX9_claimHours_42 rfl ?_
            obtain ⟨r977, hc978, h⟩ := ob (fun z9 => z9) rfl h
            rcases r977 with q979 | E980
            · refine c_X (rest := []) 0 0 _ dX9_claimHours_44 kv_X9_224 (ct_Main_claimByHand hc978) rfl rfl lX_0 rfl (Nat.le_of_ble_eq_true rfl) (by decide) (by decide) ?_
              try dsimp only [Sum.elim_inl, Sum.elim_inr] at h
              refine r_iret dX9_claimHours_47 rfl ?_
              have h := Option.some.inj (show some _ = some o from h)
              subst h
              exact hq1 _ rfl
            · refine c_Xt (rest := []) 0 0 _ dX9_claimHours_44 kv_X9_224 (ct_Main_claimByHand hc978) rfl rfl lX_0 rfl (Nat.le_of_ble_eq_true rfl) (by decide) (by decide) ?_
              refine rx_out rfl ?_
              have h := Option.some.inj (show some _ = some o from h)
              subst h
              exact hq2 _ rfl
          · have h := iq (fun z9 => z9) hc976 h
            refine r_throw (x := 0) (y := 0) dX9_claimHours_27 dX9_claimHours_30 dX9_claimHours_31 dX9_claimHours_33 dX9_claimHours_36 kx_X9_76_222_80 rfl (Nat.le_of_ble_eq_true rfl) (by decide) ?_
            have h := Option.some.inj (show some _ = some o from h)
            subst h
            exact hq2 _ rfl
    · refine c_Xt (rest := []) 1 6 _ dX9_claimHours_7 kv_X9_192 (ct_Main_needEvent hc972) rfl rfl lX_0 rfl (Nat.le_of_ble_eq_true rfl) (by decide) (by decide) ?_
      refine rx_out rfl ?_
      have h := Option.some.inj (show some _ = some o from h)
      subst h
      exact hq2 _ rfl
  · refine c_Xt (rest := []) 2 12 _ dX9_claimHours_2 kv_X9_156 (ct_Main_needTeller hc969) rfl rfl lX_0 rfl (Nat.le_of_ble_eq_true rfl) (by decide) (by decide) ?_
    refine rx_out rfl ?_
    have h := Option.some.inj (show some _ = some o from h)
    subst h
    exact hq2 _ rfl
theorem ct_Main_claimHours {g : GG} {ad : Nat → Nat} {t : va_W} {x0 x1 x11 x12 x19 x20 x24 x25 x26 x27 x28 x29 x30 x31 x37 x39 x40 x41 x47 x48 x54 x56 x58 x59 x60 x61 x63 x64 x65 x66 : Int32} {x2 x13 x14 x15 x16 x17 x22 x23 x33 x34 x35 x42 x43 x44 x45 x46 x49 x50 x51 x52 x53 x62 x67 : Nat → Int32} {x32 : Int64} {x36 x38 x55 x57 : Nat → Int64} {N : Nat} {Tap_eventCount : Int32} {Tap_tellerCount : Int32} {Cl_count : Int32} {Cl_tellers : Nat → Int32} {Cl_kinds : Nat → Int32} {Cl_events : Nat → Int32} {Cl_firsts : Nat → Int32} {Cl_lasts : Nat → Int32} {Ve_judged : Int32} {Ve_against : Nat → Int32} {p1 : Int32} {p2 : Int32} {p3 : Int32} {p4 : Int32} {o : (Int32 × Int32 × (Nat → Int32) × (Nat → Int32) × (Nat → Int32) × (Nat → Int32) × (Nat → Int32) × Int32 × (Nat → Int32)) ⊕ String} (h : f_Main_claimHours N Tap_eventCount Tap_tellerCount Cl_count Cl_tellers Cl_kinds Cl_events Cl_firsts Cl_lasts Ve_judged Ve_against p1 p2 p3 p4 = some o) : Ct g mX9_claimHours 7 3 18 [.ref (ad 0), .int p1, .int p2, .int p3, .int p4] (wlX g ad x0 x1 x2 Tap_eventCount Tap_tellerCount Cl_count Cl_tellers Cl_kinds Cl_events Cl_firsts Cl_lasts x11 x12 x13 x14 x15 x16 x17 Ve_judged x19 x20 Ve_against x22 x23 x24 x25 x26 x27 x28 x29 x30 x31 x32 x33 x34 x35 x36 x37 x38 x39 x40 x41 x42 x43 x44 x45 x46 x47 x48 x49 x50 x51 x52 x53 x54 x55 x56 x57 x58 x59 x60 x61 x62 x63 x64 x65 x66 x67 ++ t) (Dt o (fun q => some (.int q.1)) (fun q => (wlX g ad x0 x1 x2 Tap_eventCount Tap_tellerCount q.2.1 q.2.2.1 q.2.2.2.1 q.2.2.2.2.1 q.2.2.2.2.2.1 q.2.2.2.2.2.2.1 x11 x12 x13 x14 x15 x16 x17 q.2.2.2.2.2.2.2.1 x19 x20 q.2.2.2.2.2.2.2.2 x22 x23 x24 x25 x26 x27 x28 x29 x30 x31 x32 x33 x34 x35 x36 x37 x38 x39 x40 x41 x42 x43 x44 x45 x46 x47 x48 x49 x50 x51 x52 x53 x54 x55 x56 x57 x58 x59 x60 x61 x62 x63 x64 x65 x66 x67 ++ t)) (wlX g ad x0 x1 x2 Tap_eventCount Tap_tellerCount Cl_count Cl_tellers Cl_kinds Cl_events Cl_firsts Cl_lasts x11 x12 x13 x14 x15 x16 x17 Ve_judged x19 x20 Ve_against x22 x23 x24 x25 x26 x27 x28 x29 x30 x31 x32 x33 x34 x35 x36 x37 x38 x39 x40 x41 x42 x43 x44 x45 x46 x47 x48 x49 x50 x51 x52 x53 x54 x55 x56 x57 x58 x59 x60 x61 x62 x63 x64 x65 x66 x67 ++ t)) := Ct.ofR (by decide +kernel) rfl (Nat.le_of_ble_eq_true rfl) (rt_Main_claimHours h (fun q e => by subst e; exact ⟨rfl, rfl⟩) (fun E e => by subst e; exact ⟨rfl, rfl⟩))
set_option maxRecDepth 20000 in
set_option maxHeartbeats 4000000 in
theorem rt_Main_needTwoEvents {g : GG} {ad : Nat → Nat} {t : va_W} {x0 x1 x4 x5 x11 x12 x18 x19 x20 x24 x25 x26 x27 x28 x29 x30 x31 x37 x39 x40 x41 x47 x48 x54 x56 x58 x59 x60 x61 x63 x64 x65 x66 : Int32} {x2 x6 x7 x8 x9 x10 x13 x14 x15 x16 x17 x21 x22 x23 x33 x34 x35 x42 x43 x44 x45 x46 x49 x50 x51 x52 x53 x62 x67 : Nat → Int32} {x32 : Int64} {x36 x38 x55 x57 : Nat → Int64} {Tap_eventCount : Int32} {p1 : Int32} {p2 : Int32} {o : (Unit) ⊕ String} {Q : Rs → va_W → Prop} (h : f_Main_needTwoEvents Tap_eventCount p1 p2 = some o) (hq1 : ∀ q, o = .inl q → Q (.inl (none)) (wlX g ad x0 x1 x2 Tap_eventCount x4 x5 x6 x7 x8 x9 x10 x11 x12 x13 x14 x15 x16 x17 x18 x19 x20 x21 x22 x23 x24 x25 x26 x27 x28 x29 x30 x31 x32 x33 x34 x35 x36 x37 x38 x39 x40 x41 x42 x43 x44 x45 x46 x47 x48 x49 x50 x51 x52 x53 x54 x55 x56 x57 x58 x59 x60 x61 x62 x63 x64 x65 x66 x67 ++ t)) (hq2 : ∀ E, o = .inr E → Q (.inr E) (wlX g ad x0 x1 x2 Tap_eventCount x4 x5 x6 x7 x8 x9 x10 x11 x12 x13 x14 x15 x16 x17 x18 x19 x20 x21 x22 x23 x24 x25 x26 x27 x28 x29 x30 x31 x32 x33 x34 x35 x36 x37 x38 x39 x40 x41 x42 x43 x44 x45 x46 x47 x48 x49 x50 x51 x52 x53 x54 x55 x56 x57 x58 x59 x60 x61 x62 x63 x64 x65 x66 x67 ++ t)) : R g mX9_needTwoEvents 7 3 18 0 [(0, .ref (ad 0)), (1, .int p1), (2, .int p2)] [] (wlX g ad x0 x1 x2 Tap_eventCount x4 x5 x6 x7 x8 x9 x10 x11 x12 x13 x14 x15 x16 x17 x18 x19 x20 x21 x22 x23 x24 x25 x26 x27 x28 x29 x30 x31 x32 x33 x34 x35 x36 x37 x38 x39 x40 x41 x42 x43 x44 x45 x46 x47 x48 x49 x50 x51 x52 x53 x54 x55 x56 x57 x58 x59 x60 x61 x62 x63 x64 x65 x66 x67 ++ t) Q := by
  unfold f_Main_needTwoEvents at h
  refine r_aload_n 0 dX9_needTwoEvents_0 rfl ?_
  refine r_iload_n 1 dX9_needTwoEvents_1 rfl ?_
  obtain ⟨r983, hc984, h⟩ := ob (fun z9 => z9) rfl h
  rcases r983 with q985 | E991
  · refine c_Xv (rest := []) 2 12 _ dX9_needTwoEvents_2 kv_X9_192 (ct_Main_needEvent hc984) rfl rfl lX_0 rfl (Nat.le_of_ble_eq_true rfl) (by decide) (by decide) ?_
    try dsimp only [Sum.elim_inl, Sum.elim_inr] at h
    refine r_aload_n 0 dX9_needTwoEvents_5 rfl ?_
    refine r_iload_n 2 dX9_needTwoEvents_6 rfl ?_
    obtain ⟨r986, hc987, h⟩ := ob (fun z9 => z9) rfl h
    rcases r986 with q988 | E990
    · refine c_Xv (rest := []) 1 6 _ dX9_needTwoEvents_7 kv_X9_192 (ct_Main_needEvent hc987) rfl rfl lX_0 rfl (Nat.le_of_ble_eq_true rfl) (by decide) (by decide) ?_
      try dsimp only [Sum.elim_inl, Sum.elim_inr] at h
      refine r_iload_n 1 dX9_needTwoEvents_10 rfl ?_
      refine r_iload_n 2 dX9_needTwoEvents_11 rfl ?_
      refine r_icmp_ne (tgt := 25) dX9_needTwoEvents_12 (by decide) (fun hc989 => ?_) (fun hc989 => ?_)
      · have h := iq (fun z9 => z9) hc989 h
        refine r_vret dX9_needTwoEvents_25 rfl ?_
        have h := Option.some.inj (show some _ = some o from h)
        subst h
        exact hq1 _ rfl
      · have h := ip (fun z9 => z9) hc989 h
        refine r_throw (x := 0) (y := 0) dX9_needTwoEvents_15 dX9_needTwoEvents_18 dX9_needTwoEvents_19 dX9_needTwoEvents_21 dX9_needTwoEvents_24 kx_X9_76_234_80 rfl (Nat.le_of_ble_eq_true rfl) (by decide) ?_
        have h := Option.some.inj (show some _ = some o from h)
        subst h
        exact hq2 _ rfl
    · refine c_Xt (rest := []) 1 6 _ dX9_needTwoEvents_7 kv_X9_192 (ct_Main_needEvent hc987) rfl rfl lX_0 rfl (Nat.le_of_ble_eq_true rfl) (by decide) (by decide) ?_
      refine rx_out rfl ?_
      have h := Option.some.inj (show some _ = some o from h)
      subst h
      exact hq2 _ rfl
  · refine c_Xt (rest := []) 2 12 _ dX9_needTwoEvents_2 kv_X9_192 (ct_Main_needEvent hc984) rfl rfl lX_0 rfl (Nat.le_of_ble_eq_true rfl) (by decide) (by decide) ?_
    refine rx_out rfl ?_
    have h := Option.some.inj (show some _ = some o from h)
    subst h
    exact hq2 _ rfl
theorem ct_Main_needTwoEvents {g : GG} {ad : Nat → Nat} {t : va_W} {x0 x1 x4 x5 x11 x12 x18 x19 x20 x24 x25 x26 x27 x28 x29 x30 x31 x37 x39 x40 x41 x47 x48 x54 x56 x58 x59 x60 x61 x63 x64 x65 x66 : Int32} {x2 x6 x7 x8 x9 x10 x13 x14 x15 x16 x17 x21 x22 x23 x33 x34 x35 x42 x43 x44 x45 x46 x49 x50 x51 x52 x53 x62 x67 : Nat → Int32} {x32 : Int64} {x36 x38 x55 x57 : Nat → Int64} {Tap_eventCount : Int32} {p1 : Int32} {p2 : Int32} {o : (Unit) ⊕ String} (h : f_Main_needTwoEvents Tap_eventCount p1 p2 = some o) : Ct g mX9_needTwoEvents 7 3 18 [.ref (ad 0), .int p1, .int p2] (wlX g ad x0 x1 x2 Tap_eventCount x4 x5 x6 x7 x8 x9 x10 x11 x12 x13 x14 x15 x16 x17 x18 x19 x20 x21 x22 x23 x24 x25 x26 x27 x28 x29 x30 x31 x32 x33 x34 x35 x36 x37 x38 x39 x40 x41 x42 x43 x44 x45 x46 x47 x48 x49 x50 x51 x52 x53 x54 x55 x56 x57 x58 x59 x60 x61 x62 x63 x64 x65 x66 x67 ++ t) (Dt o (fun q => none) (fun q => (wlX g ad x0 x1 x2 Tap_eventCount x4 x5 x6 x7 x8 x9 x10 x11 x12 x13 x14 x15 x16 x17 x18 x19 x20 x21 x22 x23 x24 x25 x26 x27 x28 x29 x30 x31 x32 x33 x34 x35 x36 x37 x38 x39 x40 x41 x42 x43 x44 x45 x46 x47 x48 x49 x50 x51 x52 x53 x54 x55 x56 x57 x58 x59 x60 x61 x62 x63 x64 x65 x66 x67 ++ t)) (wlX g ad x0 x1 x2 Tap_eventCount x4 x5 x6 x7 x8 x9 x10 x11 x12 x13 x14 x15 x16 x17 x18 x19 x20 x21 x22 x23 x24 x25 x26 x27 x28 x29 x30 x31 x32 x33 x34 x35 x36 x37 x38 x39 x40 x41 x42 x43 x44 x45 x46 x47 x48 x49 x50 x51 x52 x53 x54 x55 x56 x57 x58 x59 x60 x61 x62 x63 x64 x65 x66 x67 ++ t)) := Ct.ofR (by decide +kernel) rfl (Nat.le_of_ble_eq_true rfl) (rt_Main_needTwoEvents h (fun q e => by subst e; exact ⟨rfl, rfl⟩) (fun E e => by subst e; exact ⟨rfl, rfl⟩))
set_option maxRecDepth 20000 in
set_option maxHeartbeats 4000000 in
theorem rt_Main_claimBefore {g : GG} {ad : Nat → Nat} {t : va_W} {x0 x1 x11 x12 x19 x20 x24 x25 x26 x27 x28 x29 x30 x31 x37 x39 x40 x41 x47 x48 x54 x56 x58 x59 x60 x61 x63 x64 x65 x66 : Int32} {x2 x13 x14 x15 x16 x17 x22 x23 x33 x34 x35 x42 x43 x44 x45 x46 x49 x50 x51 x52 x53 x62 x67 : Nat → Int32} {x32 : Int64} {x36 x38 x55 x57 : Nat → Int64} {N : Nat} {Tap_eventCount : Int32} {Tap_tellerCount : Int32} {Cl_count : Int32} {Cl_tellers : Nat → Int32} {Cl_kinds : Nat → Int32} {Cl_events : Nat → Int32} {Cl_firsts : Nat → Int32} {Cl_lasts : Nat → Int32} {Ve_judged : Int32} {Ve_against : Nat → Int32} {p1 : Int32} {p2 : Int32} {p3 : Int32} {o : (Int32 × Int32 × (Nat → Int32) × (Nat → Int32) × (Nat → Int32) × (Nat → Int32) × (Nat → Int32) × Int32 × (Nat → Int32)) ⊕ String} {Q : Rs → va_W → Prop} (h : f_Main_claimBefore N Tap_eventCount Tap_tellerCount Cl_count Cl_tellers Cl_kinds Cl_events Cl_firsts Cl_lasts Ve_judged Ve_against p1 p2 p3 = some o) (hq1 : ∀ q, o = .inl q → Q (.inl (some (.int q.1))) (wlX g ad x0 x1 x2 Tap_eventCount Tap_tellerCount q.2.1 q.2.2.1 q.2.2.2.1 q.2.2.2.2.1 q.2.2.2.2.2.1 q.2.2.2.2.2.2.1 x11 x12 x13 x14 x15 x16 x17 q.2.2.2.2.2.2.2.1 x19 x20 q.2.2.2.2.2.2.2.2 x22 x23 x24 x25 x26 x27 x28 x29 x30 x31 x32 x33 x34 x35 x36 x37 x38 x39 x40 x41 x42 x43 x44 x45 x46 x47 x48 x49 x50 x51 x52 x53 x54 x55 x56 x57 x58 x59 x60 x61 x62 x63 x64 x65 x66 x67 ++ t)) (hq2 : ∀ E, o = .inr E → Q (.inr E) (wlX g ad x0 x1 x2 Tap_eventCount Tap_tellerCount Cl_count Cl_tellers Cl_kinds Cl_events Cl_firsts Cl_lasts x11 x12 x13 x14 x15 x16 x17 Ve_judged x19 x20 Ve_against x22 x23 x24 x25 x26 x27 x28 x29 x30 x31 x32 x33 x34 x35 x36 x37 x38 x39 x40 x41 x42 x43 x44 x45 x46 x47 x48 x49 x50 x51 x52 x53 x54 x55 x56 x57 x58 x59 x60 x61 x62 x63 x64 x65 x66 x67 ++ t)) : R g mX9_claimBefore 8 5 30 0 [(0, .ref (ad 0)), (1, .int p1), (2, .int p2), (3, .int p3)] [] (wlX g ad x0 x1 x2 Tap_eventCount Tap_tellerCount Cl_count Cl_tellers Cl_kinds Cl_events Cl_firsts Cl_lasts x11 x12 x13 x14 x15 x16 x17 Ve_judged x19 x20 Ve_against x22 x23 x24 x25 x26 x27 x28 x29 x30 x31 x32 x33 x34 x35 x36 x37 x38 x39 x40 x41 x42 x43 x44 x45 x46 x47 x48 x49 x50 x51 x52 x53 x54 x55 x56 x57 x58 x59 x60 x61 x62 x63 x64 x65 x66 x67 ++ t) Q := by
  unfold f_Main_claimBefore at h
  refine r_aload_n 0 dX9_claimBefore_0 rfl ?_
  refine r_iload_n 1 dX9_claimBefore_1 rfl ?_
  obtain ⟨r992, hc993, h⟩ := ob (fun z9 => z9) rfl h
  rcases r992 with q994 | E1003
  · refine c_Xv (rest := []) 4 24 _ dX9_claimBefore_2 kv_X9_156 (ct_Main_needTeller hc993) rfl rfl lX_0 rfl (Nat.le_of_ble_eq_true rfl) (by decide) (by decide) ?_
    try dsimp only [Sum.elim_inl, Sum.elim_inr] at h
    refine r_aload_n 0 dX9_claimBefore_5 rfl ?_
    refine r_iload_n 2 dX9_claimBefore_6 rfl ?_
    refine r_iload_n 3 dX9_claimBefore_7 rfl ?_
    obtain ⟨r995, hc996, h⟩ := ob (fun z9 => z9) rfl h
    rcases r995 with q997 | E1002
    · refine c_Xv (rest := []) 1 6 _ dX9_claimBefore_8 kv_X9_228 (ct_Main_needTwoEvents hc996) rfl rfl lX_0 rfl (Nat.le_of_ble_eq_true rfl) (by decide) (by decide) ?_
      try dsimp only [Sum.elim_inl, Sum.elim_inr] at h
      refine r_aload_n 0 dX9_claimBefore_11 rfl ?_
      refine r_iload_n 1 dX9_claimBefore_12 rfl ?_
      refine r_iconst (v := (1 : Int32)) dX9_claimBefore_13 (by decide) ?_
      refine r_iload_n 2 dX9_claimBefore_14 rfl ?_
      refine r_iload_n 3 dX9_claimBefore_15 rfl ?_
      refine r_iconst (v := (0 : Int32)) dX9_claimBefore_16 (by decide) ?_
      obtain ⟨r998, hc999, h⟩ := ob (fun z9 => z9) rfl h
      rcases r998 with q1000 | E1001
      · refine c_X (rest := []) 0 0 _ dX9_claimBefore_17 kv_X9_224 (ct_Main_claimByHand hc999) rfl rfl lX_0 rfl (Nat.le_of_ble_eq_true rfl) (by decide) (by decide) ?_
        try dsimp only [Sum.elim_inl, Sum.elim_inr] at h
        refine r_iret dX9_claimBefore_20 rfl ?_
        have h := Option.some.inj (show some _ = some o from h)
        subst h
        exact hq1 _ rfl
      · refine c_Xt (rest := []) 0 0 _ dX9_claimBefore_17 kv_X9_224 (ct_Main_claimByHand hc999) rfl rfl lX_0 rfl (Nat.le_of_ble_eq_true rfl) (by decide) (by decide) ?_
        refine rx_out rfl ?_
        have h := Option.some.inj (show some _ = some o from h)
        subst h
        exact hq2 _ rfl
    · refine c_Xt (rest := []) 1 6 _ dX9_claimBefore_8 kv_X9_228 (ct_Main_needTwoEvents hc996) rfl rfl lX_0 rfl (Nat.le_of_ble_eq_true rfl) (by decide) (by decide) ?_
      refine rx_out rfl ?_
      have h := Option.some.inj (show some _ = some o from h)
      subst h
      exact hq2 _ rfl
  · refine c_Xt (rest := []) 4 24 _ dX9_claimBefore_2 kv_X9_156 (ct_Main_needTeller hc993) rfl rfl lX_0 rfl (Nat.le_of_ble_eq_true rfl) (by decide) (by decide) ?_
    refine rx_out rfl ?_
    have h := Option.some.inj (show some _ = some o from h)
    subst h
    exact hq2 _ rfl
theorem ct_Main_claimBefore {g : GG} {ad : Nat → Nat} {t : va_W} {x0 x1 x11 x12 x19 x20 x24 x25 x26 x27 x28 x29 x30 x31 x37 x39 x40 x41 x47 x48 x54 x56 x58 x59 x60 x61 x63 x64 x65 x66 : Int32} {x2 x13 x14 x15 x16 x17 x22 x23 x33 x34 x35 x42 x43 x44 x45 x46 x49 x50 x51 x52 x53 x62 x67 : Nat → Int32} {x32 : Int64} {x36 x38 x55 x57 : Nat → Int64} {N : Nat} {Tap_eventCount : Int32} {Tap_tellerCount : Int32} {Cl_count : Int32} {Cl_tellers : Nat → Int32} {Cl_kinds : Nat → Int32} {Cl_events : Nat → Int32} {Cl_firsts : Nat → Int32} {Cl_lasts : Nat → Int32} {Ve_judged : Int32} {Ve_against : Nat → Int32} {p1 : Int32} {p2 : Int32} {p3 : Int32} {o : (Int32 × Int32 × (Nat → Int32) × (Nat → Int32) × (Nat → Int32) × (Nat → Int32) × (Nat → Int32) × Int32 × (Nat → Int32)) ⊕ String} (h : f_Main_claimBefore N Tap_eventCount Tap_tellerCount Cl_count Cl_tellers Cl_kinds Cl_events Cl_firsts Cl_lasts Ve_judged Ve_against p1 p2 p3 = some o) : Ct g mX9_claimBefore 8 5 30 [.ref (ad 0), .int p1, .int p2, .int p3] (wlX g ad x0 x1 x2 Tap_eventCount Tap_tellerCount Cl_count Cl_tellers Cl_kinds Cl_events Cl_firsts Cl_lasts x11 x12 x13 x14 x15 x16 x17 Ve_judged x19 x20 Ve_against x22 x23 x24 x25 x26 x27 x28 x29 x30 x31 x32 x33 x34 x35 x36 x37 x38 x39 x40 x41 x42 x43 x44 x45 x46 x47 x48 x49 x50 x51 x52 x53 x54 x55 x56 x57 x58 x59 x60 x61 x62 x63 x64 x65 x66 x67 ++ t) (Dt o (fun q => some (.int q.1)) (fun q => (wlX g ad x0 x1 x2 Tap_eventCount Tap_tellerCount q.2.1 q.2.2.1 q.2.2.2.1 q.2.2.2.2.1 q.2.2.2.2.2.1 q.2.2.2.2.2.2.1 x11 x12 x13 x14 x15 x16 x17 q.2.2.2.2.2.2.2.1 x19 x20 q.2.2.2.2.2.2.2.2 x22 x23 x24 x25 x26 x27 x28 x29 x30 x31 x32 x33 x34 x35 x36 x37 x38 x39 x40 x41 x42 x43 x44 x45 x46 x47 x48 x49 x50 x51 x52 x53 x54 x55 x56 x57 x58 x59 x60 x61 x62 x63 x64 x65 x66 x67 ++ t)) (wlX g ad x0 x1 x2 Tap_eventCount Tap_tellerCount Cl_count Cl_tellers Cl_kinds Cl_events Cl_firsts Cl_lasts x11 x12 x13 x14 x15 x16 x17 Ve_judged x19 x20 Ve_against x22 x23 x24 x25 x26 x27 x28 x29 x30 x31 x32 x33 x34 x35 x36 x37 x38 x39 x40 x41 x42 x43 x44 x45 x46 x47 x48 x49 x50 x51 x52 x53 x54 x55 x56 x57 x58 x59 x60 x61 x62 x63 x64 x65 x66 x67 ++ t)) := Ct.ofR (by decide +kernel) rfl (Nat.le_of_ble_eq_true rfl) (rt_Main_claimBefore h (fun q e => by subst e; exact ⟨rfl, rfl⟩) (fun E e => by subst e; exact ⟨rfl, rfl⟩))
set_option maxRecDepth 20000 in
set_option maxHeartbeats 4000000 in
theorem rt_Main_claimTogether {g : GG} {ad : Nat → Nat} {t : va_W} {x0 x1 x11 x12 x19 x20 x24 x25 x26 x27 x28 x29 x30 x31 x37 x39 x40 x41 x47 x48 x54 x56 x58 x59 x60 x61 x63 x64 x65 x66 : Int32} {x2 x13 x14 x15 x16 x17 x22 x23 x33 x34 x35 x42 x43 x44 x45 x46 x49 x50 x51 x52 x53 x62 x67 : Nat → Int32} {x32 : Int64} {x36 x38 x55 x57 : Nat → Int64} {N : Nat} {Tap_eventCount : Int32} {Tap_tellerCount : Int32} {Cl_count : Int32} {Cl_tellers : Nat → Int32} {Cl_kinds : Nat → Int32} {Cl_events : Nat → Int32} {Cl_firsts : Nat → Int32} {Cl_lasts : Nat → Int32} {Ve_judged : Int32} {Ve_against : Nat → Int32} {p1 : Int32} {p2 : Int32} {p3 : Int32} {o : (Int32 × Int32 × (Nat → Int32) × (Nat → Int32) × (Nat → Int32) × (Nat → Int32) × (Nat → Int32) × Int32 × (Nat → Int32)) ⊕ String} {Q : Rs → va_W → Prop} (h : f_Main_claimTogether N Tap_eventCount Tap_tellerCount Cl_count Cl_tellers Cl_kinds Cl_events Cl_firsts Cl_lasts Ve_judged Ve_against p1 p2 p3 = some o) (hq1 : ∀ q, o = .inl q → Q (.inl (some (.int q.1))) (wlX g ad x0 x1 x2 Tap_eventCount Tap_tellerCount q.2.1 q.2.2.1 q.2.2.2.1 q.2.2.2.2.1 q.2.2.2.2.2.1 q.2.2.2.2.2.2.1 x11 x12 x13 x14 x15 x16 x17 q.2.2.2.2.2.2.2.1 x19 x20 q.2.2.2.2.2.2.2.2 x22 x23 x24 x25 x26 x27 x28 x29 x30 x31 x32 x33 x34 x35 x36 x37 x38 x39 x40 x41 x42 x43 x44 x45 x46 x47 x48 x49 x50 x51 x52 x53 x54 x55 x56 x57 x58 x59 x60 x61 x62 x63 x64 x65 x66 x67 ++ t)) (hq2 : ∀ E, o = .inr E → Q (.inr E) (wlX g ad x0 x1 x2 Tap_eventCount Tap_tellerCount Cl_count Cl_tellers Cl_kinds Cl_events Cl_firsts Cl_lasts x11 x12 x13 x14 x15 x16 x17 Ve_judged x19 x20 Ve_against x22 x23 x24 x25 x26 x27 x28 x29 x30 x31 x32 x33 x34 x35 x36 x37 x38 x39 x40 x41 x42 x43 x44 x45 x46 x47 x48 x49 x50 x51 x52 x53 x54 x55 x56 x57 x58 x59 x60 x61 x62 x63 x64 x65 x66 x67 ++ t)) : R g mX9_claimTogether 8 5 30 0 [(0, .ref (ad 0)), (1, .int p1), (2, .int p2), (3, .int p3)] [] (wlX g ad x0 x1 x2 Tap_eventCount Tap_tellerCount Cl_count Cl_tellers Cl_kinds Cl_events Cl_firsts Cl_lasts x11 x12 x13 x14 x15 x16 x17 Ve_judged x19 x20 Ve_against x22 x23 x24 x25 x26 x27 x28 x29 x30 x31 x32 x33 x34 x35 x36 x37 x38 x39 x40 x41 x42 x43 x44 x45 x46 x47 x48 x49 x50 x51 x52 x53 x54 x55 x56 x57 x58 x59 x60 x61 x62 x63 x64 x65 x66 x67 ++ t) Q := by
  unfold f_Main_claimTogether at h
  refine r_aload_n 0 dX9_claimTogether_0 rfl ?_
  refine r_iload_n 1 dX9_claimTogether_1 rfl ?_
  obtain ⟨r1004, hc1005, h⟩ := ob (fun z9 => z9) rfl h
  rcases r1004 with q1006 | E1015
  · refine c_Xv (rest := []) 4 24 _ dX9_claimTogether_2 kv_X9_156 (ct_Main_needTeller hc1005) rfl rfl lX_0 rfl (Nat.le_of_ble_eq_true rfl) (by decide) (by decide) ?_
    try dsimp only [Sum.elim_inl, Sum.elim_inr] at h
    refine r_aload_n 0 dX9_claimTogether_5 rfl ?_
    refine r_iload_n 2 dX9_claimTogether_6 rfl ?_
    refine r_iload_n 3 dX9_claimTogether_7 rfl ?_
    obtain ⟨r1007, hc1008, h⟩ := ob (fun z9 => z9) rfl h
    rcases r1007 with q1009 | E1014
    · refine c_Xv (rest := []) 1 6 _ dX9_claimTogether_8 kv_X9_228 (ct_Main_needTwoEvents hc1008) rfl rfl lX_0 rfl (Nat.le_of_ble_eq_true rfl) (by decide) (by decide) ?_
      try dsimp only [Sum.elim_inl, Sum.elim_inr] at h
      refine r_aload_n 0 dX9_claimTogether_11 rfl ?_
      refine r_iload_n 1 dX9_claimTogether_12 rfl ?_
      refine r_iconst (v := (2 : Int32)) dX9_claimTogether_13 (by decide) ?_
      refine r_iload_n 2 dX9_claimTogether_14 rfl ?_
      refine r_iload_n 3 dX9_claimTogether_15 rfl ?_
      refine r_iconst (v := (0 : Int32)) dX9_claimTogether_16 (by decide) ?_
      obtain ⟨r1010, hc1011, h⟩ := ob (fun z9 => z9) rfl h
      rcases r1010 with q1012 | E1013
      · refine c_X (rest := []) 0 0 _ dX9_claimTogether_17 kv_X9_224 (ct_Main_claimByHand hc1011) rfl rfl lX_0 rfl (Nat.le_of_ble_eq_true rfl) (by decide) (by decide) ?_
        try dsimp only [Sum.elim_inl, Sum.elim_inr] at h
        refine r_iret dX9_claimTogether_20 rfl ?_
        have h := Option.some.inj (show some _ = some o from h)
        subst h
        exact hq1 _ rfl
      · refine c_Xt (rest := []) 0 0 _ dX9_claimTogether_17 kv_X9_224 (ct_Main_claimByHand hc1011) rfl rfl lX_0 rfl (Nat.le_of_ble_eq_true rfl) (by decide) (by decide) ?_
        refine rx_out rfl ?_
        have h := Option.some.inj (show some _ = some o from h)
        subst h
        exact hq2 _ rfl
    · refine c_Xt (rest := []) 1 6 _ dX9_claimTogether_8 kv_X9_228 (ct_Main_needTwoEvents hc1008) rfl rfl lX_0 rfl (Nat.le_of_ble_eq_true rfl) (by decide) (by decide) ?_
      refine rx_out rfl ?_
      have h := Option.some.inj (show some _ = some o from h)
      subst h
      exact hq2 _ rfl
  · refine c_Xt (rest := []) 4 24 _ dX9_claimTogether_2 kv_X9_156 (ct_Main_needTeller hc1005) rfl rfl lX_0 rfl (Nat.le_of_ble_eq_true rfl) (by decide) (by decide) ?_
    refine rx_out rfl ?_
    have h := Option.some.inj (show some _ = some o from h)
    subst h
    exact hq2 _ rfl
theorem ct_Main_claimTogether {g : GG} {ad : Nat → Nat} {t : va_W} {x0 x1 x11 x12 x19 x20 x24 x25 x26 x27 x28 x29 x30 x31 x37 x39 x40 x41 x47 x48 x54 x56 x58 x59 x60 x61 x63 x64 x65 x66 : Int32} {x2 x13 x14 x15 x16 x17 x22 x23 x33 x34 x35 x42 x43 x44 x45 x46 x49 x50 x51 x52 x53 x62 x67 : Nat → Int32} {x32 : Int64} {x36 x38 x55 x57 : Nat → Int64} {N : Nat} {Tap_eventCount : Int32} {Tap_tellerCount : Int32} {Cl_count : Int32} {Cl_tellers : Nat → Int32} {Cl_kinds : Nat → Int32} {Cl_events : Nat → Int32} {Cl_firsts : Nat → Int32} {Cl_lasts : Nat → Int32} {Ve_judged : Int32} {Ve_against : Nat → Int32} {p1 : Int32} {p2 : Int32} {p3 : Int32} {o : (Int32 × Int32 × (Nat → Int32) × (Nat → Int32) × (Nat → Int32) × (Nat → Int32) × (Nat → Int32) × Int32 × (Nat → Int32)) ⊕ String} (h : f_Main_claimTogether N Tap_eventCount Tap_tellerCount Cl_count Cl_tellers Cl_kinds Cl_events Cl_firsts Cl_lasts Ve_judged Ve_against p1 p2 p3 = some o) : Ct g mX9_claimTogether 8 5 30 [.ref (ad 0), .int p1, .int p2, .int p3] (wlX g ad x0 x1 x2 Tap_eventCount Tap_tellerCount Cl_count Cl_tellers Cl_kinds Cl_events Cl_firsts Cl_lasts x11 x12 x13 x14 x15 x16 x17 Ve_judged x19 x20 Ve_against x22 x23 x24 x25 x26 x27 x28 x29 x30 x31 x32 x33 x34 x35 x36 x37 x38 x39 x40 x41 x42 x43 x44 x45 x46 x47 x48 x49 x50 x51 x52 x53 x54 x55 x56 x57 x58 x59 x60 x61 x62 x63 x64 x65 x66 x67 ++ t) (Dt o (fun q => some (.int q.1)) (fun q => (wlX g ad x0 x1 x2 Tap_eventCount Tap_tellerCount q.2.1 q.2.2.1 q.2.2.2.1 q.2.2.2.2.1 q.2.2.2.2.2.1 q.2.2.2.2.2.2.1 x11 x12 x13 x14 x15 x16 x17 q.2.2.2.2.2.2.2.1 x19 x20 q.2.2.2.2.2.2.2.2 x22 x23 x24 x25 x26 x27 x28 x29 x30 x31 x32 x33 x34 x35 x36 x37 x38 x39 x40 x41 x42 x43 x44 x45 x46 x47 x48 x49 x50 x51 x52 x53 x54 x55 x56 x57 x58 x59 x60 x61 x62 x63 x64 x65 x66 x67 ++ t)) (wlX g ad x0 x1 x2 Tap_eventCount Tap_tellerCount Cl_count Cl_tellers Cl_kinds Cl_events Cl_firsts Cl_lasts x11 x12 x13 x14 x15 x16 x17 Ve_judged x19 x20 Ve_against x22 x23 x24 x25 x26 x27 x28 x29 x30 x31 x32 x33 x34 x35 x36 x37 x38 x39 x40 x41 x42 x43 x44 x45 x46 x47 x48 x49 x50 x51 x52 x53 x54 x55 x56 x57 x58 x59 x60 x61 x62 x63 x64 x65 x66 x67 ++ t)) := Ct.ofR (by decide +kernel) rfl (Nat.le_of_ble_eq_true rfl) (rt_Main_claimTogether h (fun q e => by subst e; exact ⟨rfl, rfl⟩) (fun E e => by subst e; exact ⟨rfl, rfl⟩))
set_option maxRecDepth 20000 in
set_option maxHeartbeats 4000000 in
theorem rt_Cl_remove {g : GG} {ad : Nat → Nat} {t : va_W} {x0 x1 x3 x4 x11 x12 x18 x19 x20 x24 x25 x26 x27 x28 x29 x30 x31 x37 x39 x40 x41 x47 x48 x54 x56 x58 x59 x60 x61 x63 x64 x65 x66 : Int32} {x2 x13 x14 x15 x16 x17 x21 x22 x23 x33 x34 x35 x42 x43 x44 x45 x46 x49 x50 x51 x52 x53 x62 x67 : Nat → Int32} {x32 : Int64} {x36 x38 x55 x57 : Nat → Int64} {N : Nat} {Cl_count : Int32} {Cl_tellers : Nat → Int32} {Cl_kinds : Nat → Int32} {Cl_events : Nat → Int32} {Cl_firsts : Nat → Int32} {Cl_lasts : Nat → Int32} {p1 : Int32} {o : Int32 × (Nat → Int32) × (Nat → Int32) × (Nat → Int32) × (Nat → Int32) × (Nat → Int32)} {Q : Rs → va_W → Prop} (h : f_Cl_remove N Cl_count Cl_tellers Cl_kinds Cl_events Cl_firsts Cl_lasts p1 = some o) (hq : Q (.inl (none)) (wlX g ad x0 x1 x2 x3 x4 o.1 o.2.1 o.2.2.1 o.2.2.2.1 o.2.2.2.2.1 o.2.2.2.2.2 x11 x12 x13 x14 x15 x16 x17 x18 x19 x20 x21 x22 x23 x24 x25 x26 x27 x28 x29 x30 x31 x32 x33 x34 x35 x36 x37 x38 x39 x40 x41 x42 x43 x44 x45 x46 x47 x48 x49 x50 x51 x52 x53 x54 x55 x56 x57 x58 x59 x60 x61 x62 x63 x64 x65 x66 x67 ++ t)) : R g mX0_remove 2 0 0 0 [(0, .ref (ad 4)), (1, .int p1)] [] (wlX g ad x0 x1 x2 x3 x4 Cl_count Cl_tellers Cl_kinds Cl_events Cl_firsts Cl_lasts x11 x12 x13 x14 x15 x16 x17 x18 x19 x20 x21 x22 x23 x24 x25 x26 x27 x28 x29 x30 x31 x32 x33 x34 x35 x36 x37 x38 x39 x40 x41 x42 x43 x44 x45 x46 x47 x48 x49 x50 x51 x52 x53 x54 x55 x56 x57 x58 x59 x60 x61 x62 x63 x64 x65 x66 x67 ++ t) Q := by
  unfold f_Cl_remove at h
  refine r_iload_n 1 dX0_remove_0 rfl ?_
  refine r_iconst (v := (1 : Int32)) dX0_remove_1 (by decide) ?_
  refine r_iadd dX0_remove_2 ?_
  refine r_istore_n [(2, .int (p1 + (1 : Int32))), (0, .ref (ad 4)), (1, .int p1)] dX0_remove_3 (by decide) rfl ?_
  refine r_ls [1, 0] (ls2 := [(0, .ref (ad 4)), (2, .int (p1 + (1 : Int32)))]) rfl ?_
  have L1 : ∀ (n1 : Nat) (l2_1 : Int32) (Cl_tellers_1 : Nat → Int32) (Cl_kinds_1 : Nat → Int32) (Cl_events_1 : Nat → Int32) (Cl_firsts_1 : Nat → Int32) (Cl_lasts_1 : Nat → Int32), (fun z9 => z9) (lpS (f_Cl_remove_L4 Cl_count) none n1 (l2_1, Cl_tellers_1, Cl_kinds_1, Cl_events_1, Cl_firsts_1, Cl_lasts_1)) = some o → R g mX0_remove 2 0 0 4 [(0, .ref (ad 4)), (2, .int l2_1)] [] (wlX g ad x0 x1 x2 x3 x4 Cl_count Cl_tellers_1 Cl_kinds_1 Cl_events_1 Cl_firsts_1 Cl_lasts_1 x11 x12 x13 x14 x15 x16 x17 x18 x19 x20 x21 x22 x23 x24 x25 x26 x27 x28 x29 x30 x31 x32 x33 x34 x35 x36 x37 x38 x39 x40 x41 x42 x43 x44 x45 x46 x47 x48 x49 x50 x51 x52 x53 x54 x55 x56 x57 x58 x59 x60 x61 x62 x63 x64 x65 x66 x67 ++ t) Q := by
    intro n1
    induction n1 with
    | zero => intro l2_1 Cl_tellers_1 Cl_kinds_1 Cl_events_1 Cl_firsts_1 Cl_lasts_1 h; exact nomatch (show (none : Option _) = some _ from h)
    | succ n1 ih1 =>
      intro l2_1 Cl_tellers_1 Cl_kinds_1 Cl_events_1 Cl_firsts_1 Cl_lasts_1 h
      have h : (fun z9 => (lC (f_Cl_remove_L4 Cl_count) none n1 z9)) (f_Cl_remove_L4 Cl_count (l2_1, Cl_tellers_1, Cl_kinds_1, Cl_events_1, Cl_firsts_1, Cl_lasts_1)) = some o := h
      unfold f_Cl_remove_L4 at h
      try dsimp only at h
      refine r_iload_n 1 dX0_remove_4 rfl ?_
      refine r_aload_n 0 dX0_remove_5 rfl ?_
      refine r_getf (v := .int Cl_count) _ dX0_remove_6 fl_X0_32 lX_4 rfl ?_
      refine r_icmp_ge (tgt := 108) dX0_remove_9 (by decide) (fun hc1016 => ?_) (fun hc1016 => ?_)
      · have h := ip (fun z9 => (lC (f_Cl_remove_L4 Cl_count) none n1 z9)) hc1016 h
        refine r_aload_n 0 dX0_remove_108 rfl ?_
        refine r_dup dX0_remove_109 rfl ?_
        refine r_getf (v := .int Cl_count) _ dX0_remove_110 fl_X0_32 lX_4 rfl ?_
        refine r_iconst (v := (1 : Int32)) dX0_remove_113 (by decide) ?_
        refine r_isub dX0_remove_114 ?_
        refine r_putf _ dX0_remove_115 fl_X0_32 lX_4 (Nat.le_of_ble_eq_true rfl) rfl rfl (sX_5 _) ?_
        refine r_vret dX0_remove_118 rfl ?_
        have h := Option.some.inj (show some _ = some o from h)
        subst h
        exact hq
      · have h := iq (fun z9 => (lC (f_Cl_remove_L4 Cl_count) none n1 z9)) hc1016 h
        refine r_aload_n 0 dX0_remove_12 rfl ?_
        refine r_getf (v := .ref (ad 5)) _ dX0_remove_13 fl_X0_14 lX_4 rfl ?_
        refine r_iload_n 1 dX0_remove_16 rfl ?_
        refine r_iconst (v := (1 : Int32)) dX0_remove_17 (by decide) ?_
        refine r_isub dX0_remove_18 ?_
        refine r_aload_n 0 dX0_remove_19 rfl ?_
        refine r_getf (v := .ref (ad 5)) _ dX0_remove_20 fl_X0_14 lX_4 rfl ?_
        refine r_iload_n 1 dX0_remove_23 rfl ?_
        refine c_V (rest := [.int (l2_1 - (1 : Int32)), .ref (ad 5)]) 0 0 _ dX0_remove_24 kv_X0_48 (ct_Row_get lX_5 lX_6 (Nat.le_of_ble_eq_true rfl)) rfl rfl lX_5 rfl (Nat.le_of_ble_eq_true rfl) (by decide) (by decide) ?_
        refine c_Vv (rest := []) 0 0 _ dX0_remove_27 kv_X0_44 (ct_Row_set lX_5 lX_6 (sX_6 _) (Nat.le_of_ble_eq_true rfl)) rfl rfl lX_5 rfl (Nat.le_of_ble_eq_true rfl) (by decide) (by decide) ?_
        refine r_aload_n 0 dX0_remove_30 rfl ?_
        refine r_getf (v := .ref (ad 7)) _ dX0_remove_31 fl_X0_20 lX_4 rfl ?_
        refine r_iload_n 1 dX0_remove_34 rfl ?_
        refine r_iconst (v := (1 : Int32)) dX0_remove_35 (by decide) ?_
        refine r_isub dX0_remove_36 ?_
        refine r_aload_n 0 dX0_remove_37 rfl ?_
        refine r_getf (v := .ref (ad 7)) _ dX0_remove_38 fl_X0_20 lX_4 rfl ?_
        refine r_iload_n 1 dX0_remove_41 rfl ?_
        refine c_V (rest := [.int (l2_1 - (1 : Int32)), .ref (ad 7)]) 0 0 _ dX0_remove_42 kv_X0_48 (ct_Row_get lX_7 lX_8 (Nat.le_of_ble_eq_true rfl)) rfl rfl lX_7 rfl (Nat.le_of_ble_eq_true rfl) (by decide) (by decide) ?_
        refine c_Vv (rest := []) 0 0 _ dX0_remove_45 kv_X0_44 (ct_Row_set lX_7 lX_8 (sX_7 _) (Nat.le_of_ble_eq_true rfl)) rfl rfl lX_7 rfl (Nat.le_of_ble_eq_true rfl) (by decide) (by decide) ?_
        refine r_aload_n 0 dX0_remove_48 rfl ?_
        refine r_getf (v := .ref (ad 9)) _ dX0_remove_49 fl_X0_23 lX_4 rfl ?_
        refine r_iload_n 1 dX0_remove_52 rfl ?_
        refine r_iconst (v := (1 : Int32)) dX0_remove_53 (by decide) ?_
        refine r_isub dX0_remove_54 ?_
        refine r_aload_n 0 dX0_remove_55 rfl ?_
        refine r_getf (v := .ref (ad 9)) _ dX0_remove_56 fl_X0_23 lX_4 rfl ?_
        refine r_iload_n 1 dX0_remove_59 rfl ?_
        refine c_V (rest := [.int (l2_1 - (1 : Int32)), .ref (ad 9)]) 0 0 _ dX0_remove_60 kv_X0_48 (ct_Row_get lX_9 lX_10 (Nat.le_of_ble_eq_true rfl)) rfl rfl lX_9 rfl (Nat.le_of_ble_eq_true rfl) (by decide) (by decide) ?_
        refine c_Vv (rest := []) 0 0 _ dX0_remove_63 kv_X0_44 (ct_Row_set lX_9 lX_10 (sX_8 _) (Nat.le_of_ble_eq_true rfl)) rfl rfl lX_9 rfl (Nat.le_of_ble_eq_true rfl) (by decide) (by decide) ?_
        refine r_aload_n 0 dX0_remove_66 rfl ?_
        refine r_getf (v := .ref (ad 11)) _ dX0_remove_67 fl_X0_26 lX_4 rfl ?_
        refine r_iload_n 1 dX0_remove_70 rfl ?_
        refine r_iconst (v := (1 : Int32)) dX0_remove_71 (by decide) ?_
        refine r_isub dX0_remove_72 ?_
        refine r_aload_n 0 dX0_remove_73 rfl ?_
        refine r_getf (v := .ref (ad 11)) _ dX0_remove_74 fl_X0_26 lX_4 rfl ?_
        refine r_iload_n 1 dX0_remove_77 rfl ?_
        refine c_V (rest := [.int (l2_1 - (1 : Int32)), .ref (ad 11)]) 0 0 _ dX0_remove_78 kv_X0_48 (ct_Row_get lX_11 lX_12 (Nat.le_of_ble_eq_true rfl)) rfl rfl lX_11 rfl (Nat.le_of_ble_eq_true rfl) (by decide) (by decide) ?_
        refine c_Vv (rest := []) 0 0 _ dX0_remove_81 kv_X0_44 (ct_Row_set lX_11 lX_12 (sX_9 _) (Nat.le_of_ble_eq_true rfl)) rfl rfl lX_11 rfl (Nat.le_of_ble_eq_true rfl) (by decide) (by decide) ?_
        refine r_aload_n 0 dX0_remove_84 rfl ?_
        refine r_getf (v := .ref (ad 13)) _ dX0_remove_85 fl_X0_29 lX_4 rfl ?_
        refine r_iload_n 1 dX0_remove_88 rfl ?_
        refine r_iconst (v := (1 : Int32)) dX0_remove_89 (by decide) ?_
        refine r_isub dX0_remove_90 ?_
        refine r_aload_n 0 dX0_remove_91 rfl ?_
        refine r_getf (v := .ref (ad 13)) _ dX0_remove_92 fl_X0_29 lX_4 rfl ?_
        refine r_iload_n 1 dX0_remove_95 rfl ?_
        refine c_V (rest := [.int (l2_1 - (1 : Int32)), .ref (ad 13)]) 0 0 _ dX0_remove_96 kv_X0_48 (ct_Row_get lX_13 lX_14 (Nat.le_of_ble_eq_true rfl)) rfl rfl lX_13 rfl (Nat.le_of_ble_eq_true rfl) (by decide) (by decide) ?_
        refine c_Vv (rest := []) 0 0 _ dX0_remove_99 kv_X0_44 (ct_Row_set lX_13 lX_14 (sX_10 _) (Nat.le_of_ble_eq_true rfl)) rfl rfl lX_13 rfl (Nat.le_of_ble_eq_true rfl) (by decide) (by decide) ?_
        refine r_iinc (v2 := (l2_1 + (1 : Int32))) 1 [(2, .int (l2_1 + (1 : Int32))), (0, .ref (ad 4))] dX0_remove_102 rfl rfl (by decide) rfl ?_
        refine r_goto (tgt := 4) dX0_remove_105 (by decide) ?_
        refine r_ls [1, 0] (ls2 := [(0, .ref (ad 4)), (2, .int (l2_1 + (1 : Int32)))]) rfl ?_
        exact ih1 (l2_1 + (1 : Int32)) (rset 40 Cl_tellers_1 (l2_1 - (1 : Int32)) (rget 40 Cl_tellers_1 l2_1)) (rset 40 Cl_kinds_1 (l2_1 - (1 : Int32)) (rget 40 Cl_kinds_1 l2_1)) (rset 40 Cl_events_1 (l2_1 - (1 : Int32)) (rget 40 Cl_events_1 l2_1)) (rset 40 Cl_firsts_1 (l2_1 - (1 : Int32)) (rget 40 Cl_firsts_1 l2_1)) (rset 40 Cl_lasts_1 (l2_1 - (1 : Int32)) (rget 40 Cl_lasts_1 l2_1)) h
  exact L1 _ (p1 + (1 : Int32)) Cl_tellers Cl_kinds Cl_events Cl_firsts Cl_lasts h
theorem ct_Cl_remove {g : GG} {ad : Nat → Nat} {t : va_W} {x0 x1 x3 x4 x11 x12 x18 x19 x20 x24 x25 x26 x27 x28 x29 x30 x31 x37 x39 x40 x41 x47 x48 x54 x56 x58 x59 x60 x61 x63 x64 x65 x66 : Int32} {x2 x13 x14 x15 x16 x17 x21 x22 x23 x33 x34 x35 x42 x43 x44 x45 x46 x49 x50 x51 x52 x53 x62 x67 : Nat → Int32} {x32 : Int64} {x36 x38 x55 x57 : Nat → Int64} {N : Nat} {Cl_count : Int32} {Cl_tellers : Nat → Int32} {Cl_kinds : Nat → Int32} {Cl_events : Nat → Int32} {Cl_firsts : Nat → Int32} {Cl_lasts : Nat → Int32} {p1 : Int32} {o : Int32 × (Nat → Int32) × (Nat → Int32) × (Nat → Int32) × (Nat → Int32) × (Nat → Int32)} (h : f_Cl_remove N Cl_count Cl_tellers Cl_kinds Cl_events Cl_firsts Cl_lasts p1 = some o) : Ct g mX0_remove 2 0 0 [.ref (ad 4), .int p1] (wlX g ad x0 x1 x2 x3 x4 Cl_count Cl_tellers Cl_kinds Cl_events Cl_firsts Cl_lasts x11 x12 x13 x14 x15 x16 x17 x18 x19 x20 x21 x22 x23 x24 x25 x26 x27 x28 x29 x30 x31 x32 x33 x34 x35 x36 x37 x38 x39 x40 x41 x42 x43 x44 x45 x46 x47 x48 x49 x50 x51 x52 x53 x54 x55 x56 x57 x58 x59 x60 x61 x62 x63 x64 x65 x66 x67 ++ t) (Dv (none) (wlX g ad x0 x1 x2 x3 x4 o.1 o.2.1 o.2.2.1 o.2.2.2.1 o.2.2.2.2.1 o.2.2.2.2.2 x11 x12 x13 x14 x15 x16 x17 x18 x19 x20 x21 x22 x23 x24 x25 x26 x27 x28 x29 x30 x31 x32 x33 x34 x35 x36 x37 x38 x39 x40 x41 x42 x43 x44 x45 x46 x47 x48 x49 x50 x51 x52 x53 x54 x55 x56 x57 x58 x59 x60 x61 x62 x63 x64 x65 x66 x67 ++ t)) := Ct.ofR (by decide +kernel) rfl (Nat.le_of_ble_eq_true rfl) (rt_Cl_remove h ⟨rfl, rfl⟩)
set_option maxRecDepth 20000 in
set_option maxHeartbeats 4000000 in
theorem rt_Main_takeBack {g : GG} {ad : Nat → Nat} {t : va_W} {x0 x1 x3 x4 x11 x12 x19 x20 x24 x25 x26 x27 x28 x29 x30 x31 x37 x39 x40 x41 x47 x48 x54 x56 x58 x59 x60 x61 x63 x64 x65 x66 : Int32} {x2 x13 x14 x15 x16 x17 x22 x23 x33 x34 x35 x42 x43 x44 x45 x46 x49 x50 x51 x52 x53 x62 x67 : Nat → Int32} {x32 : Int64} {x36 x38 x55 x57 : Nat → Int64} {N : Nat} {Cl_count : Int32} {Cl_tellers : Nat → Int32} {Cl_kinds : Nat → Int32} {Cl_events : Nat → Int32} {Cl_firsts : Nat → Int32} {Cl_lasts : Nat → Int32} {Ve_judged : Int32} {Ve_against : Nat → Int32} {p1 : Int32} {o : (Int32 × Int32 × (Nat → Int32) × (Nat → Int32) × (Nat → Int32) × (Nat → Int32) × (Nat → Int32) × Int32 × (Nat → Int32)) ⊕ String} {Q : Rs → va_W → Prop} (h : f_Main_takeBack N Cl_count Cl_tellers Cl_kinds Cl_events Cl_firsts Cl_lasts Ve_judged Ve_against p1 = some o) (hq1 : ∀ q, o = .inl q → Q (.inl (some (.int q.1))) (wlX g ad x0 x1 x2 x3 x4 q.2.1 q.2.2.1 q.2.2.2.1 q.2.2.2.2.1 q.2.2.2.2.2.1 q.2.2.2.2.2.2.1 x11 x12 x13 x14 x15 x16 x17 q.2.2.2.2.2.2.2.1 x19 x20 q.2.2.2.2.2.2.2.2 x22 x23 x24 x25 x26 x27 x28 x29 x30 x31 x32 x33 x34 x35 x36 x37 x38 x39 x40 x41 x42 x43 x44 x45 x46 x47 x48 x49 x50 x51 x52 x53 x54 x55 x56 x57 x58 x59 x60 x61 x62 x63 x64 x65 x66 x67 ++ t)) (hq2 : ∀ E, o = .inr E → Q (.inr E) (wlX g ad x0 x1 x2 x3 x4 Cl_count Cl_tellers Cl_kinds Cl_events Cl_firsts Cl_lasts x11 x12 x13 x14 x15 x16 x17 Ve_judged x19 x20 Ve_against x22 x23 x24 x25 x26 x27 x28 x29 x30 x31 x32 x33 x34 x35 x36 x37 x38 x39 x40 x41 x42 x43 x44 x45 x46 x47 x48 x49 x50 x51 x52 x53 x54 x55 x56 x57 x58 x59 x60 x61 x62 x63 x64 x65 x66 x67 ++ t)) : R g mX9_takeBack 7 1 6 0 [(0, .ref (ad 0)), (1, .int p1)] [] (wlX g ad x0 x1 x2 x3 x4 Cl_count Cl_tellers Cl_kinds Cl_events Cl_firsts Cl_lasts x11 x12 x13 x14 x15 x16 x17 Ve_judged x19 x20 Ve_against x22 x23 x24 x25 x26 x27 x28 x29 x30 x31 x32 x33 x34 x35 x36 x37 x38 x39 x40 x41 x42 x43 x44 x45 x46 x47 x48 x49 x50 x51 x52 x53 x54 x55 x56 x57 x58 x59 x60 x61 x62 x63 x64 x65 x66 x67 ++ t) Q := by
  unfold f_Main_takeBack at h
  refine r_aload_n 0 dX9_takeBack_0 rfl ?_
  refine r_iload_n 1 dX9_takeBack_1 rfl ?_
  obtain ⟨r1017, hc1018, h⟩ := ob (fun z9 => z9) rfl h
  rcases r1017 with q1019 | E1024
  · refine c_Xv (rest := []) 0 0 _ dX9_takeBack_2 kv_X9_119 (ct_Main_needClaim hc1018) rfl rfl lX_0 rfl (Nat.le_of_ble_eq_true rfl) (by decide) (by decide) ?_
    try dsimp only [Sum.elim_inl, Sum.elim_inr] at h
    refine r_aload_n 0 dX9_takeBack_5 rfl ?_
    refine r_getf (v := .ref (ad 3)) _ dX9_takeBack_6 fl_X9_35 lX_0 rfl ?_
    refine r_getf (v := .ref (ad 4)) _ dX9_takeBack_9 fl_X9_104 lX_3 rfl ?_
    refine r_getf (v := .ref (ad 5)) _ dX9_takeBack_12 fl_X9_122 lX_4 rfl ?_
    refine r_iload_n 1 dX9_takeBack_15 rfl ?_
    refine c_V (rest := []) 0 0 _ dX9_takeBack_16 kv_X9_125 (ct_Row_get lX_5 lX_6 (Nat.le_of_ble_eq_true rfl)) rfl rfl lX_5 rfl (Nat.le_of_ble_eq_true rfl) (by decide) (by decide) ?_
    refine r_istore_n [(2, .int (rget 40 Cl_tellers p1)), (0, .ref (ad 0)), (1, .int p1)] dX9_takeBack_19 (by decide) rfl ?_
    refine r_aload_n 1 dX9_takeBack_20 rfl ?_
    refine r_getf (v := .ref (ad 3)) _ dX9_takeBack_21 fl_X9_35 lX_0 rfl ?_
    refine r_getf (v := .ref (ad 4)) _ dX9_takeBack_24 fl_X9_104 lX_3 rfl ?_
    refine r_iload_n 2 dX9_takeBack_27 rfl ?_
    obtain ⟨r1020, hc1021, h⟩ := ob (fun z9 => z9) rfl h
    refine c_Vv (rest := []) 0 0 _ dX9_takeBack_28 kv_X9_231 (ct_Cl_remove hc1021) rfl rfl lX_4 rfl (Nat.le_of_ble_eq_true rfl) (by decide) (by decide) ?_
    refine r_aload_n 1 dX9_takeBack_31 rfl ?_
    refine r_getf (v := .ref (ad 26)) _ dX9_takeBack_32 fl_X9_39 lX_0 rfl ?_
    obtain ⟨r1022, hc1023, h⟩ := ob (fun z9 => z9) rfl h
    refine c_Vv (rest := []) 0 0 _ dX9_takeBack_35 kv_X9_92 (ct_Ve_hearClaims hc1023) rfl rfl lX_26 rfl (Nat.le_of_ble_eq_true rfl) (by decide) (by decide) ?_
    refine r_iload_n 0 dX9_takeBack_38 rfl ?_
    refine r_iret dX9_takeBack_39 rfl ?_
    have h := Option.some.inj (show some _ = some o from h)
    subst h
    exact hq1 _ rfl
  · refine c_Xt (rest := []) 0 0 _ dX9_takeBack_2 kv_X9_119 (ct_Main_needClaim hc1018) rfl rfl lX_0 rfl (Nat.le_of_ble_eq_true rfl) (by decide) (by decide) ?_
    refine rx_out rfl ?_
    have h := Option.some.inj (show some _ = some o from h)
    subst h
    exact hq2 _ rfl
theorem ct_Main_takeBack {g : GG} {ad : Nat → Nat} {t : va_W} {x0 x1 x3 x4 x11 x12 x19 x20 x24 x25 x26 x27 x28 x29 x30 x31 x37 x39 x40 x41 x47 x48 x54 x56 x58 x59 x60 x61 x63 x64 x65 x66 : Int32} {x2 x13 x14 x15 x16 x17 x22 x23 x33 x34 x35 x42 x43 x44 x45 x46 x49 x50 x51 x52 x53 x62 x67 : Nat → Int32} {x32 : Int64} {x36 x38 x55 x57 : Nat → Int64} {N : Nat} {Cl_count : Int32} {Cl_tellers : Nat → Int32} {Cl_kinds : Nat → Int32} {Cl_events : Nat → Int32} {Cl_firsts : Nat → Int32} {Cl_lasts : Nat → Int32} {Ve_judged : Int32} {Ve_against : Nat → Int32} {p1 : Int32} {o : (Int32 × Int32 × (Nat → Int32) × (Nat → Int32) × (Nat → Int32) × (Nat → Int32) × (Nat → Int32) × Int32 × (Nat → Int32)) ⊕ String} (h : f_Main_takeBack N Cl_count Cl_tellers Cl_kinds Cl_events Cl_firsts Cl_lasts Ve_judged Ve_against p1 = some o) : Ct g mX9_takeBack 7 1 6 [.ref (ad 0), .int p1] (wlX g ad x0 x1 x2 x3 x4 Cl_count Cl_tellers Cl_kinds Cl_events Cl_firsts Cl_lasts x11 x12 x13 x14 x15 x16 x17 Ve_judged x19 x20 Ve_against x22 x23 x24 x25 x26 x27 x28 x29 x30 x31 x32 x33 x34 x35 x36 x37 x38 x39 x40 x41 x42 x43 x44 x45 x46 x47 x48 x49 x50 x51 x52 x53 x54 x55 x56 x57 x58 x59 x60 x61 x62 x63 x64 x65 x66 x67 ++ t) (Dt o (fun q => some (.int q.1)) (fun q => (wlX g ad x0 x1 x2 x3 x4 q.2.1 q.2.2.1 q.2.2.2.1 q.2.2.2.2.1 q.2.2.2.2.2.1 q.2.2.2.2.2.2.1 x11 x12 x13 x14 x15 x16 x17 q.2.2.2.2.2.2.2.1 x19 x20 q.2.2.2.2.2.2.2.2 x22 x23 x24 x25 x26 x27 x28 x29 x30 x31 x32 x33 x34 x35 x36 x37 x38 x39 x40 x41 x42 x43 x44 x45 x46 x47 x48 x49 x50 x51 x52 x53 x54 x55 x56 x57 x58 x59 x60 x61 x62 x63 x64 x65 x66 x67 ++ t)) (wlX g ad x0 x1 x2 x3 x4 Cl_count Cl_tellers Cl_kinds Cl_events Cl_firsts Cl_lasts x11 x12 x13 x14 x15 x16 x17 Ve_judged x19 x20 Ve_against x22 x23 x24 x25 x26 x27 x28 x29 x30 x31 x32 x33 x34 x35 x36 x37 x38 x39 x40 x41 x42 x43 x44 x45 x46 x47 x48 x49 x50 x51 x52 x53 x54 x55 x56 x57 x58 x59 x60 x61 x62 x63 x64 x65 x66 x67 ++ t)) := Ct.ofR (by decide +kernel) rfl (Nat.le_of_ble_eq_true rfl) (rt_Main_takeBack h (fun q e => by subst e; exact ⟨rfl, rfl⟩) (fun E e => by subst e; exact ⟨rfl, rfl⟩))
set_option maxRecDepth 20000 in
set_option maxHeartbeats 4000000 in
theorem rt_Main_turnDoubt {g : GG} {ad : Nat → Nat} {t : va_W} {x0 x1 x3 x5 x11 x12 x18 x19 x20 x24 x25 x26 x27 x28 x29 x30 x31 x37 x39 x40 x41 x47 x48 x54 x56 x58 x60 x61 x63 x64 x65 x66 : Int32} {x2 x6 x7 x8 x9 x10 x13 x14 x15 x16 x17 x21 x22 x23 x33 x34 x35 x42 x43 x44 x45 x46 x49 x50 x51 x52 x53 x62 x67 : Nat → Int32} {x32 : Int64} {x36 x38 x55 x57 : Nat → Int64} {Tap_tellerCount : Int32} {Co_doubted : Int32} {p1 : Int32} {o : (Int32 × Int32) ⊕ String} {Q : Rs → va_W → Prop} (h : f_Main_turnDoubt Tap_tellerCount Co_doubted p1 = some o) (hq1 : ∀ q, o = .inl q → Q (.inl (some (.int q.1))) (wlX g ad x0 x1 x2 x3 Tap_tellerCount x5 x6 x7 x8 x9 x10 x11 x12 x13 x14 x15 x16 x17 x18 x19 x20 x21 x22 x23 x24 x25 x26 x27 x28 x29 x30 x31 x32 x33 x34 x35 x36 x37 x38 x39 x40 x41 x42 x43 x44 x45 x46 x47 x48 x49 x50 x51 x52 x53 x54 x55 x56 x57 x58 q.2 x60 x61 x62 x63 x64 x65 x66 x67 ++ t)) (hq2 : ∀ E, o = .inr E → Q (.inr E) (wlX g ad x0 x1 x2 x3 Tap_tellerCount x5 x6 x7 x8 x9 x10 x11 x12 x13 x14 x15 x16 x17 x18 x19 x20 x21 x22 x23 x24 x25 x26 x27 x28 x29 x30 x31 x32 x33 x34 x35 x36 x37 x38 x39 x40 x41 x42 x43 x44 x45 x46 x47 x48 x49 x50 x51 x52 x53 x54 x55 x56 x57 x58 Co_doubted x60 x61 x62 x63 x64 x65 x66 x67 ++ t)) : R g mX9_turnDoubt 7 1 6 0 [(0, .ref (ad 0)), (1, .int p1)] [] (wlX g ad x0 x1 x2 x3 Tap_tellerCount x5 x6 x7 x8 x9 x10 x11 x12 x13 x14 x15 x16 x17 x18 x19 x20 x21 x22 x23 x24 x25 x26 x27 x28 x29 x30 x31 x32 x33 x34 x35 x36 x37 x38 x39 x40 x41 x42 x43 x44 x45 x46 x47 x48 x49 x50 x51 x52 x53 x54 x55 x56 x57 x58 Co_doubted x60 x61 x62 x63 x64 x65 x66 x67 ++ t) Q := by
  unfold f_Main_turnDoubt at h
  refine r_aload_n 0 dX9_turnDoubt_0 rfl ?_
  refine r_iload_n 1 dX9_turnDoubt_1 rfl ?_
  obtain ⟨r1025, hc1026, h⟩ := ob (fun z9 => z9) rfl h
  rcases r1025 with q1027 | E1028
  · refine c_Xv (rest := []) 0 0 _ dX9_turnDoubt_2 kv_X9_156 (ct_Main_needTeller hc1026) rfl rfl lX_0 rfl (Nat.le_of_ble_eq_true rfl) (by decide) (by decide) ?_
    try dsimp only [Sum.elim_inl, Sum.elim_inr] at h
    refine r_aload_n 0 dX9_turnDoubt_5 rfl ?_
    refine r_getf (v := .ref (ad 71)) _ dX9_turnDoubt_6 fl_X9_48 lX_0 rfl ?_
    refine r_aload_n 0 dX9_turnDoubt_9 rfl ?_
    refine r_getf (v := .ref (ad 71)) _ dX9_turnDoubt_10 fl_X9_48 lX_0 rfl ?_
    refine r_getf (v := .int Co_doubted) _ dX9_turnDoubt_13 fl_X9_162 lX_71 rfl ?_
    refine r_iconst (v := (1 : Int32)) dX9_turnDoubt_16 (by decide) ?_
    refine r_iload_n 1 dX9_turnDoubt_17 rfl ?_
    refine r_ishl dX9_turnDoubt_18 ?_
    refine r_ixor dX9_turnDoubt_19 ?_
    refine r_putf _ dX9_turnDoubt_20 fl_X9_162 lX_71 (Nat.le_of_ble_eq_true rfl) rfl rfl (sX_59 _) ?_
    refine r_aload_n 0 dX9_turnDoubt_23 rfl ?_
    refine r_getf (v := .ref (ad 71)) _ dX9_turnDoubt_24 fl_X9_48 lX_0 rfl ?_
    refine r_getf (v := .int (Co_doubted ^^^ ((1 : Int32) <<< (p1 &&& 31)))) _ dX9_turnDoubt_27 fl_X9_162 lX_71 rfl ?_
    refine r_iload_n 1 dX9_turnDoubt_30 rfl ?_
    refine c_S (rest := []) 0 0 dX9_turnDoubt_31 ks_X9_165 (ct_Main_has rfl) rfl rfl (Nat.le_of_ble_eq_true rfl) (by decide) (by decide) ?_
    refine r_zret dX9_turnDoubt_34 rfl (zO_n (zb_Main_has _ _)) ?_
    have h := Option.some.inj (show some _ = some o from h)
    subst h
    exact hq1 _ rfl
  · refine c_Xt (rest := []) 0 0 _ dX9_turnDoubt_2 kv_X9_156 (ct_Main_needTeller hc1026) rfl rfl lX_0 rfl (Nat.le_of_ble_eq_true rfl) (by decide) (by decide) ?_
    refine rx_out rfl ?_
    have h := Option.some.inj (show some _ = some o from h)
    subst h
    exact hq2 _ rfl
theorem ct_Main_turnDoubt {g : GG} {ad : Nat → Nat} {t : va_W} {x0 x1 x3 x5 x11 x12 x18 x19 x20 x24 x25 x26 x27 x28 x29 x30 x31 x37 x39 x40 x41 x47 x48 x54 x56 x58 x60 x61 x63 x64 x65 x66 : Int32} {x2 x6 x7 x8 x9 x10 x13 x14 x15 x16 x17 x21 x22 x23 x33 x34 x35 x42 x43 x44 x45 x46 x49 x50 x51 x52 x53 x62 x67 : Nat → Int32} {x32 : Int64} {x36 x38 x55 x57 : Nat → Int64} {Tap_tellerCount : Int32} {Co_doubted : Int32} {p1 : Int32} {o : (Int32 × Int32) ⊕ String} (h : f_Main_turnDoubt Tap_tellerCount Co_doubted p1 = some o) : Ct g mX9_turnDoubt 7 1 6 [.ref (ad 0), .int p1] (wlX g ad x0 x1 x2 x3 Tap_tellerCount x5 x6 x7 x8 x9 x10 x11 x12 x13 x14 x15 x16 x17 x18 x19 x20 x21 x22 x23 x24 x25 x26 x27 x28 x29 x30 x31 x32 x33 x34 x35 x36 x37 x38 x39 x40 x41 x42 x43 x44 x45 x46 x47 x48 x49 x50 x51 x52 x53 x54 x55 x56 x57 x58 Co_doubted x60 x61 x62 x63 x64 x65 x66 x67 ++ t) (Dt o (fun q => some (.int q.1)) (fun q => (wlX g ad x0 x1 x2 x3 Tap_tellerCount x5 x6 x7 x8 x9 x10 x11 x12 x13 x14 x15 x16 x17 x18 x19 x20 x21 x22 x23 x24 x25 x26 x27 x28 x29 x30 x31 x32 x33 x34 x35 x36 x37 x38 x39 x40 x41 x42 x43 x44 x45 x46 x47 x48 x49 x50 x51 x52 x53 x54 x55 x56 x57 x58 q.2 x60 x61 x62 x63 x64 x65 x66 x67 ++ t)) (wlX g ad x0 x1 x2 x3 Tap_tellerCount x5 x6 x7 x8 x9 x10 x11 x12 x13 x14 x15 x16 x17 x18 x19 x20 x21 x22 x23 x24 x25 x26 x27 x28 x29 x30 x31 x32 x33 x34 x35 x36 x37 x38 x39 x40 x41 x42 x43 x44 x45 x46 x47 x48 x49 x50 x51 x52 x53 x54 x55 x56 x57 x58 Co_doubted x60 x61 x62 x63 x64 x65 x66 x67 ++ t)) := Ct.ofR (by decide +kernel) rfl (Nat.le_of_ble_eq_true rfl) (rt_Main_turnDoubt h (fun q e => by subst e; exact ⟨rfl, rfl⟩) (fun E e => by subst e; exact ⟨rfl, rfl⟩))
set_option maxRecDepth 20000 in
set_option maxHeartbeats 4000000 in
theorem rt_Main_needEvenings {g : GG} {ad : Nat → Nat} {t : va_W} {x0 x1 x3 x4 x5 x11 x12 x18 x19 x20 x24 x25 x26 x27 x28 x29 x30 x31 x37 x39 x40 x41 x47 x48 x54 x56 x58 x59 x60 x61 x63 x64 x65 x66 : Int32} {x2 x6 x7 x8 x9 x10 x13 x14 x15 x16 x17 x21 x22 x23 x33 x34 x35 x42 x43 x44 x45 x46 x49 x50 x51 x52 x53 x62 x67 : Nat → Int32} {x32 : Int64} {x36 x38 x55 x57 : Nat → Int64} {p1 : Int32} {o : (Unit) ⊕ String} {Q : Rs → va_W → Prop} (h : f_Main_needEvenings p1 = some o) (hq1 : ∀ q, o = .inl q → Q (.inl (none)) (wlX g ad x0 x1 x2 x3 x4 x5 x6 x7 x8 x9 x10 x11 x12 x13 x14 x15 x16 x17 x18 x19 x20 x21 x22 x23 x24 x25 x26 x27 x28 x29 x30 x31 x32 x33 x34 x35 x36 x37 x38 x39 x40 x41 x42 x43 x44 x45 x46 x47 x48 x49 x50 x51 x52 x53 x54 x55 x56 x57 x58 x59 x60 x61 x62 x63 x64 x65 x66 x67 ++ t)) (hq2 : ∀ E, o = .inr E → Q (.inr E) (wlX g ad x0 x1 x2 x3 x4 x5 x6 x7 x8 x9 x10 x11 x12 x13 x14 x15 x16 x17 x18 x19 x20 x21 x22 x23 x24 x25 x26 x27 x28 x29 x30 x31 x32 x33 x34 x35 x36 x37 x38 x39 x40 x41 x42 x43 x44 x45 x46 x47 x48 x49 x50 x51 x52 x53 x54 x55 x56 x57 x58 x59 x60 x61 x62 x63 x64 x65 x66 x67 ++ t)) : R g mX9_needEvenings 6 1 6 0 [(0, .ref (ad 0)), (1, .int p1)] [] (wlX g ad x0 x1 x2 x3 x4 x5 x6 x7 x8 x9 x10 x11 x12 x13 x14 x15 x16 x17 x18 x19 x20 x21 x22 x23 x24 x25 x26 x27 x28 x29 x30 x31 x32 x33 x34 x35 x36 x37 x38 x39 x40 x41 x42 x43 x44 x45 x46 x47 x48 x49 x50 x51 x52 x53 x54 x55 x56 x57 x58 x59 x60 x61 x62 x63 x64 x65 x66 x67 ++ t) Q := by
  unfold f_Main_needEvenings at h
  refine r_iload_n 1 dX9_needEvenings_0 rfl ?_
  refine r_iconst (v := (1 : Int32)) dX9_needEvenings_1 (by decide) ?_
  refine r_icmp_lt (tgt := 11) dX9_needEvenings_2 (by decide) (fun hc1029 => ?_) (fun hc1029 => ?_)
  · have h := ip (fun z9 => z9) hc1029 h
    refine r_throwW (x := 0) (y := 0) dX9_needEvenings_11 dX9_needEvenings_14 dX9_needEvenings_15 dX9_needEvenings_18 dX9_needEvenings_21 kx_X9_76_298_80 rfl (Nat.le_of_ble_eq_true rfl) (by decide) ?_
    have h := Option.some.inj (show some _ = some o from h)
    subst h
    exact hq2 _ rfl
  · have h := iq (fun z9 => z9) hc1029 h
    refine r_iload_n 1 dX9_needEvenings_5 rfl ?_
    refine r_bipush (v := (30 : Int32)) dX9_needEvenings_6 (by decide) ?_
    refine r_icmp_le (tgt := 22) dX9_needEvenings_8 (by decide) (fun hc1030 => ?_) (fun hc1030 => ?_)
    · have h := ip (fun z9 => z9) hc1030 h
      refine r_vret dX9_needEvenings_22 rfl ?_
      have h := Option.some.inj (show some _ = some o from h)
      subst h
      exact hq1 _ rfl
    · have h := iq (fun z9 => z9) hc1030 h
      refine r_throwW (x := 0) (y := 0) dX9_needEvenings_11 dX9_needEvenings_14 dX9_needEvenings_15 dX9_needEvenings_18 dX9_needEvenings_21 kx_X9_76_298_80 rfl (Nat.le_of_ble_eq_true rfl) (by decide) ?_
      have h := Option.some.inj (show some _ = some o from h)
      subst h
      exact hq2 _ rfl
theorem ct_Main_needEvenings {g : GG} {ad : Nat → Nat} {t : va_W} {x0 x1 x3 x4 x5 x11 x12 x18 x19 x20 x24 x25 x26 x27 x28 x29 x30 x31 x37 x39 x40 x41 x47 x48 x54 x56 x58 x59 x60 x61 x63 x64 x65 x66 : Int32} {x2 x6 x7 x8 x9 x10 x13 x14 x15 x16 x17 x21 x22 x23 x33 x34 x35 x42 x43 x44 x45 x46 x49 x50 x51 x52 x53 x62 x67 : Nat → Int32} {x32 : Int64} {x36 x38 x55 x57 : Nat → Int64} {p1 : Int32} {o : (Unit) ⊕ String} (h : f_Main_needEvenings p1 = some o) : Ct g mX9_needEvenings 6 1 6 [.ref (ad 0), .int p1] (wlX g ad x0 x1 x2 x3 x4 x5 x6 x7 x8 x9 x10 x11 x12 x13 x14 x15 x16 x17 x18 x19 x20 x21 x22 x23 x24 x25 x26 x27 x28 x29 x30 x31 x32 x33 x34 x35 x36 x37 x38 x39 x40 x41 x42 x43 x44 x45 x46 x47 x48 x49 x50 x51 x52 x53 x54 x55 x56 x57 x58 x59 x60 x61 x62 x63 x64 x65 x66 x67 ++ t) (Dt o (fun q => none) (fun q => (wlX g ad x0 x1 x2 x3 x4 x5 x6 x7 x8 x9 x10 x11 x12 x13 x14 x15 x16 x17 x18 x19 x20 x21 x22 x23 x24 x25 x26 x27 x28 x29 x30 x31 x32 x33 x34 x35 x36 x37 x38 x39 x40 x41 x42 x43 x44 x45 x46 x47 x48 x49 x50 x51 x52 x53 x54 x55 x56 x57 x58 x59 x60 x61 x62 x63 x64 x65 x66 x67 ++ t)) (wlX g ad x0 x1 x2 x3 x4 x5 x6 x7 x8 x9 x10 x11 x12 x13 x14 x15 x16 x17 x18 x19 x20 x21 x22 x23 x24 x25 x26 x27 x28 x29 x30 x31 x32 x33 x34 x35 x36 x37 x38 x39 x40 x41 x42 x43 x44 x45 x46 x47 x48 x49 x50 x51 x52 x53 x54 x55 x56 x57 x58 x59 x60 x61 x62 x63 x64 x65 x66 x67 ++ t)) := Ct.ofR (by decide +kernel) rfl (Nat.le_of_ble_eq_true rfl) (rt_Main_needEvenings h (fun q e => by subst e; exact ⟨rfl, rfl⟩) (fun E e => by subst e; exact ⟨rfl, rfl⟩))
set_option maxRecDepth 20000 in
set_option maxHeartbeats 4000000 in
theorem rt_Or_startOf {g : GG} {ad : Nat → Nat} {t : va_W} {x0 x1 x3 x4 x5 x11 x12 x18 x19 x20 x24 x25 x26 x27 x28 x29 x30 x31 x37 x39 x40 x41 x47 x48 x54 x56 x58 x59 x60 x61 x63 x64 x65 x66 : Int32} {x2 x6 x7 x8 x9 x10 x13 x14 x16 x17 x21 x22 x23 x33 x34 x35 x42 x43 x44 x45 x46 x49 x50 x51 x52 x53 x62 x67 : Nat → Int32} {x32 : Int64} {x36 x38 x55 x57 : Nat → Int64} {Or_ends : Nat → Int32} {p1 : Int32} {o : Int32} {Q : Rs → va_W → Prop} (h : f_Or_startOf Or_ends p1 = o) (hq : Q (.inl (some (.int o))) (wlX g ad x0 x1 x2 x3 x4 x5 x6 x7 x8 x9 x10 x11 x12 x13 x14 Or_ends x16 x17 x18 x19 x20 x21 x22 x23 x24 x25 x26 x27 x28 x29 x30 x31 x32 x33 x34 x35 x36 x37 x38 x39 x40 x41 x42 x43 x44 x45 x46 x47 x48 x49 x50 x51 x52 x53 x54 x55 x56 x57 x58 x59 x60 x61 x62 x63 x64 x65 x66 x67 ++ t)) : R g mX3_startOf 2 0 0 0 [(0, .ref (ad 15)), (1, .int p1)] [] (wlX g ad x0 x1 x2 x3 x4 x5 x6 x7 x8 x9 x10 x11 x12 x13 x14 Or_ends x16 x17 x18 x19 x20 x21 x22 x23 x24 x25 x26 x27 x28 x29 x30 x31 x32 x33 x34 x35 x36 x37 x38 x39 x40 x41 x42 x43 x44 x45 x46 x47 x48 x49 x50 x51 x52 x53 x54 x55 x56 x57 x58 x59 x60 x61 x62 x63 x64 x65 x66 x67 ++ t) Q := by
  unfold f_Or_startOf at h
  refine r_iload_n 1 dX3_startOf_0 rfl ?_
  refine r_if_le (tgt := 17) dX3_startOf_1 (by decide) (fun hc1031 => ?_) (fun hc1031 => ?_)
  · have h := ip (fun z9 => z9) hc1031 h
    refine r_iconst (v := (0 : Int32)) dX3_startOf_17 (by decide) ?_
    refine r_iret dX3_startOf_18 rfl ?_
    have h : _ = o := h
    subst h
    exact hq
  · have h := iq (fun z9 => z9) hc1031 h
    refine r_aload_n 0 dX3_startOf_4 rfl ?_
    refine r_getf (v := .ref (ad 20)) _ dX3_startOf_5 fl_X3_23 lX_15 rfl ?_
    refine r_iload_n 1 dX3_startOf_8 rfl ?_
    refine r_iconst (v := (1 : Int32)) dX3_startOf_9 (by decide) ?_
    refine r_isub dX3_startOf_10 ?_
    refine c_V (rest := []) 0 0 _ dX3_startOf_11 kv_X3_55 (ct_Row_get lX_20 lX_21 (Nat.le_of_ble_eq_true rfl)) rfl rfl lX_20 rfl (Nat.le_of_ble_eq_true rfl) (by decide) (by decide) ?_
    refine r_goto (tgt := 18) dX3_startOf_14 (by decide) ?_
    refine r_iret dX3_startOf_18 rfl ?_
    have h : _ = o := h
    subst h
    exact hq
theorem ct_Or_startOf {g : GG} {ad : Nat → Nat} {t : va_W} {x0 x1 x3 x4 x5 x11 x12 x18 x19 x20 x24 x25 x26 x27 x28 x29 x30 x31 x37 x39 x40 x41 x47 x48 x54 x56 x58 x59 x60 x61 x63 x64 x65 x66 : Int32} {x2 x6 x7 x8 x9 x10 x13 x14 x16 x17 x21 x22 x23 x33 x34 x35 x42 x43 x44 x45 x46 x49 x50 x51 x52 x53 x62 x67 : Nat → Int32} {x32 : Int64} {x36 x38 x55 x57 : Nat → Int64} {Or_ends : Nat → Int32} {p1 : Int32} {o : Int32} (h : f_Or_startOf Or_ends p1 = o) : Ct g mX3_startOf 2 0 0 [.ref (ad 15), .int p1] (wlX g ad x0 x1 x2 x3 x4 x5 x6 x7 x8 x9 x10 x11 x12 x13 x14 Or_ends x16 x17 x18 x19 x20 x21 x22 x23 x24 x25 x26 x27 x28 x29 x30 x31 x32 x33 x34 x35 x36 x37 x38 x39 x40 x41 x42 x43 x44 x45 x46 x47 x48 x49 x50 x51 x52 x53 x54 x55 x56 x57 x58 x59 x60 x61 x62 x63 x64 x65 x66 x67 ++ t) (Dv (some (.int o)) (wlX g ad x0 x1 x2 x3 x4 x5 x6 x7 x8 x9 x10 x11 x12 x13 x14 Or_ends x16 x17 x18 x19 x20 x21 x22 x23 x24 x25 x26 x27 x28 x29 x30 x31 x32 x33 x34 x35 x36 x37 x38 x39 x40 x41 x42 x43 x44 x45 x46 x47 x48 x49 x50 x51 x52 x53 x54 x55 x56 x57 x58 x59 x60 x61 x62 x63 x64 x65 x66 x67 ++ t)) := Ct.ofR (by decide +kernel) rfl (Nat.le_of_ble_eq_true rfl) (rt_Or_startOf h ⟨rfl, rfl⟩)
