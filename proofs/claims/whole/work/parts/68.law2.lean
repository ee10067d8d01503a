/-! the law's cases -/
set_option maxRecDepth 20000 in
set_option maxHeartbeats 4000000 in
theorem law_10 {nm : String} {g : GG} {ad ao am ap : Nat → Nat} {x0 x1 : Int32} {x2 : Nat → Int32} {x3 x4 x5 : Int32} {x6 x7 x8 x9 x10 : Nat → Int32} {x11 x12 : Int32} {x13 x14 x15 x16 x17 : Nat → Int32} {x18 x19 x20 : Int32} {x21 x22 x23 : Nat → Int32} {x24 x25 x26 x27 x28 x29 x30 x31 : Int32} {x32 : Int64} {x33 x34 x35 : Nat → Int32} {x36 : Nat → Int64} {x37 : Int32} {x38 : Nat → Int64} {x39 x40 x41 : Int32} {x42 x43 x44 x45 x46 : Nat → Int32} {x47 x48 : Int32} {x49 x50 x51 x52 x53 : Nat → Int32} {x54 : Int32} {x55 : Nat → Int64} {x56 : Int32} {x57 : Nat → Int64} {x58 x59 x60 x61 : Int32} {x62 : Nat → Int32} {x63 x64 x65 x66 : Int32} {x67 : Nat → Int32} {m0 m1 m2 m3 m4 m5 m6 m7 m8 m9 m10 m11 m12 : Int32} {m13 m14 m15 m16 : Nat → Int32} {m17 : Nat → Int64} {m18 m19 m20 m21 : Nat → Int32} {u0 u1 u2 u3 u4 : Int32} {u5 u6 : Nat → Int64} {u7 u8 u9 u10 u11 u12 u13 u14 u15 u16 u17 u18 : Nat → Int32} {out : Nat → Int64} {t : va_W} {Q : Rs → va_W → Prop} {n : Nat} {i : Int32} (Rl : Rel x0 x1 x2 x3 x4 x5 x6 x7 x8 x9 x10 x11 x13 x14 x15 x16 x17 x18 x19 x20 x21 x37 x38 x59 x60 x61 m1 m2 m6 m7 m8 m9 m10 m11 m12 m13 m19 u0 u1 u2 u3 u7 u8 u9 u10 u11 u12 u13 u14 u15 u16 u17 u18) (h1 : ib (i + (1 : Int32)) (gL g) = true) (K : GoK nm g ad ao am Q (15 * n) (2701 * n) i) : R g (mL_law nm) 1400 (15 * (n + 1)) (2701 * (n + 1)) 523 [(0, .ref (gb g)), (1, .ref (ad 0)), (2, .ref (am 0)), (3, .ref (ao 0)), (4, .int i)] [] (wlX g ad x0 x1 x2 x3 x4 x5 x6 x7 x8 x9 x10 x11 x12 x13 x14 x15 x16 x17 x18 x19 x20 x21 x22 x23 x24 x25 x26 x27 x28 x29 x30 x31 x32 x33 x34 x35 x36 x37 x38 x39 x40 x41 x42 x43 x44 x45 x46 x47 x48 x49 x50 x51 x52 x53 x54 x55 x56 x57 x58 x59 x60 x61 x62 x63 x64 x65 x66 x67 ++ (wlO g ao out ++ (wlM g am (ap 0) m0 m1 m2 m3 m4 m5 m6 m7 m8 m9 m10 m11 m12 m13 m14 m15 m16 m17 m18 m19 m20 m21 ++ (wlP g ap u0 u1 u2 u3 u4 u5 u6 u7 u8 u9 u10 u11 u12 u13 u14 u15 u16 u17 u18 ++ t)))) Q := by
  obtain ⟨o, b, hX, hM, hag, hrel⟩ := cs_kindOf  Rl out (gx g (i + (1 : Int32)).toNatClampNeg)
  refine r_less (x := (15 * n + 0) + 1) (y := (2701 * n + 0) + 6) (by omega) (by omega) ?_
  refine r_aload_n 1 dL_law_523 rfl ?_
  refine r_aload_n 0 dL_law_524 rfl ?_
  refine r_iload 4 dL_law_525 rfl ?_
  refine r_iconst (v := (1 : Int32)) dL_law_527 (by decide) ?_
  refine r_iadd dL_law_528 ?_
  refine r_sld dL_law_529 h1 ?_
  refine r_aload_n 3 dL_law_530 rfl ?_
  refine c_LW (rest := []) (15 * n + 0) (2701 * n + 0) dL_law_531 kt_L_146 (ct_L_kindOf hX) rfl rfl (Nat.le_of_ble_eq_true rfl) (by decide) (by decide) ?_
  refine r_istore [(5, .int o.1), (0, .ref (gb g)), (1, .ref (ad 0)), (2, .ref (am 0)), (3, .ref (ao 0)), (4, .int i)] dL_law_534 (Nat.le_of_ble_eq_true rfl) rfl ?_
  refine r_aload_n 3 dL_law_536 rfl ?_
  refine r_aload_n 1 dL_law_537 rfl ?_
  refine r_iload 5 dL_law_538 rfl ?_
  refine r_iconst (v := (1 : Int32)) dL_law_540 (by decide) ?_
  refine r_iadd dL_law_541 ?_
  refine r_sld dL_law_542 h1 ?_
  refine r_perm (pmF _ _ _ _ _) ?_
  refine c_V (rest := []) (15 * n) (2701 * n) _ dL_law_543 kv_L_148 (ct_M_kindOf1 hM) rfl rfl lM_0 rfl (Nat.le_of_ble_eq_true rfl) (by decide) (by decide) ?_
  refine r_istore [(6, .int b.1), (5, .int o.1), (0, .ref (gb g)), (1, .ref (ad 0)), (2, .ref (am 0)), (3, .ref (ao 0)), (4, .int i)] dL_law_546 (Nat.le_of_ble_eq_true rfl) rfl ?_
  refine r_aload_n 4 dL_law_548 rfl ?_
  refine c_V (rest := []) (15 * n) (2701 * n) _ dL_law_549 kv_L_107 (ct_M_thrown rfl) rfl rfl lM_0 rfl (Nat.le_of_ble_eq_true rfl) (by decide) (by decide) ?_
  refine r_perm (pmF _ _ _ _ _) ?_
  refine r_iload 1 dL_law_552 rfl ?_
  refine r_icmp_eq (tgt := 559) dL_law_554 (by decide) (fun _ => ?_) (fun hc => absurd hag.1 hc)
  refine r_iload 1 dL_law_559 rfl ?_
  refine r_if_ne (tgt := 576) dL_law_561 (by decide) (fun hk => ?_) (fun hk => ?_)
  · refine r_goto (tgt := 2050) dL_law_576 (by decide) ?_
    refine r_ls [2, 3, 4, 5, 6] (ls2 := [(0, .ref (gb g)), (1, .ref (ad 0)), (2, .ref (am 0)), (3, .ref (ao 0)), (4, .int i)]) rfl ?_
    exact K hrel
  · refine r_aload_n 5 dL_law_564 rfl ?_
    refine r_iconst (v := (0 : Int32)) dL_law_565 (by decide) ?_
    refine r_lald _ dL_law_566 lO_0 (by decide) ?_
    refine r_iload 0 dL_law_567 rfl ?_
    refine r_i2l dL_law_569 ?_
    refine r_lcmp dL_law_570 ?_
    refine r_if_eq (tgt := 576) dL_law_571 (by decide) (fun _ => ?_) (fun hc => absurd ((lg_cmp_0 _ _).mpr (hag.2 hk)) hc)
    refine r_goto (tgt := 2050) dL_law_576 (by decide) ?_
    refine r_ls [2, 3, 4, 5, 6] (ls2 := [(0, .ref (gb g)), (1, .ref (ad 0)), (2, .ref (am 0)), (3, .ref (ao 0)), (4, .int i)]) rfl ?_
    exact K hrel
set_option maxRecDepth 20000 in
set_option maxHeartbeats 4000000 in
theorem law_11 {nm : String} {g : GG} {ad ao am ap : Nat → Nat} {x0 x1 : Int32} {x2 : Nat → Int32} {x3 x4 x5 : Int32} {x6 x7 x8 x9 x10 : Nat → Int32} {x11 x12 : Int32} {x13 x14 x15 x16 x17 : Nat → Int32} {x18 x19 x20 : Int32} {x21 x22 x23 : Nat → Int32} {x24 x25 x26 x27 x28 x29 x30 x31 : Int32} {x32 : Int64} {x33 x34 x35 : Nat → Int32} {x36 : Nat → Int64} {x37 : Int32} {x38 : Nat → Int64} {x39 x40 x41 : Int32} {x42 x43 x44 x45 x46 : Nat → Int32} {x47 x48 : Int32} {x49 x50 x51 x52 x53 : Nat → Int32} {x54 : Int32} {x55 : Nat → Int64} {x56 : Int32} {x57 : Nat → Int64} {x58 x59 x60 x61 : Int32} {x62 : Nat → Int32} {x63 x64 x65 x66 : Int32} {x67 : Nat → Int32} {m0 m1 m2 m3 m4 m5 m6 m7 m8 m9 m10 m11 m12 : Int32} {m13 m14 m15 m16 : Nat → Int32} {m17 : Nat → Int64} {m18 m19 m20 m21 : Nat → Int32} {u0 u1 u2 u3 u4 : Int32} {u5 u6 : Nat → Int64} {u7 u8 u9 u10 u11 u12 u13 u14 u15 u16 u17 u18 : Nat → Int32} {out : Nat → Int64} {t : va_W} {Q : Rs → va_W → Prop} {n : Nat} {i : Int32} (Rl : Rel x0 x1 x2 x3 x4 x5 x6 x7 x8 x9 x10 x11 x13 x14 x15 x16 x17 x18 x19 x20 x21 x37 x38 x59 x60 x61 m1 m2 m6 m7 m8 m9 m10 m11 m12 m13 m19 u0 u1 u2 u3 u7 u8 u9 u10 u11 u12 u13 u14 u15 u16 u17 u18) (h1 : ib (i + (1 : Int32)) (gL g) = true) (K : GoK nm g ad ao am Q (15 * n) (2701 * n) i) : R g (mL_law nm) 1400 (15 * (n + 1)) (2701 * (n + 1)) 579 [(0, .ref (gb g)), (1, .ref (ad 0)), (2, .ref (am 0)), (3, .ref (ao 0)), (4, .int i)] [] (wlX g ad x0 x1 x2 x3 x4 x5 x6 x7 x8 x9 x10 x11 x12 x13 x14 x15 x16 x17 x18 x19 x20 x21 x22 x23 x24 x25 x26 x27 x28 x29 x30 x31 x32 x33 x34 x35 x36 x37 x38 x39 x40 x41 x42 x43 x44 x45 x46 x47 x48 x49 x50 x51 x52 x53 x54 x55 x56 x57 x58 x59 x60 x61 x62 x63 x64 x65 x66 x67 ++ (wlO g ao out ++ (wlM g am (ap 0) m0 m1 m2 m3 m4 m5 m6 m7 m8 m9 m10 m11 m12 m13 m14 m15 m16 m17 m18 m19 m20 m21 ++ (wlP g ap u0 u1 u2 u3 u4 u5 u6 u7 u8 u9 u10 u11 u12 u13 u14 u15 u16 u17 u18 ++ t)))) Q := by
  obtain ⟨o, b, hX, hM, hag, hrel⟩ := cs_eventOf  Rl out (gx g (i + (1 : Int32)).toNatClampNeg)
  refine r_less (x := (15 * n + 0) + 1) (y := (2701 * n + 0) + 6) (by omega) (by omega) ?_
  refine r_aload_n 1 dL_law_579 rfl ?_
  refine r_aload_n 0 dL_law_580 rfl ?_
  refine r_iload 4 dL_law_581 rfl ?_
  refine r_iconst (v := (1 : Int32)) dL_law_583 (by decide) ?_
  refine r_iadd dL_law_584 ?_
  refine r_sld dL_law_585 h1 ?_
  refine r_aload_n 3 dL_law_586 rfl ?_
  refine c_LW (rest := []) (15 * n + 0) (2701 * n + 0) dL_law_587 kt_L_149 (ct_L_eventOf hX) rfl rfl (Nat.le_of_ble_eq_true rfl) (by decide) (by decide) ?_
  refine r_istore [(5, .int o.1), (0, .ref (gb g)), (1, .ref (ad 0)), (2, .ref (am 0)), (3, .ref (ao 0)), (4, .int i)] dL_law_590 (Nat.le_of_ble_eq_true rfl) rfl ?_
  refine r_aload_n 3 dL_law_592 rfl ?_
  refine r_aload_n 1 dL_law_593 rfl ?_
  refine r_iload 5 dL_law_594 rfl ?_
  refine r_iconst (v := (1 : Int32)) dL_law_596 (by decide) ?_
  refine r_iadd dL_law_597 ?_
  refine r_sld dL_law_598 h1 ?_
  refine r_perm (pmF _ _ _ _ _) ?_
  refine c_V (rest := []) (15 * n) (2701 * n) _ dL_law_599 kv_L_151 (ct_M_eventOf hM) rfl rfl lM_0 rfl (Nat.le_of_ble_eq_true rfl) (by decide) (by decide) ?_
  refine r_istore [(6, .int b.1), (5, .int o.1), (0, .ref (gb g)), (1, .ref (ad 0)), (2, .ref (am 0)), (3, .ref (ao 0)), (4, .int i)] dL_law_602 (Nat.le_of_ble_eq_true rfl) rfl ?_
  refine r_aload_n 4 dL_law_604 rfl ?_
  refine c_V (rest := []) (15 * n) (2701 * n) _ dL_law_605 kv_L_107 (ct_M_thrown rfl) rfl rfl lM_0 rfl (Nat.le_of_ble_eq_true rfl) (by decide) (by decide) ?_
  refine r_perm (pmF _ _ _ _ _) ?_
  refine r_iload 1 dL_law_608 rfl ?_
  refine r_icmp_eq (tgt := 615) dL_law_610 (by decide) (fun _ => ?_) (fun hc => absurd hag.1 hc)
  refine r_iload 1 dL_law_615 rfl ?_
  refine r_if_ne (tgt := 632) dL_law_617 (by decide) (fun hk => ?_) (fun hk => ?_)
  · refine r_goto (tgt := 2050) dL_law_632 (by decide) ?_
    refine r_ls [2, 3, 4, 5, 6] (ls2 := [(0, .ref (gb g)), (1, .ref (ad 0)), (2, .ref (am 0)), (3, .ref (ao 0)), (4, .int i)]) rfl ?_
    exact K hrel
  · refine r_aload_n 5 dL_law_620 rfl ?_
    refine r_iconst (v := (0 : Int32)) dL_law_621 (by decide) ?_
    refine r_lald _ dL_law_622 lO_0 (by decide) ?_
    refine r_iload 0 dL_law_623 rfl ?_
    refine r_i2l dL_law_625 ?_
    refine r_lcmp dL_law_626 ?_
    refine r_if_eq (tgt := 632) dL_law_627 (by decide) (fun _ => ?_) (fun hc => absurd ((lg_cmp_0 _ _).mpr (hag.2 hk)) hc)
    refine r_goto (tgt := 2050) dL_law_632 (by decide) ?_
    refine r_ls [2, 3, 4, 5, 6] (ls2 := [(0, .ref (gb g)), (1, .ref (ad 0)), (2, .ref (am 0)), (3, .ref (ao 0)), (4, .int i)]) rfl ?_
    exact K hrel
set_option maxRecDepth 20000 in
set_option maxHeartbeats 4000000 in
theorem law_12 {nm : String} {g : GG} {ad ao am ap : Nat → Nat} {x0 x1 : Int32} {x2 : Nat → Int32} {x3 x4 x5 : Int32} {x6 x7 x8 x9 x10 : Nat → Int32} {x11 x12 : Int32} {x13 x14 x15 x16 x17 : Nat → Int32} {x18 x19 x20 : Int32} {x21 x22 x23 : Nat → Int32} {x24 x25 x26 x27 x28 x29 x30 x31 : Int32} {x32 : Int64} {x33 x34 x35 : Nat → Int32} {x36 : Nat → Int64} {x37 : Int32} {x38 : Nat → Int64} {x39 x40 x41 : Int32} {x42 x43 x44 x45 x46 : Nat → Int32} {x47 x48 : Int32} {x49 x50 x51 x52 x53 : Nat → Int32} {x54 : Int32} {x55 : Nat → Int64} {x56 : Int32} {x57 : Nat → Int64} {x58 x59 x60 x61 : Int32} {x62 : Nat → Int32} {x63 x64 x65 x66 : Int32} {x67 : Nat → Int32} {m0 m1 m2 m3 m4 m5 m6 m7 m8 m9 m10 m11 m12 : Int32} {m13 m14 m15 m16 : Nat → Int32} {m17 : Nat → Int64} {m18 m19 m20 m21 : Nat → Int32} {u0 u1 u2 u3 u4 : Int32} {u5 u6 : Nat → Int64} {u7 u8 u9 u10 u11 u12 u13 u14 u15 u16 u17 u18 : Nat → Int32} {out : Nat → Int64} {t : va_W} {Q : Rs → va_W → Prop} {n : Nat} {i : Int32} (Rl : Rel x0 x1 x2 x3 x4 x5 x6 x7 x8 x9 x10 x11 x13 x14 x15 x16 x17 x18 x19 x20 x21 x37 x38 x59 x60 x61 m1 m2 m6 m7 m8 m9 m10 m11 m12 m13 m19 u0 u1 u2 u3 u7 u8 u9 u10 u11 u12 u13 u14 u15 u16 u17 u18) (h1 : ib (i + (1 : Int32)) (gL g) = true) (K : GoK nm g ad ao am Q (15 * n) (2701 * n) i) : R g (mL_law nm) 1400 (15 * (n + 1)) (2701 * (n + 1)) 635 [(0, .ref (gb g)), (1, .ref (ad 0)), (2, .ref (am 0)), (3, .ref (ao 0)), (4, .int i)] [] (wlX g ad x0 x1 x2 x3 x4 x5 x6 x7 x8 x9 x10 x11 x12 x13 x14 x15 x16 x17 x18 x19 x20 x21 x22 x23 x24 x25 x26 x27 x28 x29 x30 x31 x32 x33 x34 x35 x36 x37 x38 x39 x40 x41 x42 x43 x44 x45 x46 x47 x48 x49 x50 x51 x52 x53 x54 x55 x56 x57 x58 x59 x60 x61 x62 x63 x64 x65 x66 x67 ++ (wlO g ao out ++ (wlM g am (ap 0) m0 m1 m2 m3 m4 m5 m6 m7 m8 m9 m10 m11 m12 m13 m14 m15 m16 m17 m18 m19 m20 m21 ++ (wlP g ap u0 u1 u2 u3 u4 u5 u6 u7 u8 u9 u10 u11 u12 u13 u14 u15 u16 u17 u18 ++ t)))) Q := by
  obtain ⟨o, b, hX, hM, hag, hrel⟩ := cs_secondEventOf  Rl out (gx g (i + (1 : Int32)).toNatClampNeg)
  refine r_less (x := (15 * n + 0) + 2) (y := (2701 * n + 0) + 12) (by omega) (by omega) ?_
  refine r_aload_n 1 dL_law_635 rfl ?_
  refine r_aload_n 0 dL_law_636 rfl ?_
  refine r_iload 4 dL_law_637 rfl ?_
  refine r_iconst (v := (1 : Int32)) dL_law_639 (by decide) ?_
  refine r_iadd dL_law_640 ?_
  refine r_sld dL_law_641 h1 ?_
  refine r_aload_n 3 dL_law_642 rfl ?_
  refine c_LW (rest := []) (15 * n + 0) (2701 * n + 0) dL_law_643 kt_L_152 (ct_L_secondEventOf hX) rfl rfl (Nat.le_of_ble_eq_true rfl) (by decide) (by decide) ?_
  refine r_istore [(5, .int o.1), (0, .ref (gb g)), (1, .ref (ad 0)), (2, .ref (am 0)), (3, .ref (ao 0)), (4, .int i)] dL_law_646 (Nat.le_of_ble_eq_true rfl) rfl ?_
  refine r_aload_n 3 dL_law_648 rfl ?_
  refine r_aload_n 1 dL_law_649 rfl ?_
  refine r_iload 5 dL_law_650 rfl ?_
  refine r_iconst (v := (1 : Int32)) dL_law_652 (by decide) ?_
  refine r_iadd dL_law_653 ?_
  refine r_sld dL_law_654 h1 ?_
  refine r_perm (pmF _ _ _ _ _) ?_
  refine c_V (rest := []) (15 * n) (2701 * n) _ dL_law_655 kv_L_154 (ct_M_secondEventOf hM) rfl rfl lM_0 rfl (Nat.le_of_ble_eq_true rfl) (by decide) (by decide) ?_
  refine r_istore [(6, .int b.1), (5, .int o.1), (0, .ref (gb g)), (1, .ref (ad 0)), (2, .ref (am 0)), (3, .ref (ao 0)), (4, .int i)] dL_law_658 (Nat.le_of_ble_eq_true rfl) rfl ?_
  refine r_aload_n 4 dL_law_660 rfl ?_
  refine c_V (rest := []) (15 * n) (2701 * n) _ dL_law_661 kv_L_107 (ct_M_thrown rfl) rfl rfl lM_0 rfl (Nat.le_of_ble_eq_true rfl) (by decide) (by decide) ?_
  refine r_perm (pmF _ _ _ _ _) ?_
  refine r_iload 1 dL_law_664 rfl ?_
  refine r_icmp_eq (tgt := 671) dL_law_666 (by decide) (fun _ => ?_) (fun hc => absurd hag.1 hc)
  refine r_iload 1 dL_law_671 rfl ?_
  refine r_if_ne (tgt := 688) dL_law_673 (by decide) (fun hk => ?_) (fun hk => ?_)
  · refine r_goto (tgt := 2050) dL_law_688 (by decide) ?_
    refine r_ls [2, 3, 4, 5, 6] (ls2 := [(0, .ref (gb g)), (1, .ref (ad 0)), (2, .ref (am 0)), (3, .ref (ao 0)), (4, .int i)]) rfl ?_
    exact K hrel
  · refine r_aload_n 5 dL_law_676 rfl ?_
    refine r_iconst (v := (0 : Int32)) dL_law_677 (by decide) ?_
    refine r_lald _ dL_law_678 lO_0 (by decide) ?_
    refine r_iload 0 dL_law_679 rfl ?_
    refine r_i2l dL_law_681 ?_
    refine r_lcmp dL_law_682 ?_
    refine r_if_eq (tgt := 688) dL_law_683 (by decide) (fun _ => ?_) (fun hc => absurd ((lg_cmp_0 _ _).mpr (hag.2 hk)) hc)
    refine r_goto (tgt := 2050) dL_law_688 (by decide) ?_
    refine r_ls [2, 3, 4, 5, 6] (ls2 := [(0, .ref (gb g)), (1, .ref (ad 0)), (2, .ref (am 0)), (3, .ref (ao 0)), (4, .int i)]) rfl ?_
    exact K hrel
set_option maxRecDepth 20000 in
set_option maxHeartbeats 4000000 in
theorem law_13 {nm : String} {g : GG} {ad ao am ap : Nat → Nat} {x0 x1 : Int32} {x2 : Nat → Int32} {x3 x4 x5 : Int32} {x6 x7 x8 x9 x10 : Nat → Int32} {x11 x12 : Int32} {x13 x14 x15 x16 x17 : Nat → Int32} {x18 x19 x20 : Int32} {x21 x22 x23 : Nat → Int32} {x24 x25 x26 x27 x28 x29 x30 x31 : Int32} {x32 : Int64} {x33 x34 x35 : Nat → Int32} {x36 : Nat → Int64} {x37 : Int32} {x38 : Nat → Int64} {x39 x40 x41 : Int32} {x42 x43 x44 x45 x46 : Nat → Int32} {x47 x48 : Int32} {x49 x50 x51 x52 x53 : Nat → Int32} {x54 : Int32} {x55 : Nat → Int64} {x56 : Int32} {x57 : Nat → Int64} {x58 x59 x60 x61 : Int32} {x62 : Nat → Int32} {x63 x64 x65 x66 : Int32} {x67 : Nat → Int32} {m0 m1 m2 m3 m4 m5 m6 m7 m8 m9 m10 m11 m12 : Int32} {m13 m14 m15 m16 : Nat → Int32} {m17 : Nat → Int64} {m18 m19 m20 m21 : Nat → Int32} {u0 u1 u2 u3 u4 : Int32} {u5 u6 : Nat → Int64} {u7 u8 u9 u10 u11 u12 u13 u14 u15 u16 u17 u18 : Nat → Int32} {out : Nat → Int64} {t : va_W} {Q : Rs → va_W → Prop} {n : Nat} {i : Int32} (Rl : Rel x0 x1 x2 x3 x4 x5 x6 x7 x8 x9 x10 x11 x13 x14 x15 x16 x17 x18 x19 x20 x21 x37 x38 x59 x60 x61 m1 m2 m6 m7 m8 m9 m10 m11 m12 m13 m19 u0 u1 u2 u3 u7 u8 u9 u10 u11 u12 u13 u14 u15 u16 u17 u18) (h1 : ib (i + (1 : Int32)) (gL g) = true) (K : GoK nm g ad ao am Q (15 * n) (2701 * n) i) : R g (mL_law nm) 1400 (15 * (n + 1)) (2701 * (n + 1)) 691 [(0, .ref (gb g)), (1, .ref (ad 0)), (2, .ref (am 0)), (3, .ref (ao 0)), (4, .int i)] [] (wlX g ad x0 x1 x2 x3 x4 x5 x6 x7 x8 x9 x10 x11 x12 x13 x14 x15 x16 x17 x18 x19 x20 x21 x22 x23 x24 x25 x26 x27 x28 x29 x30 x31 x32 x33 x34 x35 x36 x37 x38 x39 x40 x41 x42 x43 x44 x45 x46 x47 x48 x49 x50 x51 x52 x53 x54 x55 x56 x57 x58 x59 x60 x61 x62 x63 x64 x65 x66 x67 ++ (wlO g ao out ++ (wlM g am (ap 0) m0 m1 m2 m3 m4 m5 m6 m7 m8 m9 m10 m11 m12 m13 m14 m15 m16 m17 m18 m19 m20 m21 ++ (wlP g ap u0 u1 u2 u3 u4 u5 u6 u7 u8 u9 u10 u11 u12 u13 u14 u15 u16 u17 u18 ++ t)))) Q := by
  obtain ⟨o, b, hX, hM, hag, hrel⟩ := cs_firstHourOf  Rl out (gx g (i + (1 : Int32)).toNatClampNeg)
  refine r_less (x := (15 * n + 0) + 2) (y := (2701 * n + 0) + 12) (by omega) (by omega) ?_
  refine r_aload_n 1 dL_law_691 rfl ?_
  refine r_aload_n 0 dL_law_692 rfl ?_
  refine r_iload 4 dL_law_693 rfl ?_
  refine r_iconst (v := (1 : Int32)) dL_law_695 (by decide) ?_
  refine r_iadd dL_law_696 ?_
  refine r_sld dL_law_697 h1 ?_
  refine r_aload_n 3 dL_law_698 rfl ?_
  refine c_LW (rest := []) (15 * n + 0) (2701 * n + 0) dL_law_699 kt_L_155 (ct_L_firstHourOf hX) rfl rfl (Nat.le_of_ble_eq_true rfl) (by decide) (by decide) ?_
  refine r_istore [(5, .int o.1), (0, .ref (gb g)), (1, .ref (ad 0)), (2, .ref (am 0)), (3, .ref (ao 0)), (4, .int i)] dL_law_702 (Nat.le_of_ble_eq_true rfl) rfl ?_
  refine r_aload_n 3 dL_law_704 rfl ?_
  refine r_aload_n 1 dL_law_705 rfl ?_
  refine r_iload 5 dL_law_706 rfl ?_
  refine r_iconst (v := (1 : Int32)) dL_law_708 (by decide) ?_
  refine r_iadd dL_law_709 ?_
  refine r_sld dL_law_710 h1 ?_
  refine r_perm (pmF _ _ _ _ _) ?_
  refine c_V (rest := []) (15 * n) (2701 * n) _ dL_law_711 kv_L_157 (ct_M_firstHourOf hM) rfl rfl lM_0 rfl (Nat.le_of_ble_eq_true rfl) (by decide) (by decide) ?_
  refine r_istore [(6, .int b.1), (5, .int o.1), (0, .ref (gb g)), (1, .ref (ad 0)), (2, .ref (am 0)), (3, .ref (ao 0)), (4, .int i)] dL_law_714 (Nat.le_of_ble_eq_true rfl) rfl ?_
  refine r_aload_n 4 dL_law_716 rfl ?_
  refine c_V (rest := []) (15 * n) (2701 * n) _ dL_law_717 kv_L_107 (ct_M_thrown rfl) rfl rfl lM_0 rfl (Nat.le_of_ble_eq_true rfl) (by decide) (by decide) ?_
  refine r_perm (pmF _ _ _ _ _) ?_
  refine r_iload 1 dL_law_720 rfl ?_
  refine r_icmp_eq (tgt := 727) dL_law_722 (by decide) (fun _ => ?_) (fun hc => absurd hag.1 hc)
  refine r_iload 1 dL_law_727 rfl ?_
  refine r_if_ne (tgt := 744) dL_law_729 (by decide) (fun hk => ?_) (fun hk => ?_)
  · refine r_goto (tgt := 2050) dL_law_744 (by decide) ?_
    refine r_ls [2, 3, 4, 5, 6] (ls2 := [(0, .ref (gb g)), (1, .ref (ad 0)), (2, .ref (am 0)), (3, .ref (ao 0)), (4, .int i)]) rfl ?_
    exact K hrel
  · refine r_aload_n 5 dL_law_732 rfl ?_
    refine r_iconst (v := (0 : Int32)) dL_law_733 (by decide) ?_
    refine r_lald _ dL_law_734 lO_0 (by decide) ?_
    refine r_iload 0 dL_law_735 rfl ?_
    refine r_i2l dL_law_737 ?_
    refine r_lcmp dL_law_738 ?_
    refine r_if_eq (tgt := 744) dL_law_739 (by decide) (fun _ => ?_) (fun hc => absurd ((lg_cmp_0 _ _).mpr (hag.2 hk)) hc)
    refine r_goto (tgt := 2050) dL_law_744 (by decide) ?_
    refine r_ls [2, 3, 4, 5, 6] (ls2 := [(0, .ref (gb g)), (1, .ref (ad 0)), (2, .ref (am 0)), (3, .ref (ao 0)), (4, .int i)]) rfl ?_
    exact K hrel
set_option maxRecDepth 20000 in
set_option maxHeartbeats 4000000 in
theorem law_14 {nm : String} {g : GG} {ad ao am ap : Nat → Nat} {x0 x1 : Int32} {x2 : Nat → Int32} {x3 x4 x5 : Int32} {x6 x7 x8 x9 x10 : Nat → Int32} {x11 x12 : Int32} {x13 x14 x15 x16 x17 : Nat → Int32} {x18 x19 x20 : Int32} {x21 x22 x23 : Nat → Int32} {x24 x25 x26 x27 x28 x29 x30 x31 : Int32} {x32 : Int64} {x33 x34 x35 : Nat → Int32} {x36 : Nat → Int64} {x37 : Int32} {x38 : Nat → Int64} {x39 x40 x41 : Int32} {x42 x43 x44 x45 x46 : Nat → Int32} {x47 x48 : Int32} {x49 x50 x51 x52 x53 : Nat → Int32} {x54 : Int32} {x55 : Nat → Int64} {x56 : Int32} {x57 : Nat → Int64} {x58 x59 x60 x61 : Int32} {x62 : Nat → Int32} {x63 x64 x65 x66 : Int32} {x67 : Nat → Int32} {m0 m1 m2 m3 m4 m5 m6 m7 m8 m9 m10 m11 m12 : Int32} {m13 m14 m15 m16 : Nat → Int32} {m17 : Nat → Int64} {m18 m19 m20 m21 : Nat → Int32} {u0 u1 u2 u3 u4 : Int32} {u5 u6 : Nat → Int64} {u7 u8 u9 u10 u11 u12 u13 u14 u15 u16 u17 u18 : Nat → Int32} {out : Nat → Int64} {t : va_W} {Q : Rs → va_W → Prop} {n : Nat} {i : Int32} (Rl : Rel x0 x1 x2 x3 x4 x5 x6 x7 x8 x9 x10 x11 x13 x14 x15 x16 x17 x18 x19 x20 x21 x37 x38 x59 x60 x61 m1 m2 m6 m7 m8 m9 m10 m11 m12 m13 m19 u0 u1 u2 u3 u7 u8 u9 u10 u11 u12 u13 u14 u15 u16 u17 u18) (h1 : ib (i + (1 : Int32)) (gL g) = true) (K : GoK nm g ad ao am Q (15 * n) (2701 * n) i) : R g (mL_law nm) 1400 (15 * (n + 1)) (2701 * (n + 1)) 747 [(0, .ref (gb g)), (1, .ref (ad 0)), (2, .ref (am 0)), (3, .ref (ao 0)), (4, .int i)] [] (wlX g ad x0 x1 x2 x3 x4 x5 x6 x7 x8 x9 x10 x11 x12 x13 x14 x15 x16 x17 x18 x19 x20 x21 x22 x23 x24 x25 x26 x27 x28 x29 x30 x31 x32 x33 x34 x35 x36 x37 x38 x39 x40 x41 x42 x43 x44 x45 x46 x47 x48 x49 x50 x51 x52 x53 x54 x55 x56 x57 x58 x59 x60 x61 x62 x63 x64 x65 x66 x67 ++ (wlO g ao out ++ (wlM g am (ap 0) m0 m1 m2 m3 m4 m5 m6 m7 m8 m9 m10 m11 m12 m13 m14 m15 m16 m17 m18 m19 m20 m21 ++ (wlP g ap u0 u1 u2 u3 u4 u5 u6 u7 u8 u9 u10 u11 u12 u13 u14 u15 u16 u17 u18 ++ t)))) Q := by
  obtain ⟨o, b, hX, hM, hag, hrel⟩ := cs_lastHourOf  Rl out (gx g (i + (1 : Int32)).toNatClampNeg)
  refine r_less (x := (15 * n + 0) + 2) (y := (2701 * n + 0) + 12) (by omega) (by omega) ?_
  refine r_aload_n 1 dL_law_747 rfl ?_
  refine r_aload_n 0 dL_law_748 rfl ?_
  refine r_iload 4 dL_law_749 rfl ?_
  refine r_iconst (v := (1 : Int32)) dL_law_751 (by decide) ?_
  refine r_iadd dL_law_752 ?_
  refine r_sld dL_law_753 h1 ?_
  refine r_aload_n 3 dL_law_754 rfl ?_
  refine c_LW (rest := []) (15 * n + 0) (2701 * n + 0) dL_law_755 kt_L_158 (ct_L_lastHourOf hX) rfl rfl (Nat.le_of_ble_eq_true rfl) (by decide) (by decide) ?_
  refine r_istore [(5, .int o.1), (0, .ref (gb g)), (1, .ref (ad 0)), (2, .ref (am 0)), (3, .ref (ao 0)), (4, .int i)] dL_law_758 (Nat.le_of_ble_eq_true rfl) rfl ?_
  refine r_aload_n 3 dL_law_760 rfl ?_
  refine r_aload_n 1 dL_law_761 rfl ?_
  refine r_iload 5 dL_law_762 rfl ?_
  refine r_iconst (v := (1 : Int32)) dL_law_764 (by decide) ?_
  refine r_iadd dL_law_765 ?_
  refine r_sld dL_law_766 h1 ?_
  refine r_perm (pmF _ _ _ _ _) ?_
  refine c_V (rest := []) (15 * n) (2701 * n) _ dL_law_767 kv_L_160 (ct_M_lastHourOf hM) rfl rfl lM_0 rfl (Nat.le_of_ble_eq_true rfl) (by decide) (by decide) ?_
  refine r_istore [(6, .int b.1), (5, .int o.1), (0, .ref (gb g)), (1, .ref (ad 0)), (2, .ref (am 0)), (3, .ref (ao 0)), (4, .int i)] dL_law_770 (Nat.le_of_ble_eq_true rfl) rfl ?_
  refine r_aload_n 4 dL_law_772 rfl ?_
  refine c_V (rest := []) (15 * n) (2701 * n) _ dL_law_773 kv_L_107 (ct_M_thrown rfl) rfl rfl lM_0 rfl (Nat.le_of_ble_eq_true rfl) (by decide) (by decide) ?_
  refine r_perm (pmF _ _ _ _ _) ?_
  refine r_iload 1 dL_law_776 rfl ?_
  refine r_icmp_eq (tgt := 783) dL_law_778 (by decide) (fun _ => ?_) (fun hc => absurd hag.1 hc)
  refine r_iload 1 dL_law_783 rfl ?_
  refine r_if_ne (tgt := 800) dL_law_785 (by decide) (fun hk => ?_) (fun hk => ?_)
  · refine r_goto (tgt := 2050) dL_law_800 (by decide) ?_
    refine r_ls [2, 3, 4, 5, 6] (ls2 := [(0, .ref (gb g)), (1, .ref (ad 0)), (2, .ref (am 0)), (3, .ref (ao 0)), (4, .int i)]) rfl ?_
    exact K hrel
  · refine r_aload_n 5 dL_law_788 rfl ?_
    refine r_iconst (v := (0 : Int32)) dL_law_789 (by decide) ?_
    refine r_lald _ dL_law_790 lO_0 (by decide) ?_
    refine r_iload 0 dL_law_791 rfl ?_
    refine r_i2l dL_law_793 ?_
    refine r_lcmp dL_law_794 ?_
    refine r_if_eq (tgt := 800) dL_law_795 (by decide) (fun _ => ?_) (fun hc => absurd ((lg_cmp_0 _ _).mpr (hag.2 hk)) hc)
    refine r_goto (tgt := 2050) dL_law_800 (by decide) ?_
    refine r_ls [2, 3, 4, 5, 6] (ls2 := [(0, .ref (gb g)), (1, .ref (ad 0)), (2, .ref (am 0)), (3, .ref (ao 0)), (4, .int i)]) rfl ?_
    exact K hrel
set_option maxRecDepth 20000 in
set_option maxHeartbeats 4000000 in
theorem law_15 {nm : String} {g : GG} {ad ao am ap : Nat → Nat} {x0 x1 : Int32} {x2 : Nat → Int32} {x3 x4 x5 : Int32} {x6 x7 x8 x9 x10 : Nat → Int32} {x11 x12 : Int32} {x13 x14 x15 x16 x17 : Nat → Int32} {x18 x19 x20 : Int32} {x21 x22 x23 : Nat → Int32} {x24 x25 x26 x27 x28 x29 x30 x31 : Int32} {x32 : Int64} {x33 x34 x35 : Nat → Int32} {x36 : Nat → Int64} {x37 : Int32} {x38 : Nat → Int64} {x39 x40 x41 : Int32} {x42 x43 x44 x45 x46 : Nat → Int32} {x47 x48 : Int32} {x49 x50 x51 x52 x53 : Nat → Int32} {x54 : Int32} {x55 : Nat → Int64} {x56 : Int32} {x57 : Nat → Int64} {x58 x59 x60 x61 : Int32} {x62 : Nat → Int32} {x63 x64 x65 x66 : Int32} {x67 : Nat → Int32} {m0 m1 m2 m3 m4 m5 m6 m7 m8 m9 m10 m11 m12 : Int32} {m13 m14 m15 m16 : Nat → Int32} {m17 : Nat → Int64} {m18 m19 m20 m21 : Nat → Int32} {u0 u1 u2 u3 u4 : Int32} {u5 u6 : Nat → Int64} {u7 u8 u9 u10 u11 u12 u13 u14 u15 u16 u17 u18 : Nat → Int32} {out : Nat → Int64} {t : va_W} {Q : Rs → va_W → Prop} {n : Nat} {i : Int32} (Rl : Rel x0 x1 x2 x3 x4 x5 x6 x7 x8 x9 x10 x11 x13 x14 x15 x16 x17 x18 x19 x20 x21 x37 x38 x59 x60 x61 m1 m2 m6 m7 m8 m9 m10 m11 m12 m13 m19 u0 u1 u2 u3 u7 u8 u9 u10 u11 u12 u13 u14 u15 u16 u17 u18) (h1 : ib (i + (1 : Int32)) (gL g) = true) (h2 : ib (i + (2 : Int32)) (gL g) = true) (K : GoK nm g ad ao am Q (15 * n) (2701 * n) i) : R g (mL_law nm) 1400 (15 * (n + 1)) (2701 * (n + 1)) 803 [(0, .ref (gb g)), (1, .ref (ad 0)), (2, .ref (am 0)), (3, .ref (ao 0)), (4, .int i)] [] (wlX g ad x0 x1 x2 x3 x4 x5 x6 x7 x8 x9 x10 x11 x12 x13 x14 x15 x16 x17 x18 x19 x20 x21 x22 x23 x24 x25 x26 x27 x28 x29 x30 x31 x32 x33 x34 x35 x36 x37 x38 x39 x40 x41 x42 x43 x44 x45 x46 x47 x48 x49 x50 x51 x52 x53 x54 x55 x56 x57 x58 x59 x60 x61 x62 x63 x64 x65 x66 x67 ++ (wlO g ao out ++ (wlM g am (ap 0) m0 m1 m2 m3 m4 m5 m6 m7 m8 m9 m10 m11 m12 m13 m14 m15 m16 m17 m18 m19 m20 m21 ++ (wlP g ap u0 u1 u2 u3 u4 u5 u6 u7 u8 u9 u10 u11 u12 u13 u14 u15 u16 u17 u18 ++ t)))) Q := by
  obtain ⟨o, b, hX, hM, hag, hrel⟩ := cs_areContrary (hN2 := (by decide : 5000 < 6000)) Rl out (gx g (i + (1 : Int32)).toNatClampNeg) (gx g (i + (2 : Int32)).toNatClampNeg)
  refine r_less (x := (15 * n + 0) + 2) (y := (2701 * n + 0) + 12) (by omega) (by omega) ?_
  refine r_aload_n 1 dL_law_803 rfl ?_
  refine r_aload_n 0 dL_law_804 rfl ?_
  refine r_iload 4 dL_law_805 rfl ?_
  refine r_iconst (v := (1 : Int32)) dL_law_807 (by decide) ?_
  refine r_iadd dL_law_808 ?_
  refine r_sld dL_law_809 h1 ?_
  refine r_aload_n 0 dL_law_810 rfl ?_
  refine r_iload 4 dL_law_811 rfl ?_
  refine r_iconst (v := (2 : Int32)) dL_law_813 (by decide) ?_
  refine r_iadd dL_law_814 ?_
  refine r_sld dL_law_815 h2 ?_
  refine r_aload_n 3 dL_law_816 rfl ?_
  refine c_LW (rest := []) (15 * n + 0) (2701 * n + 0) dL_law_817 kt_L_161 (ct_L_areContrary hX) rfl rfl (Nat.le_of_ble_eq_true rfl) (by decide) (by decide) ?_
  refine r_istore [(5, .int o.1), (0, .ref (gb g)), (1, .ref (ad 0)), (2, .ref (am 0)), (3, .ref (ao 0)), (4, .int i)] dL_law_820 (Nat.le_of_ble_eq_true rfl) rfl ?_
  refine r_aload_n 3 dL_law_822 rfl ?_
  refine r_aload_n 1 dL_law_823 rfl ?_
  refine r_iload 5 dL_law_824 rfl ?_
  refine r_iconst (v := (1 : Int32)) dL_law_826 (by decide) ?_
  refine r_iadd dL_law_827 ?_
  refine r_sld dL_law_828 h1 ?_
  refine r_aload_n 1 dL_law_829 rfl ?_
  refine r_iload 5 dL_law_830 rfl ?_
  refine r_iconst (v := (2 : Int32)) dL_law_832 (by decide) ?_
  refine r_iadd dL_law_833 ?_
  refine r_sld dL_law_834 h2 ?_
  refine r_perm (pmF _ _ _ _ _) ?_
  refine c_V (rest := []) (15 * n) (2701 * n) _ dL_law_835 kv_L_164 (ct_M_areContrary hM) rfl rfl lM_0 rfl (Nat.le_of_ble_eq_true rfl) (by decide) (by decide) ?_
  refine r_istore [(6, .int b.1), (5, .int o.1), (0, .ref (gb g)), (1, .ref (ad 0)), (2, .ref (am 0)), (3, .ref (ao 0)), (4, .int i)] dL_law_838 (Nat.le_of_ble_eq_true rfl) rfl ?_
  refine r_aload_n 4 dL_law_840 rfl ?_
  refine c_V (rest := []) (15 * n) (2701 * n) _ dL_law_841 kv_L_107 (ct_M_thrown rfl) rfl rfl lM_0 rfl (Nat.le_of_ble_eq_true rfl) (by decide) (by decide) ?_
  refine r_perm (pmF _ _ _ _ _) ?_
  refine r_iload 1 dL_law_844 rfl ?_
  refine r_icmp_eq (tgt := 851) dL_law_846 (by decide) (fun _ => ?_) (fun hc => absurd hag.1 hc)
  refine r_iload 1 dL_law_851 rfl ?_
  refine r_if_ne (tgt := 875) dL_law_853 (by decide) (fun hk => ?_) (fun hk => ?_)
  · refine r_goto (tgt := 2050) dL_law_875 (by decide) ?_
    refine r_ls [2, 3, 4, 5, 6] (ls2 := [(0, .ref (gb g)), (1, .ref (ad 0)), (2, .ref (am 0)), (3, .ref (ao 0)), (4, .int i)]) rfl ?_
    exact K hrel
  · refine r_aload_n 5 dL_law_856 rfl ?_
    refine r_iconst (v := (0 : Int32)) dL_law_857 (by decide) ?_
    refine r_lald _ dL_law_858 lO_0 (by decide) ?_
    refine r_iload 0 dL_law_859 rfl ?_
    refine r_if_eq (tgt := 868) dL_law_861 (by decide) (fun hb => ?_) (fun hb => ?_)
    · refine r_lconst (v := (0 : Int64)) dL_law_868 (by decide) ?_
      refine r_lcmp dL_law_869 ?_
      refine r_if_eq (tgt := 875) dL_law_870 (by decide) (fun _ => ?_) (fun hc => absurd ((lg_cmp_0 _ _).mpr ((hag.2.2 hk).trans (if_pos hb))) hc)
      refine r_goto (tgt := 2050) dL_law_875 (by decide) ?_
      refine r_ls [2, 3, 4, 5, 6] (ls2 := [(0, .ref (gb g)), (1, .ref (ad 0)), (2, .ref (am 0)), (3, .ref (ao 0)), (4, .int i)]) rfl ?_
      exact K hrel
    · refine r_lconst (v := (1 : Int64)) dL_law_864 (by decide) ?_
      refine r_goto (tgt := 869) dL_law_865 (by decide) ?_
      refine r_lcmp dL_law_869 ?_
      refine r_if_eq (tgt := 875) dL_law_870 (by decide) (fun _ => ?_) (fun hc => absurd ((lg_cmp_0 _ _).mpr ((hag.2.2 hk).trans (if_neg hb))) hc)
      refine r_goto (tgt := 2050) dL_law_875 (by decide) ?_
      refine r_ls [2, 3, 4, 5, 6] (ls2 := [(0, .ref (gb g)), (1, .ref (ad 0)), (2, .ref (am 0)), (3, .ref (ao 0)), (4, .int i)]) rfl ?_
      exact K hrel
set_option maxRecDepth 20000 in
set_option maxHeartbeats 4000000 in
theorem law_16 {nm : String} {g : GG} {ad ao am ap : Nat → Nat} {x0 x1 : Int32} {x2 : Nat → Int32} {x3 x4 x5 : Int32} {x6 x7 x8 x9 x10 : Nat → Int32} {x11 x12 : Int32} {x13 x14 x15 x16 x17 : Nat → Int32} {x18 x19 x20 : Int32} {x21 x22 x23 : Nat → Int32} {x24 x25 x26 x27 x28 x29 x30 x31 : Int32} {x32 : Int64} {x33 x34 x35 : Nat → Int32} {x36 : Nat → Int64} {x37 : Int32} {x38 : Nat → Int64} {x39 x40 x41 : Int32} {x42 x43 x44 x45 x46 : Nat → Int32} {x47 x48 : Int32} {x49 x50 x51 x52 x53 : Nat → Int32} {x54 : Int32} {x55 : Nat → Int64} {x56 : Int32} {x57 : Nat → Int64} {x58 x59 x60 x61 : Int32} {x62 : Nat → Int32} {x63 x64 x65 x66 : Int32} {x67 : Nat → Int32} {m0 m1 m2 m3 m4 m5 m6 m7 m8 m9 m10 m11 m12 : Int32} {m13 m14 m15 m16 : Nat → Int32} {m17 : Nat → Int64} {m18 m19 m20 m21 : Nat → Int32} {u0 u1 u2 u3 u4 : Int32} {u5 u6 : Nat → Int64} {u7 u8 u9 u10 u11 u12 u13 u14 u15 u16 u17 u18 : Nat → Int32} {out : Nat → Int64} {t : va_W} {Q : Rs → va_W → Prop} {n : Nat} {i : Int32} (Rl : Rel x0 x1 x2 x3 x4 x5 x6 x7 x8 x9 x10 x11 x13 x14 x15 x16 x17 x18 x19 x20 x21 x37 x38 x59 x60 x61 m1 m2 m6 m7 m8 m9 m10 m11 m12 m13 m19 u0 u1 u2 u3 u7 u8 u9 u10 u11 u12 u13 u14 u15 u16 u17 u18) (h1 : ib (i + (1 : Int32)) (gL g) = true) (K : GoK nm g ad ao am Q (15 * n) (2701 * n) i) : R g (mL_law nm) 1400 (15 * (n + 1)) (2701 * (n + 1)) 878 [(0, .ref (gb g)), (1, .ref (ad 0)), (2, .ref (am 0)), (3, .ref (ao 0)), (4, .int i)] [] (wlX g ad x0 x1 x2 x3 x4 x5 x6 x7 x8 x9 x10 x11 x12 x13 x14 x15 x16 x17 x18 x19 x20 x21 x22 x23 x24 x25 x26 x27 x28 x29 x30 x31 x32 x33 x34 x35 x36 x37 x38 x39 x40 x41 x42 x43 x44 x45 x46 x47 x48 x49 x50 x51 x52 x53 x54 x55 x56 x57 x58 x59 x60 x61 x62 x63 x64 x65 x66 x67 ++ (wlO g ao out ++ (wlM g am (ap 0) m0 m1 m2 m3 m4 m5 m6 m7 m8 m9 m10 m11 m12 m13 m14 m15 m16 m17 m18 m19 m20 m21 ++ (wlP g ap u0 u1 u2 u3 u4 u5 u6 u7 u8 u9 u10 u11 u12 u13 u14 u15 u16 u17 u18 ++ t)))) Q := by
  obtain ⟨o, b, hX, hM, hag, hrel⟩ := cs_claimsOf (hN1 := (by decide : 5000 < 6000)) (hN2 := (by decide : 5000 < 6000)) Rl out (gx g (i + (1 : Int32)).toNatClampNeg)
  refine r_less (x := (15 * n + 0) + 1) (y := (2701 * n + 0) + 6) (by omega) (by omega) ?_
  refine r_aload_n 1 dL_law_878 rfl ?_
  refine r_aload_n 0 dL_law_879 rfl ?_
  refine r_iload 4 dL_law_880 rfl ?_
  refine r_iconst (v := (1 : Int32)) dL_law_882 (by decide) ?_
  refine r_iadd dL_law_883 ?_
  refine r_sld dL_law_884 h1 ?_
  refine r_aload_n 3 dL_law_885 rfl ?_
  refine c_LW (rest := []) (15 * n + 0) (2701 * n + 0) dL_law_886 kt_L_165 (ct_L_claimsOf hX) rfl rfl (Nat.le_of_ble_eq_true rfl) (by decide) (by decide) ?_
  refine r_istore [(5, .int o.1), (0, .ref (gb g)), (1, .ref (ad 0)), (2, .ref (am 0)), (3, .ref (ao 0)), (4, .int i)] dL_law_889 (Nat.le_of_ble_eq_true rfl) rfl ?_
  refine r_aload_n 3 dL_law_891 rfl ?_
  refine r_aload_n 1 dL_law_892 rfl ?_
  refine r_iload 5 dL_law_893 rfl ?_
  refine r_iconst (v := (1 : Int32)) dL_law_895 (by decide) ?_
  refine r_iadd dL_law_896 ?_
  refine r_sld dL_law_897 h1 ?_
  refine r_perm (pmF _ _ _ _ _) ?_
  refine c_V (rest := []) (15 * n) (2701 * n) _ dL_law_898 kv_L_167 (ct_M_claimsOf hM) rfl rfl lM_0 rfl (Nat.le_of_ble_eq_true rfl) (by decide) (by decide) ?_
  refine r_istore [(6, .int b.1), (5, .int o.1), (0, .ref (gb g)), (1, .ref (ad 0)), (2, .ref (am 0)), (3, .ref (ao 0)), (4, .int i)] dL_law_901 (Nat.le_of_ble_eq_true rfl) rfl ?_
  refine r_aload_n 4 dL_law_903 rfl ?_
  refine c_V (rest := []) (15 * n) (2701 * n) _ dL_law_904 kv_L_107 (ct_M_thrown rfl) rfl rfl lM_0 rfl (Nat.le_of_ble_eq_true rfl) (by decide) (by decide) ?_
  refine r_perm (pmF _ _ _ _ _) ?_
  refine r_iload 1 dL_law_907 rfl ?_
  refine r_icmp_eq (tgt := 914) dL_law_909 (by decide) (fun _ => ?_) (fun hc => absurd hag.1 hc)
  refine r_iload 1 dL_law_914 rfl ?_
  refine r_if_ne (tgt := 931) dL_law_916 (by decide) (fun hk => ?_) (fun hk => ?_)
  · refine r_goto (tgt := 2050) dL_law_931 (by decide) ?_
    refine r_ls [2, 3, 4, 5, 6] (ls2 := [(0, .ref (gb g)), (1, .ref (ad 0)), (2, .ref (am 0)), (3, .ref (ao 0)), (4, .int i)]) rfl ?_
    exact K hrel
  · refine r_aload_n 5 dL_law_919 rfl ?_
    refine r_iconst (v := (0 : Int32)) dL_law_920 (by decide) ?_
    refine r_lald _ dL_law_921 lO_0 (by decide) ?_
    refine r_iload 0 dL_law_922 rfl ?_
    refine r_i2l dL_law_924 ?_
    refine r_lcmp dL_law_925 ?_
    refine r_if_eq (tgt := 931) dL_law_926 (by decide) (fun _ => ?_) (fun hc => absurd ((lg_cmp_0 _ _).mpr (hag.2 hk)) hc)
    refine r_goto (tgt := 2050) dL_law_931 (by decide) ?_
    refine r_ls [2, 3, 4, 5, 6] (ls2 := [(0, .ref (gb g)), (1, .ref (ad 0)), (2, .ref (am 0)), (3, .ref (ao 0)), (4, .int i)]) rfl ?_
    exact K hrel
set_option maxRecDepth 20000 in
set_option maxHeartbeats 4000000 in
theorem law_17 {nm : String} {g : GG} {ad ao am ap : Nat → Nat} {x0 x1 : Int32} {x2 : Nat → Int32} {x3 x4 x5 : Int32} {x6 x7 x8 x9 x10 : Nat → Int32} {x11 x12 : Int32} {x13 x14 x15 x16 x17 : Nat → Int32} {x18 x19 x20 : Int32} {x21 x22 x23 : Nat → Int32} {x24 x25 x26 x27 x28 x29 x30 x31 : Int32} {x32 : Int64} {x33 x34 x35 : Nat → Int32} {x36 : Nat → Int64} {x37 : Int32} {x38 : Nat → Int64} {x39 x40 x41 : Int32} {x42 x43 x44 x45 x46 : Nat → Int32} {x47 x48 : Int32} {x49 x50 x51 x52 x53 : Nat → Int32} {x54 : Int32} {x55 : Nat → Int64} {x56 : Int32} {x57 : Nat → Int64} {x58 x59 x60 x61 : Int32} {x62 : Nat → Int32} {x63 x64 x65 x66 : Int32} {x67 : Nat → Int32} {m0 m1 m2 m3 m4 m5 m6 m7 m8 m9 m10 m11 m12 : Int32} {m13 m14 m15 m16 : Nat → Int32} {m17 : Nat → Int64} {m18 m19 m20 m21 : Nat → Int32} {u0 u1 u2 u3 u4 : Int32} {u5 u6 : Nat → Int64} {u7 u8 u9 u10 u11 u12 u13 u14 u15 u16 u17 u18 : Nat → Int32} {out : Nat → Int64} {t : va_W} {Q : Rs → va_W → Prop} {n : Nat} {i : Int32} (Rl : Rel x0 x1 x2 x3 x4 x5 x6 x7 x8 x9 x10 x11 x13 x14 x15 x16 x17 x18 x19 x20 x21 x37 x38 x59 x60 x61 m1 m2 m6 m7 m8 m9 m10 m11 m12 m13 m19 u0 u1 u2 u3 u7 u8 u9 u10 u11 u12 u13 u14 u15 u16 u17 u18) (h1 : ib (i + (1 : Int32)) (gL g) = true) (K : GoK nm g ad ao am Q (15 * n) (2701 * n) i) : R g (mL_law nm) 1400 (15 * (n + 1)) (2701 * (n + 1)) 934 [(0, .ref (gb g)), (1, .ref (ad 0)), (2, .ref (am 0)), (3, .ref (ao 0)), (4, .int i)] [] (wlX g ad x0 x1 x2 x3 x4 x5 x6 x7 x8 x9 x10 x11 x12 x13 x14 x15 x16 x17 x18 x19 x20 x21 x22 x23 x24 x25 x26 x27 x28 x29 x30 x31 x32 x33 x34 x35 x36 x37 x38 x39 x40 x41 x42 x43 x44 x45 x46 x47 x48 x49 x50 x51 x52 x53 x54 x55 x56 x57 x58 x59 x60 x61 x62 x63 x64 x65 x66 x67 ++ (wlO g ao out ++ (wlM g am (ap 0) m0 m1 m2 m3 m4 m5 m6 m7 m8 m9 m10 m11 m12 m13 m14 m15 m16 m17 m18 m19 m20 m21 ++ (wlP g ap u0 u1 u2 u3 u4 u5 u6 u7 u8 u9 u10 u11 u12 u13 u14 u15 u16 u17 u18 ++ t)))) Q := by
  obtain ⟨o, b, hX, hM, hag, hrel⟩ := cs_isDoubted  Rl out (gx g (i + (1 : Int32)).toNatClampNeg)
  refine r_less (x := (15 * n + 0) + 1) (y := (2701 * n + 0) + 6) (by omega) (by omega) ?_
  refine r_aload_n 1 dL_law_934 rfl ?_
  refine r_aload_n 0 dL_law_935 rfl ?_
  refine r_iload 4 dL_law_936 rfl ?_
  refine r_iconst (v := (1 : Int32)) dL_law_938 (by decide) ?_
  refine r_iadd dL_law_939 ?_
  refine r_sld dL_law_940 h1 ?_
  refine r_aload_n 3 dL_law_941 rfl ?_
  refine c_LW (rest := []) (15 * n + 0) (2701 * n + 0) dL_law_942 kt_L_168 (ct_L_isDoubted hX) rfl rfl (Nat.le_of_ble_eq_true rfl) (by decide) (by decide) ?_
  refine r_istore [(5, .int o.1), (0, .ref (gb g)), (1, .ref (ad 0)), (2, .ref (am 0)), (3, .ref (ao 0)), (4, .int i)] dL_law_945 (Nat.le_of_ble_eq_true rfl) rfl ?_
  refine r_aload_n 3 dL_law_947 rfl ?_
  refine r_aload_n 1 dL_law_948 rfl ?_
  refine r_iload 5 dL_law_949 rfl ?_
  refine r_iconst (v := (1 : Int32)) dL_law_951 (by decide) ?_
  refine r_iadd dL_law_952 ?_
  refine r_sld dL_law_953 h1 ?_
  refine r_perm (pmF _ _ _ _ _) ?_
  refine c_V (rest := []) (15 * n) (2701 * n) _ dL_law_954 kv_L_170 (ct_M_isDoubted hM) rfl rfl lM_0 rfl (Nat.le_of_ble_eq_true rfl) (by decide) (by decide) ?_
  refine r_istore [(6, .int b.1), (5, .int o.1), (0, .ref (gb g)), (1, .ref (ad 0)), (2, .ref (am 0)), (3, .ref (ao 0)), (4, .int i)] dL_law_957 (Nat.le_of_ble_eq_true rfl) rfl ?_
  refine r_aload_n 4 dL_law_959 rfl ?_
  refine c_V (rest := []) (15 * n) (2701 * n) _ dL_law_960 kv_L_107 (ct_M_thrown rfl) rfl rfl lM_0 rfl (Nat.le_of_ble_eq_true rfl) (by decide) (by decide) ?_
  refine r_perm (pmF _ _ _ _ _) ?_
  refine r_iload 1 dL_law_963 rfl ?_
  refine r_icmp_eq (tgt := 970) dL_law_965 (by decide) (fun _ => ?_) (fun hc => absurd hag.1 hc)
  refine r_iload 1 dL_law_970 rfl ?_
  refine r_if_ne (tgt := 994) dL_law_972 (by decide) (fun hk => ?_) (fun hk => ?_)
  · refine r_goto (tgt := 2050) dL_law_994 (by decide) ?_
    refine r_ls [2, 3, 4, 5, 6] (ls2 := [(0, .ref (gb g)), (1, .ref (ad 0)), (2, .ref (am 0)), (3, .ref (ao 0)), (4, .int i)]) rfl ?_
    exact K hrel
  · refine r_aload_n 5 dL_law_975 rfl ?_
    refine r_iconst (v := (0 : Int32)) dL_law_976 (by decide) ?_
    refine r_lald _ dL_law_977 lO_0 (by decide) ?_
    refine r_iload 0 dL_law_978 rfl ?_
    refine r_if_eq (tgt := 987) dL_law_980 (by decide) (fun hb => ?_) (fun hb => ?_)
    · refine r_lconst (v := (0 : Int64)) dL_law_987 (by decide) ?_
      refine r_lcmp dL_law_988 ?_
      refine r_if_eq (tgt := 994) dL_law_989 (by decide) (fun _ => ?_) (fun hc => absurd ((lg_cmp_0 _ _).mpr ((hag.2.2 hk).trans (if_pos hb))) hc)
      refine r_goto (tgt := 2050) dL_law_994 (by decide) ?_
      refine r_ls [2, 3, 4, 5, 6] (ls2 := [(0, .ref (gb g)), (1, .ref (ad 0)), (2, .ref (am 0)), (3, .ref (ao 0)), (4, .int i)]) rfl ?_
      exact K hrel
    · refine r_lconst (v := (1 : Int64)) dL_law_983 (by decide) ?_
      refine r_goto (tgt := 988) dL_law_984 (by decide) ?_
      refine r_lcmp dL_law_988 ?_
      refine r_if_eq (tgt := 994) dL_law_989 (by decide) (fun _ => ?_) (fun hc => absurd ((lg_cmp_0 _ _).mpr ((hag.2.2 hk).trans (if_neg hb))) hc)
      refine r_goto (tgt := 2050) dL_law_994 (by decide) ?_
      refine r_ls [2, 3, 4, 5, 6] (ls2 := [(0, .ref (gb g)), (1, .ref (ad 0)), (2, .ref (am 0)), (3, .ref (ao 0)), (4, .int i)]) rfl ?_
      exact K hrel
set_option maxRecDepth 20000 in
set_option maxHeartbeats 4000000 in
theorem law_18 {nm : String} {g : GG} {ad ao am ap : Nat → Nat} {x0 x1 : Int32} {x2 : Nat → Int32} {x3 x4 x5 : Int32} {x6 x7 x8 x9 x10 : Nat → Int32} {x11 x12 : Int32} {x13 x14 x15 x16 x17 : Nat → Int32} {x18 x19 x20 : Int32} {x21 x22 x23 : Nat → Int32} {x24 x25 x26 x27 x28 x29 x30 x31 : Int32} {x32 : Int64} {x33 x34 x35 : Nat → Int32} {x36 : Nat → Int64} {x37 : Int32} {x38 : Nat → Int64} {x39 x40 x41 : Int32} {x42 x43 x44 x45 x46 : Nat → Int32} {x47 x48 : Int32} {x49 x50 x51 x52 x53 : Nat → Int32} {x54 : Int32} {x55 : Nat → Int64} {x56 : Int32} {x57 : Nat → Int64} {x58 x59 x60 x61 : Int32} {x62 : Nat → Int32} {x63 x64 x65 x66 : Int32} {x67 : Nat → Int32} {m0 m1 m2 m3 m4 m5 m6 m7 m8 m9 m10 m11 m12 : Int32} {m13 m14 m15 m16 : Nat → Int32} {m17 : Nat → Int64} {m18 m19 m20 m21 : Nat → Int32} {u0 u1 u2 u3 u4 : Int32} {u5 u6 : Nat → Int64} {u7 u8 u9 u10 u11 u12 u13 u14 u15 u16 u17 u18 : Nat → Int32} {out : Nat → Int64} {t : va_W} {Q : Rs → va_W → Prop} {n : Nat} {i : Int32} (Rl : Rel x0 x1 x2 x3 x4 x5 x6 x7 x8 x9 x10 x11 x13 x14 x15 x16 x17 x18 x19 x20 x21 x37 x38 x59 x60 x61 m1 m2 m6 m7 m8 m9 m10 m11 m12 m13 m19 u0 u1 u2 u3 u7 u8 u9 u10 u11 u12 u13 u14 u15 u16 u17 u18) (h1 : ib (i + (1 : Int32)) (gL g) = true) (h2 : ib (i + (2 : Int32)) (gL g) = true) (K : GoK nm g ad ao am Q (15 * n) (2701 * n) i) : R g (mL_law nm) 1400 (15 * (n + 1)) (2701 * (n + 1)) 997 [(0, .ref (gb g)), (1, .ref (ad 0)), (2, .ref (am 0)), (3, .ref (ao 0)), (4, .int i)] [] (wlX g ad x0 x1 x2 x3 x4 x5 x6 x7 x8 x9 x10 x11 x12 x13 x14 x15 x16 x17 x18 x19 x20 x21 x22 x23 x24 x25 x26 x27 x28 x29 x30 x31 x32 x33 x34 x35 x36 x37 x38 x39 x40 x41 x42 x43 x44 x45 x46 x47 x48 x49 x50 x51 x52 x53 x54 x55 x56 x57 x58 x59 x60 x61 x62 x63 x64 x65 x66 x67 ++ (wlO g ao out ++ (wlM g am (ap 0) m0 m1 m2 m3 m4 m5 m6 m7 m8 m9 m10 m11 m12 m13 m14 m15 m16 m17 m18 m19 m20 m21 ++ (wlP g ap u0 u1 u2 u3 u4 u5 u6 u7 u8 u9 u10 u11 u12 u13 u14 u15 u16 u17 u18 ++ t)))) Q := by
  obtain ⟨o, b, hX, hM, hag, hrel⟩ := cs_doContradict  Rl out (gx g (i + (1 : Int32)).toNatClampNeg) (gx g (i + (2 : Int32)).toNatClampNeg)
  refine r_less (x := (15 * n + 0) + 2) (y := (2701 * n + 0) + 12) (by omega) (by omega) ?_
  refine r_aload_n 1 dL_law_997 rfl ?_
  refine r_aload_n 0 dL_law_998 rfl ?_
  refine r_iload 4 dL_law_999 rfl ?_
  refine r_iconst (v := (1 : Int32)) dL_law_1001 (by decide) ?_
  refine r_iadd dL_law_1002 ?_
  refine r_sld dL_law_1003 h1 ?_
  refine r_aload_n 0 dL_law_1004 rfl ?_
  refine r_iload 4 dL_law_1005 rfl ?_
  refine r_iconst (v := (2 : Int32)) dL_law_1007 (by decide) ?_
  refine r_iadd dL_law_1008 ?_
  refine r_sld dL_law_1009 h2 ?_
  refine r_aload_n 3 dL_law_1010 rfl ?_
  refine c_LW (rest := []) (15 * n + 0) (2701 * n + 0) dL_law_1011 kt_L_171 (ct_L_doContradict hX) rfl rfl (Nat.le_of_ble_eq_true rfl) (by decide) (by decide) ?_
  refine r_istore [(5, .int o.1), (0, .ref (gb g)), (1, .ref (ad 0)), (2, .ref (am 0)), (3, .ref (ao 0)), (4, .int i)] dL_law_1014 (Nat.le_of_ble_eq_true rfl) rfl ?_
  refine r_aload_n 3 dL_law_1016 rfl ?_
  refine r_aload_n 1 dL_law_1017 rfl ?_
  refine r_iload 5 dL_law_1018 rfl ?_
  refine r_iconst (v := (1 : Int32)) dL_law_1020 (by decide) ?_
  refine r_iadd dL_law_1021 ?_
  refine r_sld dL_law_1022 h1 ?_
  refine r_aload_n 1 dL_law_1023 rfl ?_
  refine r_iload 5 dL_law_1024 rfl ?_
  refine r_iconst (v := (2 : Int32)) dL_law_1026 (by decide) ?_
  refine r_iadd dL_law_1027 ?_
  refine r_sld dL_law_1028 h2 ?_
  refine r_perm (pmF _ _ _ _ _) ?_
  refine c_V (rest := []) (15 * n) (2701 * n) _ dL_law_1029 kv_L_173 (ct_M_doContradict hM) rfl rfl lM_0 rfl (Nat.le_of_ble_eq_true rfl) (by decide) (by decide) ?_
  refine r_istore [(6, .int b.1), (5, .int o.1), (0, .ref (gb g)), (1, .ref (ad 0)), (2, .ref (am 0)), (3, .ref (ao 0)), (4, .int i)] dL_law_1032 (Nat.le_of_ble_eq_true rfl) rfl ?_
  refine r_aload_n 4 dL_law_1034 rfl ?_
  refine c_V (rest := []) (15 * n) (2701 * n) _ dL_law_1035 kv_L_107 (ct_M_thrown rfl) rfl rfl lM_0 rfl (Nat.le_of_ble_eq_true rfl) (by decide) (by decide) ?_
  refine r_perm (pmF _ _ _ _ _) ?_
  refine r_iload 1 dL_law_1038 rfl ?_
  refine r_icmp_eq (tgt := 1045) dL_law_1040 (by decide) (fun _ => ?_) (fun hc => absurd hag.1 hc)
  refine r_iload 1 dL_law_1045 rfl ?_
  refine r_if_ne (tgt := 1069) dL_law_1047 (by decide) (fun hk => ?_) (fun hk => ?_)
  · refine r_goto (tgt := 2050) dL_law_1069 (by decide) ?_
    refine r_ls [2, 3, 4, 5, 6] (ls2 := [(0, .ref (gb g)), (1, .ref (ad 0)), (2, .ref (am 0)), (3, .ref (ao 0)), (4, .int i)]) rfl ?_
    exact K hrel
  · refine r_aload_n 5 dL_law_1050 rfl ?_
    refine r_iconst (v := (0 : Int32)) dL_law_1051 (by decide) ?_
    refine r_lald _ dL_law_1052 lO_0 (by decide) ?_
    refine r_iload 0 dL_law_1053 rfl ?_
    refine r_if_eq (tgt := 1062) dL_law_1055 (by decide) (fun hb => ?_) (fun hb => ?_)
    · refine r_lconst (v := (0 : Int64)) dL_law_1062 (by decide) ?_
      refine r_lcmp dL_law_1063 ?_
      refine r_if_eq (tgt := 1069) dL_law_1064 (by decide) (fun _ => ?_) (fun hc => absurd ((lg_cmp_0 _ _).mpr ((hag.2.2 hk).trans (if_pos hb))) hc)
      refine r_goto (tgt := 2050) dL_law_1069 (by decide) ?_
      refine r_ls [2, 3, 4, 5, 6] (ls2 := [(0, .ref (gb g)), (1, .ref (ad 0)), (2, .ref (am 0)), (3, .ref (ao 0)), (4, .int i)]) rfl ?_
      exact K hrel
    · refine r_lconst (v := (1 : Int64)) dL_law_1058 (by decide) ?_
      refine r_goto (tgt := 1063) dL_law_1059 (by decide) ?_
      refine r_lcmp dL_law_1063 ?_
      refine r_if_eq (tgt := 1069) dL_law_1064 (by decide) (fun _ => ?_) (fun hc => absurd ((lg_cmp_0 _ _).mpr ((hag.2.2 hk).trans (if_neg hb))) hc)
      refine r_goto (tgt := 2050) dL_law_1069 (by decide) ?_
      refine r_ls [2, 3, 4, 5, 6] (ls2 := [(0, .ref (gb g)), (1, .ref (ad 0)), (2, .ref (am 0)), (3, .ref (ao 0)), (4, .int i)]) rfl ?_
      exact K hrel
set_option maxRecDepth 20000 in
set_option maxHeartbeats 4000000 in
theorem law_19 {nm : String} {g : GG} {ad ao am ap : Nat → Nat} {x0 x1 : Int32} {x2 : Nat → Int32} {x3 x4 x5 : Int32} {x6 x7 x8 x9 x10 : Nat → Int32} {x11 x12 : Int32} {x13 x14 x15 x16 x17 : Nat → Int32} {x18 x19 x20 : Int32} {x21 x22 x23 : Nat → Int32} {x24 x25 x26 x27 x28 x29 x30 x31 : Int32} {x32 : Int64} {x33 x34 x35 : Nat → Int32} {x36 : Nat → Int64} {x37 : Int32} {x38 : Nat → Int64} {x39 x40 x41 : Int32} {x42 x43 x44 x45 x46 : Nat → Int32} {x47 x48 : Int32} {x49 x50 x51 x52 x53 : Nat → Int32} {x54 : Int32} {x55 : Nat → Int64} {x56 : Int32} {x57 : Nat → Int64} {x58 x59 x60 x61 : Int32} {x62 : Nat → Int32} {x63 x64 x65 x66 : Int32} {x67 : Nat → Int32} {m0 m1 m2 m3 m4 m5 m6 m7 m8 m9 m10 m11 m12 : Int32} {m13 m14 m15 m16 : Nat → Int32} {m17 : Nat → Int64} {m18 m19 m20 m21 : Nat → Int32} {u0 u1 u2 u3 u4 : Int32} {u5 u6 : Nat → Int64} {u7 u8 u9 u10 u11 u12 u13 u14 u15 u16 u17 u18 : Nat → Int32} {out : Nat → Int64} {t : va_W} {Q : Rs → va_W → Prop} {n : Nat} {i : Int32} (Rl : Rel x0 x1 x2 x3 x4 x5 x6 x7 x8 x9 x10 x11 x13 x14 x15 x16 x17 x18 x19 x20 x21 x37 x38 x59 x60 x61 m1 m2 m6 m7 m8 m9 m10 m11 m12 m13 m19 u0 u1 u2 u3 u7 u8 u9 u10 u11 u12 u13 u14 u15 u16 u17 u18) (h1 : ib (i + (1 : Int32)) (gL g) = true) (h2 : ib (i + (2 : Int32)) (gL g) = true) (K : GoK nm g ad ao am Q (15 * n) (2701 * n) i) : R g (mL_law nm) 1400 (15 * (n + 1)) (2701 * (n + 1)) 1072 [(0, .ref (gb g)), (1, .ref (ad 0)), (2, .ref (am 0)), (3, .ref (ao 0)), (4, .int i)] [] (wlX g ad x0 x1 x2 x3 x4 x5 x6 x7 x8 x9 x10 x11 x12 x13 x14 x15 x16 x17 x18 x19 x20 x21 x22 x23 x24 x25 x26 x27 x28 x29 x30 x31 x32 x33 x34 x35 x36 x37 x38 x39 x40 x41 x42 x43 x44 x45 x46 x47 x48 x49 x50 x51 x52 x53 x54 x55 x56 x57 x58 x59 x60 x61 x62 x63 x64 x65 x66 x67 ++ (wlO g ao out ++ (wlM g am (ap 0) m0 m1 m2 m3 m4 m5 m6 m7 m8 m9 m10 m11 m12 m13 m14 m15 m16 m17 m18 m19 m20 m21 ++ (wlP g ap u0 u1 u2 u3 u4 u5 u6 u7 u8 u9 u10 u11 u12 u13 u14 u15 u16 u17 u18 ++ t)))) Q := by
  obtain ⟨o, b, hX, hM, hag, hrel⟩ := cs_contraryPairs (hN1 := (by decide : 5000 < 6000)) (hN2 := (by decide : 5000 < 6000)) Rl out (gx g (i + (1 : Int32)).toNatClampNeg) (gx g (i + (2 : Int32)).toNatClampNeg)
  refine r_less (x := (15 * n + 0) + 2) (y := (2701 * n + 0) + 12) (by omega) (by omega) ?_
  refine r_aload_n 1 dL_law_1072 rfl ?_
  refine r_aload_n 0 dL_law_1073 rfl ?_
  refine r_iload 4 dL_law_1074 rfl ?_
  refine r_iconst (v := (1 : Int32)) dL_law_1076 (by decide) ?_
  refine r_iadd dL_law_1077 ?_
  refine r_sld dL_law_1078 h1 ?_
  refine r_aload_n 0 dL_law_1079 rfl ?_
  refine r_iload 4 dL_law_1080 rfl ?_
  refine r_iconst (v := (2 : Int32)) dL_law_1082 (by decide) ?_
  refine r_iadd dL_law_1083 ?_
  refine r_sld dL_law_1084 h2 ?_
  refine r_aload_n 3 dL_law_1085 rfl ?_
  refine c_LW (rest := []) (15 * n + 0) (2701 * n + 0) dL_law_1086 kt_L_174 (ct_L_contraryPairs hX) rfl rfl (Nat.le_of_ble_eq_true rfl) (by decide) (by decide) ?_
  refine r_istore [(5, .int o.1), (0, .ref (gb g)), (1, .ref (ad 0)), (2, .ref (am 0)), (3, .ref (ao 0)), (4, .int i)] dL_law_1089 (Nat.le_of_ble_eq_true rfl) rfl ?_
  refine r_aload_n 3 dL_law_1091 rfl ?_
  refine r_aload_n 1 dL_law_1092 rfl ?_
  refine r_iload 5 dL_law_1093 rfl ?_
  refine r_iconst (v := (1 : Int32)) dL_law_1095 (by decide) ?_
  refine r_iadd dL_law_1096 ?_
  refine r_sld dL_law_1097 h1 ?_
  refine r_aload_n 1 dL_law_1098 rfl ?_
  refine r_iload 5 dL_law_1099 rfl ?_
  refine r_iconst (v := (2 : Int32)) dL_law_1101 (by decide) ?_
  refine r_iadd dL_law_1102 ?_
  refine r_sld dL_law_1103 h2 ?_
  refine r_perm (pmF _ _ _ _ _) ?_
  refine c_V (rest := []) (15 * n) (2701 * n) _ dL_law_1104 kv_L_176 (ct_M_contraryPairs hM) rfl rfl lM_0 rfl (Nat.le_of_ble_eq_true rfl) (by decide) (by decide) ?_
  refine r_istore [(6, .int b.1), (5, .int o.1), (0, .ref (gb g)), (1, .ref (ad 0)), (2, .ref (am 0)), (3, .ref (ao 0)), (4, .int i)] dL_law_1107 (Nat.le_of_ble_eq_true rfl) rfl ?_
  refine r_aload_n 4 dL_law_1109 rfl ?_
  refine c_V (rest := []) (15 * n) (2701 * n) _ dL_law_1110 kv_L_107 (ct_M_thrown rfl) rfl rfl lM_0 rfl (Nat.le_of_ble_eq_true rfl) (by decide) (by decide) ?_
  refine r_perm (pmF _ _ _ _ _) ?_
  refine r_iload 1 dL_law_1113 rfl ?_
  refine r_icmp_eq (tgt := 1120) dL_law_1115 (by decide) (fun _ => ?_) (fun hc => absurd hag.1 hc)
  refine r_iload 1 dL_law_1120 rfl ?_
  refine r_if_ne (tgt := 1137) dL_law_1122 (by decide) (fun hk => ?_) (fun hk => ?_)
  · refine r_goto (tgt := 2050) dL_law_1137 (by decide) ?_
    refine r_ls [2, 3, 4, 5, 6] (ls2 := [(0, .ref (gb g)), (1, .ref (ad 0)), (2, .ref (am 0)), (3, .ref (ao 0)), (4, .int i)]) rfl ?_
    exact K hrel
  · refine r_aload_n 5 dL_law_1125 rfl ?_
    refine r_iconst (v := (0 : Int32)) dL_law_1126 (by decide) ?_
    refine r_lald _ dL_law_1127 lO_0 (by decide) ?_
    refine r_iload 0 dL_law_1128 rfl ?_
    refine r_i2l dL_law_1130 ?_
    refine r_lcmp dL_law_1131 ?_
    refine r_if_eq (tgt := 1137) dL_law_1132 (by decide) (fun _ => ?_) (fun hc => absurd ((lg_cmp_0 _ _).mpr (hag.2 hk)) hc)
    refine r_goto (tgt := 2050) dL_law_1137 (by decide) ?_
    refine r_ls [2, 3, 4, 5, 6] (ls2 := [(0, .ref (gb g)), (1, .ref (ad 0)), (2, .ref (am 0)), (3, .ref (ao 0)), (4, .int i)]) rfl ?_
    exact K hrel
