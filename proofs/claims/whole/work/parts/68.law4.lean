/-! the law's cases -/
set_option maxRecDepth 20000 in
set_option maxHeartbeats 4000000 in
theorem law_30 {nm : String} {g : GG} {ad ao am ap : Nat → Nat} {x0 x1 : Int32} {x2 : Nat → Int32} {x3 x4 x5 : Int32} {x6 x7 x8 x9 x10 : Nat → Int32} {x11 x12 : Int32} {x13 x14 x15 x16 x17 : Nat → Int32} {x18 x19 x20 : Int32} {x21 x22 x23 : Nat → Int32} {x24 x25 x26 x27 x28 x29 x30 x31 : Int32} {x32 : Int64} {x33 x34 x35 : Nat → Int32} {x36 : Nat → Int64} {x37 : Int32} {x38 : Nat → Int64} {x39 x40 x41 : Int32} {x42 x43 x44 x45 x46 : Nat → Int32} {x47 x48 : Int32} {x49 x50 x51 x52 x53 : Nat → Int32} {x54 : Int32} {x55 : Nat → Int64} {x56 : Int32} {x57 : Nat → Int64} {x58 x59 x60 x61 : Int32} {x62 : Nat → Int32} {x63 x64 x65 x66 : Int32} {x67 : Nat → Int32} {m0 m1 m2 m3 m4 m5 m6 m7 m8 m9 m10 m11 m12 : Int32} {m13 m14 m15 m16 : Nat → Int32} {m17 : Nat → Int64} {m18 m19 m20 m21 : Nat → Int32} {u0 u1 u2 u3 u4 : Int32} {u5 u6 : Nat → Int64} {u7 u8 u9 u10 u11 u12 u13 u14 u15 u16 u17 u18 : Nat → Int32} {out : Nat → Int64} {t : va_W} {Q : Rs → va_W → Prop} {n : Nat} {i : Int32} (Rl : Rel x0 x1 x2 x3 x4 x5 x6 x7 x8 x9 x10 x11 x13 x14 x15 x16 x17 x18 x19 x20 x21 x37 x38 x59 x60 x61 m1 m2 m6 m7 m8 m9 m10 m11 m12 m13 m19 u0 u1 u2 u3 u7 u8 u9 u10 u11 u12 u13 u14 u15 u16 u17 u18) (h1 : ib (i + (1 : Int32)) (gL g) = true) (h2 : ib (i + (2 : Int32)) (gL g) = true) (h3 : ib (i + (3 : Int32)) (gL g) = true) (K : GoK nm g ad ao am Q (15 * n) (2701 * n) i) : R g (mL_law nm) 1400 (15 * (n + 1)) (2701 * (n + 1)) 1578 [(0, .ref (gb g)), (1, .ref (ad 0)), (2, .ref (am 0)), (3, .ref (ao 0)), (4, .int i)] [] (wlX g ad x0 x1 x2 x3 x4 x5 x6 x7 x8 x9 x10 x11 x12 x13 x14 x15 x16 x17 x18 x19 x20 x21 x22 x23 x24 x25 x26 x27 x28 x29 x30 x31 x32 x33 x34 x35 x36 x37 x38 x39 x40 x41 x42 x43 x44 x45 x46 x47 x48 x49 x50 x51 x52 x53 x54 x55 x56 x57 x58 x59 x60 x61 x62 x63 x64 x65 x66 x67 ++ (wlO g ao out ++ (wlM g am (ap 0) m0 m1 m2 m3 m4 m5 m6 m7 m8 m9 m10 m11 m12 m13 m14 m15 m16 m17 m18 m19 m20 m21 ++ (wlP g ap u0 u1 u2 u3 u4 u5 u6 u7 u8 u9 u10 u11 u12 u13 u14 u15 u16 u17 u18 ++ t)))) Q := by
  obtain ⟨o, b, hX, hM, hag, hrel⟩ := cs_claimBefore (hN1 := (by decide : 5000 < 6000)) (hN2 := (by decide : 5000 < 6000)) Rl out (gx g (i + (1 : Int32)).toNatClampNeg) (gx g (i + (2 : Int32)).toNatClampNeg) (gx g (i + (3 : Int32)).toNatClampNeg)
  refine r_less (x := (15 * n + 0) + 5) (y := (2701 * n + 0) + 30) (by omega) (by omega) ?_
  refine r_aload_n 1 dL_law_1578 rfl ?_
  refine r_aload_n 0 dL_law_1579 rfl ?_
  refine r_iload 4 dL_law_1580 rfl ?_
  refine r_iconst (v := (1 : Int32)) dL_law_1582 (by decide) ?_
  refine r_iadd dL_law_1583 ?_
  refine r_sld dL_law_1584 h1 ?_
  refine r_aload_n 0 dL_law_1585 rfl ?_
  refine r_iload 4 dL_law_1586 rfl ?_
  refine r_iconst (v := (2 : Int32)) dL_law_1588 (by decide) ?_
  refine r_iadd dL_law_1589 ?_
  refine r_sld dL_law_1590 h2 ?_
  refine r_aload_n 0 dL_law_1591 rfl ?_
  refine r_iload 4 dL_law_1592 rfl ?_
  refine r_iconst (v := (3 : Int32)) dL_law_1594 (by decide) ?_
  refine r_iadd dL_law_1595 ?_
  refine r_sld dL_law_1596 h3 ?_
  refine r_aload_n 3 dL_law_1597 rfl ?_
  refine c_LW (rest := []) (15 * n + 0) (2701 * n + 0) dL_law_1598 kt_L_213 (ct_L_claimBefore hX) rfl rfl (Nat.le_of_ble_eq_true rfl) (by decide) (by decide) ?_
  refine r_istore [(5, .int o.1), (0, .ref (gb g)), (1, .ref (ad 0)), (2, .ref (am 0)), (3, .ref (ao 0)), (4, .int i)] dL_law_1601 (Nat.le_of_ble_eq_true rfl) rfl ?_
  refine r_aload_n 3 dL_law_1603 rfl ?_
  refine r_aload_n 1 dL_law_1604 rfl ?_
  refine r_iload 5 dL_law_1605 rfl ?_
  refine r_iconst (v := (1 : Int32)) dL_law_1607 (by decide) ?_
  refine r_iadd dL_law_1608 ?_
  refine r_sld dL_law_1609 h1 ?_
  refine r_aload_n 1 dL_law_1610 rfl ?_
  refine r_iload 5 dL_law_1611 rfl ?_
  refine r_iconst (v := (2 : Int32)) dL_law_1613 (by decide) ?_
  refine r_iadd dL_law_1614 ?_
  refine r_sld dL_law_1615 h2 ?_
  refine r_aload_n 1 dL_law_1616 rfl ?_
  refine r_iload 5 dL_law_1617 rfl ?_
  refine r_iconst (v := (3 : Int32)) dL_law_1619 (by decide) ?_
  refine r_iadd dL_law_1620 ?_
  refine r_sld dL_law_1621 h3 ?_
  refine r_perm (pmF _ _ _ _ _) ?_
  refine c_V (rest := []) (15 * n) (2701 * n) _ dL_law_1622 kv_L_216 (ct_M_claimBefore hM) rfl rfl lM_0 rfl (Nat.le_of_ble_eq_true rfl) (by decide) (by decide) ?_
  refine r_istore [(6, .int b.1), (5, .int o.1), (0, .ref (gb g)), (1, .ref (ad 0)), (2, .ref (am 0)), (3, .ref (ao 0)), (4, .int i)] dL_law_1625 (Nat.le_of_ble_eq_true rfl) rfl ?_
  refine r_aload_n 4 dL_law_1627 rfl ?_
  refine c_V (rest := []) (15 * n) (2701 * n) _ dL_law_1628 kv_L_107 (ct_M_thrown rfl) rfl rfl lM_0 rfl (Nat.le_of_ble_eq_true rfl) (by decide) (by decide) ?_
  refine r_perm (pmF _ _ _ _ _) ?_
  refine r_iload 1 dL_law_1631 rfl ?_
  refine r_icmp_eq (tgt := 1638) dL_law_1633 (by decide) (fun _ => ?_) (fun hc => absurd hag.1 hc)
  refine r_iload 1 dL_law_1638 rfl ?_
  refine r_if_ne (tgt := 1655) dL_law_1640 (by decide) (fun hk => ?_) (fun hk => ?_)
  · refine r_goto (tgt := 2050) dL_law_1655 (by decide) ?_
    refine r_ls [2, 3, 4, 5, 6] (ls2 := [(0, .ref (gb g)), (1, .ref (ad 0)), (2, .ref (am 0)), (3, .ref (ao 0)), (4, .int i)]) rfl ?_
    exact K hrel
  · refine r_aload_n 5 dL_law_1643 rfl ?_
    refine r_iconst (v := (0 : Int32)) dL_law_1644 (by decide) ?_
    refine r_lald _ dL_law_1645 lO_0 (by decide) ?_
    refine r_iload 0 dL_law_1646 rfl ?_
    refine r_i2l dL_law_1648 ?_
    refine r_lcmp dL_law_1649 ?_
    refine r_if_eq (tgt := 1655) dL_law_1650 (by decide) (fun _ => ?_) (fun hc => absurd ((lg_cmp_0 _ _).mpr (hag.2 hk)) hc)
    refine r_goto (tgt := 2050) dL_law_1655 (by decide) ?_
    refine r_ls [2, 3, 4, 5, 6] (ls2 := [(0, .ref (gb g)), (1, .ref (ad 0)), (2, .ref (am 0)), (3, .ref (ao 0)), (4, .int i)]) rfl ?_
    exact K hrel
set_option maxRecDepth 20000 in
set_option maxHeartbeats 4000000 in
theorem law_31 {nm : String} {g : GG} {ad ao am ap : Nat → Nat} {x0 x1 : Int32} {x2 : Nat → Int32} {x3 x4 x5 : Int32} {x6 x7 x8 x9 x10 : Nat → Int32} {x11 x12 : Int32} {x13 x14 x15 x16 x17 : Nat → Int32} {x18 x19 x20 : Int32} {x21 x22 x23 : Nat → Int32} {x24 x25 x26 x27 x28 x29 x30 x31 : Int32} {x32 : Int64} {x33 x34 x35 : Nat → Int32} {x36 : Nat → Int64} {x37 : Int32} {x38 : Nat → Int64} {x39 x40 x41 : Int32} {x42 x43 x44 x45 x46 : Nat → Int32} {x47 x48 : Int32} {x49 x50 x51 x52 x53 : Nat → Int32} {x54 : Int32} {x55 : Nat → Int64} {x56 : Int32} {x57 : Nat → Int64} {x58 x59 x60 x61 : Int32} {x62 : Nat → Int32} {x63 x64 x65 x66 : Int32} {x67 : Nat → Int32} {m0 m1 m2 m3 m4 m5 m6 m7 m8 m9 m10 m11 m12 : Int32} {m13 m14 m15 m16 : Nat → Int32} {m17 : Nat → Int64} {m18 m19 m20 m21 : Nat → Int32} {u0 u1 u2 u3 u4 : Int32} {u5 u6 : Nat → Int64} {u7 u8 u9 u10 u11 u12 u13 u14 u15 u16 u17 u18 : Nat → Int32} {out : Nat → Int64} {t : va_W} {Q : Rs → va_W → Prop} {n : Nat} {i : Int32} (Rl : Rel x0 x1 x2 x3 x4 x5 x6 x7 x8 x9 x10 x11 x13 x14 x15 x16 x17 x18 x19 x20 x21 x37 x38 x59 x60 x61 m1 m2 m6 m7 m8 m9 m10 m11 m12 m13 m19 u0 u1 u2 u3 u7 u8 u9 u10 u11 u12 u13 u14 u15 u16 u17 u18) (h1 : ib (i + (1 : Int32)) (gL g) = true) (h2 : ib (i + (2 : Int32)) (gL g) = true) (h3 : ib (i + (3 : Int32)) (gL g) = true) (K : GoK nm g ad ao am Q (15 * n) (2701 * n) i) : R g (mL_law nm) 1400 (15 * (n + 1)) (2701 * (n + 1)) 1658 [(0, .ref (gb g)), (1, .ref (ad 0)), (2, .ref (am 0)), (3, .ref (ao 0)), (4, .int i)] [] (wlX g ad x0 x1 x2 x3 x4 x5 x6 x7 x8 x9 x10 x11 x12 x13 x14 x15 x16 x17 x18 x19 x20 x21 x22 x23 x24 x25 x26 x27 x28 x29 x30 x31 x32 x33 x34 x35 x36 x37 x38 x39 x40 x41 x42 x43 x44 x45 x46 x47 x48 x49 x50 x51 x52 x53 x54 x55 x56 x57 x58 x59 x60 x61 x62 x63 x64 x65 x66 x67 ++ (wlO g ao out ++ (wlM g am (ap 0) m0 m1 m2 m3 m4 m5 m6 m7 m8 m9 m10 m11 m12 m13 m14 m15 m16 m17 m18 m19 m20 m21 ++ (wlP g ap u0 u1 u2 u3 u4 u5 u6 u7 u8 u9 u10 u11 u12 u13 u14 u15 u16 u17 u18 ++ t)))) Q := by
  obtain ⟨o, b, hX, hM, hag, hrel⟩ := cs_claimTogether (hN1 := (by decide : 5000 < 6000)) (hN2 := (by decide : 5000 < 6000)) Rl out (gx g (i + (1 : Int32)).toNatClampNeg) (gx g (i + (2 : Int32)).toNatClampNeg) (gx g (i + (3 : Int32)).toNatClampNeg)
  refine r_less (x := (15 * n + 0) + 5) (y := (2701 * n + 0) + 30) (by omega) (by omega) ?_
  refine r_aload_n 1 dL_law_1658 rfl ?_
  refine r_aload_n 0 dL_law_1659 rfl ?_
  refine r_iload 4 dL_law_1660 rfl ?_
  refine r_iconst (v := (1 : Int32)) dL_law_1662 (by decide) ?_
  refine r_iadd dL_law_1663 ?_
  refine r_sld dL_law_1664 h1 ?_
  refine r_aload_n 0 dL_law_1665 rfl ?_
  refine r_iload 4 dL_law_1666 rfl ?_
  refine r_iconst (v := (2 : Int32)) dL_law_1668 (by decide) ?_
  refine r_iadd dL_law_1669 ?_
  refine r_sld dL_law_1670 h2 ?_
  refine r_aload_n 0 dL_law_1671 rfl ?_
  refine r_iload 4 dL_law_1672 rfl ?_
  refine r_iconst (v := (3 : Int32)) dL_law_1674 (by decide) ?_
  refine r_iadd dL_law_1675 ?_
  refine r_sld dL_law_1676 h3 ?_
  refine r_aload_n 3 dL_law_1677 rfl ?_
  refine c_LW (rest := []) (15 * n + 0) (2701 * n + 0) dL_law_1678 kt_L_217 (ct_L_claimTogether hX) rfl rfl (Nat.le_of_ble_eq_true rfl) (by decide) (by decide) ?_
  refine r_istore [(5, .int o.1), (0, .ref (gb g)), (1, .ref (ad 0)), (2, .ref (am 0)), (3, .ref (ao 0)), (4, .int i)] dL_law_1681 (Nat.le_of_ble_eq_true rfl) rfl ?_
  refine r_aload_n 3 dL_law_1683 rfl ?_
  refine r_aload_n 1 dL_law_1684 rfl ?_
  refine r_iload 5 dL_law_1685 rfl ?_
  refine r_iconst (v := (1 : Int32)) dL_law_1687 (by decide) ?_
  refine r_iadd dL_law_1688 ?_
  refine r_sld dL_law_1689 h1 ?_
  refine r_aload_n 1 dL_law_1690 rfl ?_
  refine r_iload 5 dL_law_1691 rfl ?_
  refine r_iconst (v := (2 : Int32)) dL_law_1693 (by decide) ?_
  refine r_iadd dL_law_1694 ?_
  refine r_sld dL_law_1695 h2 ?_
  refine r_aload_n 1 dL_law_1696 rfl ?_
  refine r_iload 5 dL_law_1697 rfl ?_
  refine r_iconst (v := (3 : Int32)) dL_law_1699 (by decide) ?_
  refine r_iadd dL_law_1700 ?_
  refine r_sld dL_law_1701 h3 ?_
  refine r_perm (pmF _ _ _ _ _) ?_
  refine c_V (rest := []) (15 * n) (2701 * n) _ dL_law_1702 kv_L_219 (ct_M_claimTogether hM) rfl rfl lM_0 rfl (Nat.le_of_ble_eq_true rfl) (by decide) (by decide) ?_
  refine r_istore [(6, .int b.1), (5, .int o.1), (0, .ref (gb g)), (1, .ref (ad 0)), (2, .ref (am 0)), (3, .ref (ao 0)), (4, .int i)] dL_law_1705 (Nat.le_of_ble_eq_true rfl) rfl ?_
  refine r_aload_n 4 dL_law_1707 rfl ?_
  refine c_V (rest := []) (15 * n) (2701 * n) _ dL_law_1708 kv_L_107 (ct_M_thrown rfl) rfl rfl lM_0 rfl (Nat.le_of_ble_eq_true rfl) (by decide) (by decide) ?_
  refine r_perm (pmF _ _ _ _ _) ?_
  refine r_iload 1 dL_law_1711 rfl ?_
  refine r_icmp_eq (tgt := 1718) dL_law_1713 (by decide) (fun _ => ?_) (fun hc => absurd hag.1 hc)
  refine r_iload 1 dL_law_1718 rfl ?_
  refine r_if_ne (tgt := 1735) dL_law_1720 (by decide) (fun hk => ?_) (fun hk => ?_)
  · refine r_goto (tgt := 2050) dL_law_1735 (by decide) ?_
    refine r_ls [2, 3, 4, 5, 6] (ls2 := [(0, .ref (gb g)), (1, .ref (ad 0)), (2, .ref (am 0)), (3, .ref (ao 0)), (4, .int i)]) rfl ?_
    exact K hrel
  · refine r_aload_n 5 dL_law_1723 rfl ?_
    refine r_iconst (v := (0 : Int32)) dL_law_1724 (by decide) ?_
    refine r_lald _ dL_law_1725 lO_0 (by decide) ?_
    refine r_iload 0 dL_law_1726 rfl ?_
    refine r_i2l dL_law_1728 ?_
    refine r_lcmp dL_law_1729 ?_
    refine r_if_eq (tgt := 1735) dL_law_1730 (by decide) (fun _ => ?_) (fun hc => absurd ((lg_cmp_0 _ _).mpr (hag.2 hk)) hc)
    refine r_goto (tgt := 2050) dL_law_1735 (by decide) ?_
    refine r_ls [2, 3, 4, 5, 6] (ls2 := [(0, .ref (gb g)), (1, .ref (ad 0)), (2, .ref (am 0)), (3, .ref (ao 0)), (4, .int i)]) rfl ?_
    exact K hrel
set_option maxRecDepth 20000 in
set_option maxHeartbeats 4000000 in
theorem law_32 {nm : String} {g : GG} {ad ao am ap : Nat → Nat} {x0 x1 : Int32} {x2 : Nat → Int32} {x3 x4 x5 : Int32} {x6 x7 x8 x9 x10 : Nat → Int32} {x11 x12 : Int32} {x13 x14 x15 x16 x17 : Nat → Int32} {x18 x19 x20 : Int32} {x21 x22 x23 : Nat → Int32} {x24 x25 x26 x27 x28 x29 x30 x31 : Int32} {x32 : Int64} {x33 x34 x35 : Nat → Int32} {x36 : Nat → Int64} {x37 : Int32} {x38 : Nat → Int64} {x39 x40 x41 : Int32} {x42 x43 x44 x45 x46 : Nat → Int32} {x47 x48 : Int32} {x49 x50 x51 x52 x53 : Nat → Int32} {x54 : Int32} {x55 : Nat → Int64} {x56 : Int32} {x57 : Nat → Int64} {x58 x59 x60 x61 : Int32} {x62 : Nat → Int32} {x63 x64 x65 x66 : Int32} {x67 : Nat → Int32} {m0 m1 m2 m3 m4 m5 m6 m7 m8 m9 m10 m11 m12 : Int32} {m13 m14 m15 m16 : Nat → Int32} {m17 : Nat → Int64} {m18 m19 m20 m21 : Nat → Int32} {u0 u1 u2 u3 u4 : Int32} {u5 u6 : Nat → Int64} {u7 u8 u9 u10 u11 u12 u13 u14 u15 u16 u17 u18 : Nat → Int32} {out : Nat → Int64} {t : va_W} {Q : Rs → va_W → Prop} {n : Nat} {i : Int32} (Rl : Rel x0 x1 x2 x3 x4 x5 x6 x7 x8 x9 x10 x11 x13 x14 x15 x16 x17 x18 x19 x20 x21 x37 x38 x59 x60 x61 m1 m2 m6 m7 m8 m9 m10 m11 m12 m13 m19 u0 u1 u2 u3 u7 u8 u9 u10 u11 u12 u13 u14 u15 u16 u17 u18) (h1 : ib (i + (1 : Int32)) (gL g) = true) (K : GoK nm g ad ao am Q (15 * n) (2701 * n) i) : R g (mL_law nm) 1400 (15 * (n + 1)) (2701 * (n + 1)) 1738 [(0, .ref (gb g)), (1, .ref (ad 0)), (2, .ref (am 0)), (3, .ref (ao 0)), (4, .int i)] [] (wlX g ad x0 x1 x2 x3 x4 x5 x6 x7 x8 x9 x10 x11 x12 x13 x14 x15 x16 x17 x18 x19 x20 x21 x22 x23 x24 x25 x26 x27 x28 x29 x30 x31 x32 x33 x34 x35 x36 x37 x38 x39 x40 x41 x42 x43 x44 x45 x46 x47 x48 x49 x50 x51 x52 x53 x54 x55 x56 x57 x58 x59 x60 x61 x62 x63 x64 x65 x66 x67 ++ (wlO g ao out ++ (wlM g am (ap 0) m0 m1 m2 m3 m4 m5 m6 m7 m8 m9 m10 m11 m12 m13 m14 m15 m16 m17 m18 m19 m20 m21 ++ (wlP g ap u0 u1 u2 u3 u4 u5 u6 u7 u8 u9 u10 u11 u12 u13 u14 u15 u16 u17 u18 ++ t)))) Q := by
  obtain ⟨o, b, hX, hM, hag, hrel⟩ := cs_takeBack (hN1 := (by decide : 5000 < 6000)) (hN2 := (by decide : 5000 < 6000)) Rl out (gx g (i + (1 : Int32)).toNatClampNeg)
  refine r_less (x := (15 * n + 0) + 1) (y := (2701 * n + 0) + 6) (by omega) (by omega) ?_
  refine r_aload_n 1 dL_law_1738 rfl ?_
  refine r_aload_n 0 dL_law_1739 rfl ?_
  refine r_iload 4 dL_law_1740 rfl ?_
  refine r_iconst (v := (1 : Int32)) dL_law_1742 (by decide) ?_
  refine r_iadd dL_law_1743 ?_
  refine r_sld dL_law_1744 h1 ?_
  refine r_aload_n 3 dL_law_1745 rfl ?_
  refine c_LW (rest := []) (15 * n + 0) (2701 * n + 0) dL_law_1746 kt_L_220 (ct_L_takeBack hX) rfl rfl (Nat.le_of_ble_eq_true rfl) (by decide) (by decide) ?_
  refine r_istore [(5, .int o.1), (0, .ref (gb g)), (1, .ref (ad 0)), (2, .ref (am 0)), (3, .ref (ao 0)), (4, .int i)] dL_law_1749 (Nat.le_of_ble_eq_true rfl) rfl ?_
  refine r_aload_n 3 dL_law_1751 rfl ?_
  refine r_aload_n 1 dL_law_1752 rfl ?_
  refine r_iload 5 dL_law_1753 rfl ?_
  refine r_iconst (v := (1 : Int32)) dL_law_1755 (by decide) ?_
  refine r_iadd dL_law_1756 ?_
  refine r_sld dL_law_1757 h1 ?_
  refine r_perm (pmF _ _ _ _ _) ?_
  refine c_V (rest := []) (15 * n) (2701 * n) _ dL_law_1758 kv_L_222 (ct_M_takeBack hM) rfl rfl lM_0 rfl (Nat.le_of_ble_eq_true rfl) (by decide) (by decide) ?_
  refine r_istore [(6, .int b.1), (5, .int o.1), (0, .ref (gb g)), (1, .ref (ad 0)), (2, .ref (am 0)), (3, .ref (ao 0)), (4, .int i)] dL_law_1761 (Nat.le_of_ble_eq_true rfl) rfl ?_
  refine r_aload_n 4 dL_law_1763 rfl ?_
  refine c_V (rest := []) (15 * n) (2701 * n) _ dL_law_1764 kv_L_107 (ct_M_thrown rfl) rfl rfl lM_0 rfl (Nat.le_of_ble_eq_true rfl) (by decide) (by decide) ?_
  refine r_perm (pmF _ _ _ _ _) ?_
  refine r_iload 1 dL_law_1767 rfl ?_
  refine r_icmp_eq (tgt := 1774) dL_law_1769 (by decide) (fun _ => ?_) (fun hc => absurd hag.1 hc)
  refine r_iload 1 dL_law_1774 rfl ?_
  refine r_if_ne (tgt := 1791) dL_law_1776 (by decide) (fun hk => ?_) (fun hk => ?_)
  · refine r_goto (tgt := 2050) dL_law_1791 (by decide) ?_
    refine r_ls [2, 3, 4, 5, 6] (ls2 := [(0, .ref (gb g)), (1, .ref (ad 0)), (2, .ref (am 0)), (3, .ref (ao 0)), (4, .int i)]) rfl ?_
    exact K hrel
  · refine r_aload_n 5 dL_law_1779 rfl ?_
    refine r_iconst (v := (0 : Int32)) dL_law_1780 (by decide) ?_
    refine r_lald _ dL_law_1781 lO_0 (by decide) ?_
    refine r_iload 0 dL_law_1782 rfl ?_
    refine r_i2l dL_law_1784 ?_
    refine r_lcmp dL_law_1785 ?_
    refine r_if_eq (tgt := 1791) dL_law_1786 (by decide) (fun _ => ?_) (fun hc => absurd ((lg_cmp_0 _ _).mpr (hag.2 hk)) hc)
    refine r_goto (tgt := 2050) dL_law_1791 (by decide) ?_
    refine r_ls [2, 3, 4, 5, 6] (ls2 := [(0, .ref (gb g)), (1, .ref (ad 0)), (2, .ref (am 0)), (3, .ref (ao 0)), (4, .int i)]) rfl ?_
    exact K hrel
set_option maxRecDepth 20000 in
set_option maxHeartbeats 4000000 in
theorem law_33 {nm : String} {g : GG} {ad ao am ap : Nat → Nat} {x0 x1 : Int32} {x2 : Nat → Int32} {x3 x4 x5 : Int32} {x6 x7 x8 x9 x10 : Nat → Int32} {x11 x12 : Int32} {x13 x14 x15 x16 x17 : Nat → Int32} {x18 x19 x20 : Int32} {x21 x22 x23 : Nat → Int32} {x24 x25 x26 x27 x28 x29 x30 x31 : Int32} {x32 : Int64} {x33 x34 x35 : Nat → Int32} {x36 : Nat → Int64} {x37 : Int32} {x38 : Nat → Int64} {x39 x40 x41 : Int32} {x42 x43 x44 x45 x46 : Nat → Int32} {x47 x48 : Int32} {x49 x50 x51 x52 x53 : Nat → Int32} {x54 : Int32} {x55 : Nat → Int64} {x56 : Int32} {x57 : Nat → Int64} {x58 x59 x60 x61 : Int32} {x62 : Nat → Int32} {x63 x64 x65 x66 : Int32} {x67 : Nat → Int32} {m0 m1 m2 m3 m4 m5 m6 m7 m8 m9 m10 m11 m12 : Int32} {m13 m14 m15 m16 : Nat → Int32} {m17 : Nat → Int64} {m18 m19 m20 m21 : Nat → Int32} {u0 u1 u2 u3 u4 : Int32} {u5 u6 : Nat → Int64} {u7 u8 u9 u10 u11 u12 u13 u14 u15 u16 u17 u18 : Nat → Int32} {out : Nat → Int64} {t : va_W} {Q : Rs → va_W → Prop} {n : Nat} {i : Int32} (Rl : Rel x0 x1 x2 x3 x4 x5 x6 x7 x8 x9 x10 x11 x13 x14 x15 x16 x17 x18 x19 x20 x21 x37 x38 x59 x60 x61 m1 m2 m6 m7 m8 m9 m10 m11 m12 m13 m19 u0 u1 u2 u3 u7 u8 u9 u10 u11 u12 u13 u14 u15 u16 u17 u18) (h1 : ib (i + (1 : Int32)) (gL g) = true) (K : GoK nm g ad ao am Q (15 * n) (2701 * n) i) : R g (mL_law nm) 1400 (15 * (n + 1)) (2701 * (n + 1)) 1794 [(0, .ref (gb g)), (1, .ref (ad 0)), (2, .ref (am 0)), (3, .ref (ao 0)), (4, .int i)] [] (wlX g ad x0 x1 x2 x3 x4 x5 x6 x7 x8 x9 x10 x11 x12 x13 x14 x15 x16 x17 x18 x19 x20 x21 x22 x23 x24 x25 x26 x27 x28 x29 x30 x31 x32 x33 x34 x35 x36 x37 x38 x39 x40 x41 x42 x43 x44 x45 x46 x47 x48 x49 x50 x51 x52 x53 x54 x55 x56 x57 x58 x59 x60 x61 x62 x63 x64 x65 x66 x67 ++ (wlO g ao out ++ (wlM g am (ap 0) m0 m1 m2 m3 m4 m5 m6 m7 m8 m9 m10 m11 m12 m13 m14 m15 m16 m17 m18 m19 m20 m21 ++ (wlP g ap u0 u1 u2 u3 u4 u5 u6 u7 u8 u9 u10 u11 u12 u13 u14 u15 u16 u17 u18 ++ t)))) Q := by
  obtain ⟨o, b, hX, hM, hag, hrel⟩ := cs_turnDoubt  Rl out (gx g (i + (1 : Int32)).toNatClampNeg)
  refine r_less (x := (15 * n + 0) + 1) (y := (2701 * n + 0) + 6) (by omega) (by omega) ?_
  refine r_aload_n 1 dL_law_1794 rfl ?_
  refine r_aload_n 0 dL_law_1795 rfl ?_
  refine r_iload 4 dL_law_1796 rfl ?_
  refine r_iconst (v := (1 : Int32)) dL_law_1798 (by decide) ?_
  refine r_iadd dL_law_1799 ?_
  refine r_sld dL_law_1800 h1 ?_
  refine r_aload_n 3 dL_law_1801 rfl ?_
  refine c_LW (rest := []) (15 * n + 0) (2701 * n + 0) dL_law_1802 kt_L_223 (ct_L_turnDoubt hX) rfl rfl (Nat.le_of_ble_eq_true rfl) (by decide) (by decide) ?_
  refine r_istore [(5, .int o.1), (0, .ref (gb g)), (1, .ref (ad 0)), (2, .ref (am 0)), (3, .ref (ao 0)), (4, .int i)] dL_law_1805 (Nat.le_of_ble_eq_true rfl) rfl ?_
  refine r_aload_n 3 dL_law_1807 rfl ?_
  refine r_aload_n 1 dL_law_1808 rfl ?_
  refine r_iload 5 dL_law_1809 rfl ?_
  refine r_iconst (v := (1 : Int32)) dL_law_1811 (by decide) ?_
  refine r_iadd dL_law_1812 ?_
  refine r_sld dL_law_1813 h1 ?_
  refine r_perm (pmF _ _ _ _ _) ?_
  refine c_V (rest := []) (15 * n) (2701 * n) _ dL_law_1814 kv_L_225 (ct_M_turnDoubt hM) rfl rfl lM_0 rfl (Nat.le_of_ble_eq_true rfl) (by decide) (by decide) ?_
  refine r_istore [(6, .int b.1), (5, .int o.1), (0, .ref (gb g)), (1, .ref (ad 0)), (2, .ref (am 0)), (3, .ref (ao 0)), (4, .int i)] dL_law_1817 (Nat.le_of_ble_eq_true rfl) rfl ?_
  refine r_aload_n 4 dL_law_1819 rfl ?_
  refine c_V (rest := []) (15 * n) (2701 * n) _ dL_law_1820 kv_L_107 (ct_M_thrown rfl) rfl rfl lM_0 rfl (Nat.le_of_ble_eq_true rfl) (by decide) (by decide) ?_
  refine r_perm (pmF _ _ _ _ _) ?_
  refine r_iload 1 dL_law_1823 rfl ?_
  refine r_icmp_eq (tgt := 1830) dL_law_1825 (by decide) (fun _ => ?_) (fun hc => absurd hag.1 hc)
  refine r_iload 1 dL_law_1830 rfl ?_
  refine r_if_ne (tgt := 1854) dL_law_1832 (by decide) (fun hk => ?_) (fun hk => ?_)
  · refine r_goto (tgt := 2050) dL_law_1854 (by decide) ?_
    refine r_ls [2, 3, 4, 5, 6] (ls2 := [(0, .ref (gb g)), (1, .ref (ad 0)), (2, .ref (am 0)), (3, .ref (ao 0)), (4, .int i)]) rfl ?_
    exact K hrel
  · refine r_aload_n 5 dL_law_1835 rfl ?_
    refine r_iconst (v := (0 : Int32)) dL_law_1836 (by decide) ?_
    refine r_lald _ dL_law_1837 lO_0 (by decide) ?_
    refine r_iload 0 dL_law_1838 rfl ?_
    refine r_if_eq (tgt := 1847) dL_law_1840 (by decide) (fun hb => ?_) (fun hb => ?_)
    · refine r_lconst (v := (0 : Int64)) dL_law_1847 (by decide) ?_
      refine r_lcmp dL_law_1848 ?_
      refine r_if_eq (tgt := 1854) dL_law_1849 (by decide) (fun _ => ?_) (fun hc => absurd ((lg_cmp_0 _ _).mpr ((hag.2.2 hk).trans (if_pos hb))) hc)
      refine r_goto (tgt := 2050) dL_law_1854 (by decide) ?_
      refine r_ls [2, 3, 4, 5, 6] (ls2 := [(0, .ref (gb g)), (1, .ref (ad 0)), (2, .ref (am 0)), (3, .ref (ao 0)), (4, .int i)]) rfl ?_
      exact K hrel
    · refine r_lconst (v := (1 : Int64)) dL_law_1843 (by decide) ?_
      refine r_goto (tgt := 1848) dL_law_1844 (by decide) ?_
      refine r_lcmp dL_law_1848 ?_
      refine r_if_eq (tgt := 1854) dL_law_1849 (by decide) (fun _ => ?_) (fun hc => absurd ((lg_cmp_0 _ _).mpr ((hag.2.2 hk).trans (if_neg hb))) hc)
      refine r_goto (tgt := 2050) dL_law_1854 (by decide) ?_
      refine r_ls [2, 3, 4, 5, 6] (ls2 := [(0, .ref (gb g)), (1, .ref (ad 0)), (2, .ref (am 0)), (3, .ref (ao 0)), (4, .int i)]) rfl ?_
      exact K hrel
set_option maxRecDepth 20000 in
set_option maxHeartbeats 4000000 in
theorem law_34 {nm : String} {g : GG} {ad ao am ap : Nat → Nat} {x0 x1 : Int32} {x2 : Nat → Int32} {x3 x4 x5 : Int32} {x6 x7 x8 x9 x10 : Nat → Int32} {x11 x12 : Int32} {x13 x14 x15 x16 x17 : Nat → Int32} {x18 x19 x20 : Int32} {x21 x22 x23 : Nat → Int32} {x24 x25 x26 x27 x28 x29 x30 x31 : Int32} {x32 : Int64} {x33 x34 x35 : Nat → Int32} {x36 : Nat → Int64} {x37 : Int32} {x38 : Nat → Int64} {x39 x40 x41 : Int32} {x42 x43 x44 x45 x46 : Nat → Int32} {x47 x48 : Int32} {x49 x50 x51 x52 x53 : Nat → Int32} {x54 : Int32} {x55 : Nat → Int64} {x56 : Int32} {x57 : Nat → Int64} {x58 x59 x60 x61 : Int32} {x62 : Nat → Int32} {x63 x64 x65 x66 : Int32} {x67 : Nat → Int32} {m0 m1 m2 m3 m4 m5 m6 m7 m8 m9 m10 m11 m12 : Int32} {m13 m14 m15 m16 : Nat → Int32} {m17 : Nat → Int64} {m18 m19 m20 m21 : Nat → Int32} {u0 u1 u2 u3 u4 : Int32} {u5 u6 : Nat → Int64} {u7 u8 u9 u10 u11 u12 u13 u14 u15 u16 u17 u18 : Nat → Int32} {out : Nat → Int64} {t : va_W} {Q : Rs → va_W → Prop} {n : Nat} {i : Int32} (Rl : Rel x0 x1 x2 x3 x4 x5 x6 x7 x8 x9 x10 x11 x13 x14 x15 x16 x17 x18 x19 x20 x21 x37 x38 x59 x60 x61 m1 m2 m6 m7 m8 m9 m10 m11 m12 m13 m19 u0 u1 u2 u3 u7 u8 u9 u10 u11 u12 u13 u14 u15 u16 u17 u18) (h1 : ib (i + (1 : Int32)) (gL g) = true) (K : GoK nm g ad ao am Q (15 * n) (2701 * n) i) : R g (mL_law nm) 1400 (15 * (n + 1)) (2701 * (n + 1)) 1857 [(0, .ref (gb g)), (1, .ref (ad 0)), (2, .ref (am 0)), (3, .ref (ao 0)), (4, .int i)] [] (wlX g ad x0 x1 x2 x3 x4 x5 x6 x7 x8 x9 x10 x11 x12 x13 x14 x15 x16 x17 x18 x19 x20 x21 x22 x23 x24 x25 x26 x27 x28 x29 x30 x31 x32 x33 x34 x35 x36 x37 x38 x39 x40 x41 x42 x43 x44 x45 x46 x47 x48 x49 x50 x51 x52 x53 x54 x55 x56 x57 x58 x59 x60 x61 x62 x63 x64 x65 x66 x67 ++ (wlO g ao out ++ (wlM g am (ap 0) m0 m1 m2 m3 m4 m5 m6 m7 m8 m9 m10 m11 m12 m13 m14 m15 m16 m17 m18 m19 m20 m21 ++ (wlP g ap u0 u1 u2 u3 u4 u5 u6 u7 u8 u9 u10 u11 u12 u13 u14 u15 u16 u17 u18 ++ t)))) Q := by
  obtain ⟨o, b, hX, hM, hag, hrel⟩ := cs_passEvenings (hN1 := (by decide : 5000 < 6000)) (hN2 := (by decide : 5000 < 6000)) Rl out (gx g (i + (1 : Int32)).toNatClampNeg)
  refine r_less (x := (15 * n + 0) + 1) (y := (2701 * n + 0) + 6) (by omega) (by omega) ?_
  refine r_aload_n 1 dL_law_1857 rfl ?_
  refine r_aload_n 0 dL_law_1858 rfl ?_
  refine r_iload 4 dL_law_1859 rfl ?_
  refine r_iconst (v := (1 : Int32)) dL_law_1861 (by decide) ?_
  refine r_iadd dL_law_1862 ?_
  refine r_sld dL_law_1863 h1 ?_
  refine r_aload_n 3 dL_law_1864 rfl ?_
  refine c_LW (rest := []) (15 * n + 0) (2701 * n + 0) dL_law_1865 kt_L_226 (ct_L_passEvenings hX) rfl rfl (Nat.le_of_ble_eq_true rfl) (by decide) (by decide) ?_
  refine r_istore [(5, .int o.1), (0, .ref (gb g)), (1, .ref (ad 0)), (2, .ref (am 0)), (3, .ref (ao 0)), (4, .int i)] dL_law_1868 (Nat.le_of_ble_eq_true rfl) rfl ?_
  refine r_aload_n 3 dL_law_1870 rfl ?_
  refine r_aload_n 1 dL_law_1871 rfl ?_
  refine r_iload 5 dL_law_1872 rfl ?_
  refine r_iconst (v := (1 : Int32)) dL_law_1874 (by decide) ?_
  refine r_iadd dL_law_1875 ?_
  refine r_sld dL_law_1876 h1 ?_
  refine r_perm (pmF _ _ _ _ _) ?_
  refine c_V (rest := []) (15 * n) (2701 * n) _ dL_law_1877 kv_L_228 (ct_M_passEvenings hM) rfl rfl lM_0 rfl (Nat.le_of_ble_eq_true rfl) (by decide) (by decide) ?_
  refine r_istore [(6, .int b.1), (5, .int o.1), (0, .ref (gb g)), (1, .ref (ad 0)), (2, .ref (am 0)), (3, .ref (ao 0)), (4, .int i)] dL_law_1880 (Nat.le_of_ble_eq_true rfl) rfl ?_
  refine r_aload_n 4 dL_law_1882 rfl ?_
  refine c_V (rest := []) (15 * n) (2701 * n) _ dL_law_1883 kv_L_107 (ct_M_thrown rfl) rfl rfl lM_0 rfl (Nat.le_of_ble_eq_true rfl) (by decide) (by decide) ?_
  refine r_perm (pmF _ _ _ _ _) ?_
  refine r_iload 1 dL_law_1886 rfl ?_
  refine r_icmp_eq (tgt := 1893) dL_law_1888 (by decide) (fun _ => ?_) (fun hc => absurd hag.1 hc)
  refine r_iload 1 dL_law_1893 rfl ?_
  refine r_if_ne (tgt := 1910) dL_law_1895 (by decide) (fun hk => ?_) (fun hk => ?_)
  · refine r_goto (tgt := 2050) dL_law_1910 (by decide) ?_
    refine r_ls [2, 3, 4, 5, 6] (ls2 := [(0, .ref (gb g)), (1, .ref (ad 0)), (2, .ref (am 0)), (3, .ref (ao 0)), (4, .int i)]) rfl ?_
    exact K hrel
  · refine r_aload_n 5 dL_law_1898 rfl ?_
    refine r_iconst (v := (0 : Int32)) dL_law_1899 (by decide) ?_
    refine r_lald _ dL_law_1900 lO_0 (by decide) ?_
    refine r_iload 0 dL_law_1901 rfl ?_
    refine r_i2l dL_law_1903 ?_
    refine r_lcmp dL_law_1904 ?_
    refine r_if_eq (tgt := 1910) dL_law_1905 (by decide) (fun _ => ?_) (fun hc => absurd ((lg_cmp_0 _ _).mpr (hag.2 hk)) hc)
    refine r_goto (tgt := 2050) dL_law_1910 (by decide) ?_
    refine r_ls [2, 3, 4, 5, 6] (ls2 := [(0, .ref (gb g)), (1, .ref (ad 0)), (2, .ref (am 0)), (3, .ref (ao 0)), (4, .int i)]) rfl ?_
    exact K hrel
set_option maxRecDepth 20000 in
set_option maxHeartbeats 4000000 in
theorem law_35 {nm : String} {g : GG} {ad ao am ap : Nat → Nat} {x0 x1 : Int32} {x2 : Nat → Int32} {x3 x4 x5 : Int32} {x6 x7 x8 x9 x10 : Nat → Int32} {x11 x12 : Int32} {x13 x14 x15 x16 x17 : Nat → Int32} {x18 x19 x20 : Int32} {x21 x22 x23 : Nat → Int32} {x24 x25 x26 x27 x28 x29 x30 x31 : Int32} {x32 : Int64} {x33 x34 x35 : Nat → Int32} {x36 : Nat → Int64} {x37 : Int32} {x38 : Nat → Int64} {x39 x40 x41 : Int32} {x42 x43 x44 x45 x46 : Nat → Int32} {x47 x48 : Int32} {x49 x50 x51 x52 x53 : Nat → Int32} {x54 : Int32} {x55 : Nat → Int64} {x56 : Int32} {x57 : Nat → Int64} {x58 x59 x60 x61 : Int32} {x62 : Nat → Int32} {x63 x64 x65 x66 : Int32} {x67 : Nat → Int32} {m0 m1 m2 m3 m4 m5 m6 m7 m8 m9 m10 m11 m12 : Int32} {m13 m14 m15 m16 : Nat → Int32} {m17 : Nat → Int64} {m18 m19 m20 m21 : Nat → Int32} {u0 u1 u2 u3 u4 : Int32} {u5 u6 : Nat → Int64} {u7 u8 u9 u10 u11 u12 u13 u14 u15 u16 u17 u18 : Nat → Int32} {out : Nat → Int64} {t : va_W} {Q : Rs → va_W → Prop} {n : Nat} {i : Int32} (Rl : Rel x0 x1 x2 x3 x4 x5 x6 x7 x8 x9 x10 x11 x13 x14 x15 x16 x17 x18 x19 x20 x21 x37 x38 x59 x60 x61 m1 m2 m6 m7 m8 m9 m10 m11 m12 m13 m19 u0 u1 u2 u3 u7 u8 u9 u10 u11 u12 u13 u14 u15 u16 u17 u18) (h1 : ib (i + (1 : Int32)) (gL g) = true) (K : GoK nm g ad ao am Q (15 * n) (2701 * n) i) : R g (mL_law nm) 1400 (15 * (n + 1)) (2701 * (n + 1)) 1913 [(0, .ref (gb g)), (1, .ref (ad 0)), (2, .ref (am 0)), (3, .ref (ao 0)), (4, .int i)] [] (wlX g ad x0 x1 x2 x3 x4 x5 x6 x7 x8 x9 x10 x11 x12 x13 x14 x15 x16 x17 x18 x19 x20 x21 x22 x23 x24 x25 x26 x27 x28 x29 x30 x31 x32 x33 x34 x35 x36 x37 x38 x39 x40 x41 x42 x43 x44 x45 x46 x47 x48 x49 x50 x51 x52 x53 x54 x55 x56 x57 x58 x59 x60 x61 x62 x63 x64 x65 x66 x67 ++ (wlO g ao out ++ (wlM g am (ap 0) m0 m1 m2 m3 m4 m5 m6 m7 m8 m9 m10 m11 m12 m13 m14 m15 m16 m17 m18 m19 m20 m21 ++ (wlP g ap u0 u1 u2 u3 u4 u5 u6 u7 u8 u9 u10 u11 u12 u13 u14 u15 u16 u17 u18 ++ t)))) Q := by
  obtain ⟨o, b, hX, hM, hag, hrel⟩ := cs_liarsAfter (hN1 := (by decide : 5000 < 6000)) (hN2 := (by decide : 5000 < 6000)) Rl out (gx g (i + (1 : Int32)).toNatClampNeg)
  refine r_less (x := (15 * n + 1) + 1) (y := (2701 * n + 3) + 6) (by omega) (by omega) ?_
  refine r_aload_n 1 dL_law_1913 rfl ?_
  refine r_aload_n 0 dL_law_1914 rfl ?_
  refine r_iload 4 dL_law_1915 rfl ?_
  refine r_iconst (v := (1 : Int32)) dL_law_1917 (by decide) ?_
  refine r_iadd dL_law_1918 ?_
  refine r_sld dL_law_1919 h1 ?_
  refine r_aload_n 3 dL_law_1920 rfl ?_
  refine c_LW (rest := []) (15 * n + 1) (2701 * n + 3) dL_law_1921 kt_L_229 (ct_L_liarsAfter hX) rfl rfl (Nat.le_of_ble_eq_true rfl) (by decide) (by decide) ?_
  refine r_istore [(5, .int o.1), (0, .ref (gb g)), (1, .ref (ad 0)), (2, .ref (am 0)), (3, .ref (ao 0)), (4, .int i)] dL_law_1924 (Nat.le_of_ble_eq_true rfl) rfl ?_
  refine r_aload_n 3 dL_law_1926 rfl ?_
  refine r_aload_n 1 dL_law_1927 rfl ?_
  refine r_iload 5 dL_law_1928 rfl ?_
  refine r_iconst (v := (1 : Int32)) dL_law_1930 (by decide) ?_
  refine r_iadd dL_law_1931 ?_
  refine r_sld dL_law_1932 h1 ?_
  refine r_perm (pmF _ _ _ _ _) ?_
  refine c_La (rest := []) (15 * n) (2701 * n) _ dL_law_1933 kv_L_231 (ct_M_liarsAfter hM) rfl rfl lM_0 rfl (Nat.le_of_ble_eq_true rfl) (by decide) (by decide) (fun t2 => ?_)
  refine r_istore [(6, .int b.1), (5, .int o.1), (0, .ref (gb g)), (1, .ref (ad 0)), (2, .ref (am 0)), (3, .ref (ao 0)), (4, .int i)] dL_law_1936 (Nat.le_of_ble_eq_true rfl) rfl ?_
  refine r_aload_n 4 dL_law_1938 rfl ?_
  refine c_V (rest := []) (15 * n) (2701 * n) _ dL_law_1939 kv_L_107 (ct_M_thrown rfl) rfl rfl lM_0 rfl (Nat.le_of_ble_eq_true rfl) (by decide) (by decide) ?_
  refine r_perm (pmG _ _ _ _ _ _) ?_
  refine r_iload 1 dL_law_1942 rfl ?_
  refine r_icmp_eq (tgt := 1949) dL_law_1944 (by decide) (fun _ => ?_) (fun hc => absurd hag.1 hc)
  refine r_iload 1 dL_law_1949 rfl ?_
  refine r_if_ne (tgt := 1966) dL_law_1951 (by decide) (fun hk => ?_) (fun hk => ?_)
  · refine r_goto (tgt := 2050) dL_law_1966 (by decide) ?_
    refine r_ls [2, 3, 4, 5, 6] (ls2 := [(0, .ref (gb g)), (1, .ref (ad 0)), (2, .ref (am 0)), (3, .ref (ao 0)), (4, .int i)]) rfl ?_
    exact K hrel
  · refine r_aload_n 5 dL_law_1954 rfl ?_
    refine r_iconst (v := (0 : Int32)) dL_law_1955 (by decide) ?_
    refine r_lald _ dL_law_1956 lO_0 (by decide) ?_
    refine r_iload 0 dL_law_1957 rfl ?_
    refine r_i2l dL_law_1959 ?_
    refine r_lcmp dL_law_1960 ?_
    refine r_if_eq (tgt := 1966) dL_law_1961 (by decide) (fun _ => ?_) (fun hc => absurd ((lg_cmp_0 _ _).mpr (hag.2 hk)) hc)
    refine r_goto (tgt := 2050) dL_law_1966 (by decide) ?_
    refine r_ls [2, 3, 4, 5, 6] (ls2 := [(0, .ref (gb g)), (1, .ref (ad 0)), (2, .ref (am 0)), (3, .ref (ao 0)), (4, .int i)]) rfl ?_
    exact K hrel
set_option maxRecDepth 20000 in
set_option maxHeartbeats 4000000 in
theorem law_36 {nm : String} {g : GG} {ad ao am ap : Nat → Nat} {x0 x1 : Int32} {x2 : Nat → Int32} {x3 x4 x5 : Int32} {x6 x7 x8 x9 x10 : Nat → Int32} {x11 x12 : Int32} {x13 x14 x15 x16 x17 : Nat → Int32} {x18 x19 x20 : Int32} {x21 x22 x23 : Nat → Int32} {x24 x25 x26 x27 x28 x29 x30 x31 : Int32} {x32 : Int64} {x33 x34 x35 : Nat → Int32} {x36 : Nat → Int64} {x37 : Int32} {x38 : Nat → Int64} {x39 x40 x41 : Int32} {x42 x43 x44 x45 x46 : Nat → Int32} {x47 x48 : Int32} {x49 x50 x51 x52 x53 : Nat → Int32} {x54 : Int32} {x55 : Nat → Int64} {x56 : Int32} {x57 : Nat → Int64} {x58 x59 x60 x61 : Int32} {x62 : Nat → Int32} {x63 x64 x65 x66 : Int32} {x67 : Nat → Int32} {m0 m1 m2 m3 m4 m5 m6 m7 m8 m9 m10 m11 m12 : Int32} {m13 m14 m15 m16 : Nat → Int32} {m17 : Nat → Int64} {m18 m19 m20 m21 : Nat → Int32} {u0 u1 u2 u3 u4 : Int32} {u5 u6 : Nat → Int64} {u7 u8 u9 u10 u11 u12 u13 u14 u15 u16 u17 u18 : Nat → Int32} {out : Nat → Int64} {t : va_W} {Q : Rs → va_W → Prop} {n : Nat} {i : Int32} (Rl : Rel x0 x1 x2 x3 x4 x5 x6 x7 x8 x9 x10 x11 x13 x14 x15 x16 x17 x18 x19 x20 x21 x37 x38 x59 x60 x61 m1 m2 m6 m7 m8 m9 m10 m11 m12 m13 m19 u0 u1 u2 u3 u7 u8 u9 u10 u11 u12 u13 u14 u15 u16 u17 u18)  (K : GoK nm g ad ao am Q (15 * n) (2701 * n) i) : R g (mL_law nm) 1400 (15 * (n + 1)) (2701 * (n + 1)) 1969 [(0, .ref (gb g)), (1, .ref (ad 0)), (2, .ref (am 0)), (3, .ref (ao 0)), (4, .int i)] [] (wlX g ad x0 x1 x2 x3 x4 x5 x6 x7 x8 x9 x10 x11 x12 x13 x14 x15 x16 x17 x18 x19 x20 x21 x22 x23 x24 x25 x26 x27 x28 x29 x30 x31 x32 x33 x34 x35 x36 x37 x38 x39 x40 x41 x42 x43 x44 x45 x46 x47 x48 x49 x50 x51 x52 x53 x54 x55 x56 x57 x58 x59 x60 x61 x62 x63 x64 x65 x66 x67 ++ (wlO g ao out ++ (wlM g am (ap 0) m0 m1 m2 m3 m4 m5 m6 m7 m8 m9 m10 m11 m12 m13 m14 m15 m16 m17 m18 m19 m20 m21 ++ (wlP g ap u0 u1 u2 u3 u4 u5 u6 u7 u8 u9 u10 u11 u12 u13 u14 u15 u16 u17 u18 ++ t)))) Q := by
  obtain ⟨o, b, hX, hM, hag, hrel⟩ := cs_eveningsUntilOneStory (hN1 := (by decide : 5000 < 6000)) (hN2 := (by decide : 5000 < 6000)) Rl
  refine r_less (x := (15 * n + 1) + 0) (y := (2701 * n + 3) + 0) (by omega) (by omega) ?_
  refine r_aload_n 1 dL_law_1969 rfl ?_
  refine c_V (rest := []) (15 * n + 1) (2701 * n + 3) _ dL_law_1970 kv_L_232 (ct_Main_eveningsUntilOneStory hX) rfl rfl lX_0 rfl (Nat.le_of_ble_eq_true rfl) (by decide) (by decide) ?_
  refine r_aload_n 2 dL_law_1973 rfl ?_
  refine r_perm (pmF _ _ _ _ _) ?_
  refine c_La (rest := [.int o.1]) (15 * n) (2701 * n) _ dL_law_1974 kv_L_235 (ct_M_eveningsUntilOneStory hM) rfl rfl lM_0 rfl (Nat.le_of_ble_eq_true rfl) (by decide) (by decide) (fun t2 => ?_)
  refine r_perm (pmG _ _ _ _ _ _) ?_
  refine r_icmp_eq (tgt := 2050) dL_law_1977 (by decide) (fun _ => ?_) (fun hc => absurd hag hc)
  refine r_ls [0, 1, 2, 3, 4] (ls2 := [(0, .ref (gb g)), (1, .ref (ad 0)), (2, .ref (am 0)), (3, .ref (ao 0)), (4, .int i)]) rfl ?_
  exact K hrel
set_option maxRecDepth 20000 in
set_option maxHeartbeats 4000000 in
theorem law_37 {nm : String} {g : GG} {ad ao am ap : Nat → Nat} {x0 x1 : Int32} {x2 : Nat → Int32} {x3 x4 x5 : Int32} {x6 x7 x8 x9 x10 : Nat → Int32} {x11 x12 : Int32} {x13 x14 x15 x16 x17 : Nat → Int32} {x18 x19 x20 : Int32} {x21 x22 x23 : Nat → Int32} {x24 x25 x26 x27 x28 x29 x30 x31 : Int32} {x32 : Int64} {x33 x34 x35 : Nat → Int32} {x36 : Nat → Int64} {x37 : Int32} {x38 : Nat → Int64} {x39 x40 x41 : Int32} {x42 x43 x44 x45 x46 : Nat → Int32} {x47 x48 : Int32} {x49 x50 x51 x52 x53 : Nat → Int32} {x54 : Int32} {x55 : Nat → Int64} {x56 : Int32} {x57 : Nat → Int64} {x58 x59 x60 x61 : Int32} {x62 : Nat → Int32} {x63 x64 x65 x66 : Int32} {x67 : Nat → Int32} {m0 m1 m2 m3 m4 m5 m6 m7 m8 m9 m10 m11 m12 : Int32} {m13 m14 m15 m16 : Nat → Int32} {m17 : Nat → Int64} {m18 m19 m20 m21 : Nat → Int32} {u0 u1 u2 u3 u4 : Int32} {u5 u6 : Nat → Int64} {u7 u8 u9 u10 u11 u12 u13 u14 u15 u16 u17 u18 : Nat → Int32} {out : Nat → Int64} {t : va_W} {Q : Rs → va_W → Prop} {n : Nat} {i : Int32} (Rl : Rel x0 x1 x2 x3 x4 x5 x6 x7 x8 x9 x10 x11 x13 x14 x15 x16 x17 x18 x19 x20 x21 x37 x38 x59 x60 x61 m1 m2 m6 m7 m8 m9 m10 m11 m12 m13 m19 u0 u1 u2 u3 u7 u8 u9 u10 u11 u12 u13 u14 u15 u16 u17 u18)  (K : GoK nm g ad ao am Q (15 * n) (2701 * n) i) : R g (mL_law nm) 1400 (15 * (n + 1)) (2701 * (n + 1)) 1982 [(0, .ref (gb g)), (1, .ref (ad 0)), (2, .ref (am 0)), (3, .ref (ao 0)), (4, .int i)] [] (wlX g ad x0 x1 x2 x3 x4 x5 x6 x7 x8 x9 x10 x11 x12 x13 x14 x15 x16 x17 x18 x19 x20 x21 x22 x23 x24 x25 x26 x27 x28 x29 x30 x31 x32 x33 x34 x35 x36 x37 x38 x39 x40 x41 x42 x43 x44 x45 x46 x47 x48 x49 x50 x51 x52 x53 x54 x55 x56 x57 x58 x59 x60 x61 x62 x63 x64 x65 x66 x67 ++ (wlO g ao out ++ (wlM g am (ap 0) m0 m1 m2 m3 m4 m5 m6 m7 m8 m9 m10 m11 m12 m13 m14 m15 m16 m17 m18 m19 m20 m21 ++ (wlP g ap u0 u1 u2 u3 u4 u5 u6 u7 u8 u9 u10 u11 u12 u13 u14 u15 u16 u17 u18 ++ t)))) Q := by
  obtain ⟨o, b, hX, hM, hag, hrel⟩ := cs_bestToDoubt (hN1 := (by decide : 5000 < 6000)) (hN2 := (by decide : 5000 < 6000)) Rl
  refine r_less (x := (15 * n + 0) + 0) (y := (2701 * n + 0) + 0) (by omega) (by omega) ?_
  refine r_aload_n 1 dL_law_1982 rfl ?_
  refine c_V (rest := []) (15 * n + 0) (2701 * n + 0) _ dL_law_1983 kv_L_236 (ct_Main_bestToDoubt hX) rfl rfl lX_0 rfl (Nat.le_of_ble_eq_true rfl) (by decide) (by decide) ?_
  refine r_aload_n 2 dL_law_1986 rfl ?_
  refine r_perm (pmF _ _ _ _ _) ?_
  refine c_V (rest := [.int o]) (15 * n) (2701 * n) _ dL_law_1987 kv_L_239 (ct_M_bestToDoubt hM) rfl rfl lM_0 rfl (Nat.le_of_ble_eq_true rfl) (by decide) (by decide) ?_
  refine r_perm (pmF _ _ _ _ _) ?_
  refine r_icmp_eq (tgt := 2050) dL_law_1990 (by decide) (fun _ => ?_) (fun hc => absurd hag hc)
  refine r_ls [0, 1, 2, 3, 4] (ls2 := [(0, .ref (gb g)), (1, .ref (ad 0)), (2, .ref (am 0)), (3, .ref (ao 0)), (4, .int i)]) rfl ?_
  exact K hrel
set_option maxRecDepth 20000 in
set_option maxHeartbeats 4000000 in
theorem law_38 {nm : String} {g : GG} {ad ao am ap : Nat → Nat} {x0 x1 : Int32} {x2 : Nat → Int32} {x3 x4 x5 : Int32} {x6 x7 x8 x9 x10 : Nat → Int32} {x11 x12 : Int32} {x13 x14 x15 x16 x17 : Nat → Int32} {x18 x19 x20 : Int32} {x21 x22 x23 : Nat → Int32} {x24 x25 x26 x27 x28 x29 x30 x31 : Int32} {x32 : Int64} {x33 x34 x35 : Nat → Int32} {x36 : Nat → Int64} {x37 : Int32} {x38 : Nat → Int64} {x39 x40 x41 : Int32} {x42 x43 x44 x45 x46 : Nat → Int32} {x47 x48 : Int32} {x49 x50 x51 x52 x53 : Nat → Int32} {x54 : Int32} {x55 : Nat → Int64} {x56 : Int32} {x57 : Nat → Int64} {x58 x59 x60 x61 : Int32} {x62 : Nat → Int32} {x63 x64 x65 x66 : Int32} {x67 : Nat → Int32} {m0 m1 m2 m3 m4 m5 m6 m7 m8 m9 m10 m11 m12 : Int32} {m13 m14 m15 m16 : Nat → Int32} {m17 : Nat → Int64} {m18 m19 m20 m21 : Nat → Int32} {u0 u1 u2 u3 u4 : Int32} {u5 u6 : Nat → Int64} {u7 u8 u9 u10 u11 u12 u13 u14 u15 u16 u17 u18 : Nat → Int32} {out : Nat → Int64} {t : va_W} {Q : Rs → va_W → Prop} {n : Nat} {i : Int32} (Rl : Rel x0 x1 x2 x3 x4 x5 x6 x7 x8 x9 x10 x11 x13 x14 x15 x16 x17 x18 x19 x20 x21 x37 x38 x59 x60 x61 m1 m2 m6 m7 m8 m9 m10 m11 m12 m13 m19 u0 u1 u2 u3 u7 u8 u9 u10 u11 u12 u13 u14 u15 u16 u17 u18)  (K : GoK nm g ad ao am Q (15 * n) (2701 * n) i) : R g (mL_law nm) 1400 (15 * (n + 1)) (2701 * (n + 1)) 1995 [(0, .ref (gb g)), (1, .ref (ad 0)), (2, .ref (am 0)), (3, .ref (ao 0)), (4, .int i)] [] (wlX g ad x0 x1 x2 x3 x4 x5 x6 x7 x8 x9 x10 x11 x12 x13 x14 x15 x16 x17 x18 x19 x20 x21 x22 x23 x24 x25 x26 x27 x28 x29 x30 x31 x32 x33 x34 x35 x36 x37 x38 x39 x40 x41 x42 x43 x44 x45 x46 x47 x48 x49 x50 x51 x52 x53 x54 x55 x56 x57 x58 x59 x60 x61 x62 x63 x64 x65 x66 x67 ++ (wlO g ao out ++ (wlM g am (ap 0) m0 m1 m2 m3 m4 m5 m6 m7 m8 m9 m10 m11 m12 m13 m14 m15 m16 m17 m18 m19 m20 m21 ++ (wlP g ap u0 u1 u2 u3 u4 u5 u6 u7 u8 u9 u10 u11 u12 u13 u14 u15 u16 u17 u18 ++ t)))) Q := by
  obtain ⟨o, b, hX, hM, hag, hrel⟩ := cs_meanClaims  Rl
  refine r_less (x := (15 * n + 0) + 0) (y := (2701 * n + 0) + 0) (by omega) (by omega) ?_
  refine r_aload_n 1 dL_law_1995 rfl ?_
  refine c_V (rest := []) (15 * n + 0) (2701 * n + 0) _ dL_law_1996 kv_L_240 (ct_Main_meanClaims hX) rfl rfl lX_0 rfl (Nat.le_of_ble_eq_true rfl) (by decide) (by decide) ?_
  refine r_dstore [(5, .double o), (0, .ref (gb g)), (1, .ref (ad 0)), (2, .ref (am 0)), (3, .ref (ao 0)), (4, .int i)] dL_law_1999 (Nat.le_of_ble_eq_true rfl) rfl ?_
  refine r_aload_n 3 dL_law_2001 rfl ?_
  refine r_perm (pmF _ _ _ _ _) ?_
  refine c_V (rest := []) (15 * n) (2701 * n) _ dL_law_2002 kv_L_244 (ct_M_meanClaims hM) rfl rfl lM_0 rfl (Nat.le_of_ble_eq_true rfl) (by decide) (by decide) ?_
  refine r_perm (pmF _ _ _ _ _) ?_
  refine r_dstore [(7, .double b.1), (5, .double o), (0, .ref (gb g)), (1, .ref (ad 0)), (2, .ref (am 0)), (3, .ref (ao 0)), (4, .int i)] dL_law_2005 (Nat.le_of_ble_eq_true rfl) rfl ?_
  refine r_dload 1 dL_law_2007 rfl ?_
  refine r_dload 0 dL_law_2009 rfl ?_
  refine r_dcmp dL_law_2011 ?_
  refine r_if_eq (tgt := 2033) dL_law_2012 (by decide) (fun _ => ?_) (fun hc => ?_)
  · refine r_goto (tgt := 2050) dL_law_2033 (by decide) ?_
    refine r_ls [2, 3, 4, 5, 6] (ls2 := [(0, .ref (gb g)), (1, .ref (ad 0)), (2, .ref (am 0)), (3, .ref (ao 0)), (4, .int i)]) rfl ?_
    exact K hrel
  · refine r_dload 1 dL_law_2015 rfl ?_
    refine r_dload 1 dL_law_2017 rfl ?_
    refine r_dcmp dL_law_2019 ?_
    refine r_if_eq (tgt := 2031) dL_law_2020 (by decide) (fun h8 => absurd h8 (hag ▸ hc)) (fun _ => ?_)
    refine r_dload 0 dL_law_2023 rfl ?_
    refine r_dload 0 dL_law_2025 rfl ?_
    refine r_dcmp dL_law_2027 ?_
    refine r_if_ne (tgt := 2033) dL_law_2028 (by decide) (fun _ => ?_) (fun h8 => absurd h8 (hag ▸ hc))
    refine r_goto (tgt := 2050) dL_law_2033 (by decide) ?_
    refine r_ls [2, 3, 4, 5, 6] (ls2 := [(0, .ref (gb g)), (1, .ref (ad 0)), (2, .ref (am 0)), (3, .ref (ao 0)), (4, .int i)]) rfl ?_
    exact K hrel
set_option maxRecDepth 20000 in
set_option maxHeartbeats 4000000 in
theorem law_39 {nm : String} {g : GG} {ad ao am ap : Nat → Nat} {x0 x1 : Int32} {x2 : Nat → Int32} {x3 x4 x5 : Int32} {x6 x7 x8 x9 x10 : Nat → Int32} {x11 x12 : Int32} {x13 x14 x15 x16 x17 : Nat → Int32} {x18 x19 x20 : Int32} {x21 x22 x23 : Nat → Int32} {x24 x25 x26 x27 x28 x29 x30 x31 : Int32} {x32 : Int64} {x33 x34 x35 : Nat → Int32} {x36 : Nat → Int64} {x37 : Int32} {x38 : Nat → Int64} {x39 x40 x41 : Int32} {x42 x43 x44 x45 x46 : Nat → Int32} {x47 x48 : Int32} {x49 x50 x51 x52 x53 : Nat → Int32} {x54 : Int32} {x55 : Nat → Int64} {x56 : Int32} {x57 : Nat → Int64} {x58 x59 x60 x61 : Int32} {x62 : Nat → Int32} {x63 x64 x65 x66 : Int32} {x67 : Nat → Int32} {m0 m1 m2 m3 m4 m5 m6 m7 m8 m9 m10 m11 m12 : Int32} {m13 m14 m15 m16 : Nat → Int32} {m17 : Nat → Int64} {m18 m19 m20 m21 : Nat → Int32} {u0 u1 u2 u3 u4 : Int32} {u5 u6 : Nat → Int64} {u7 u8 u9 u10 u11 u12 u13 u14 u15 u16 u17 u18 : Nat → Int32} {out : Nat → Int64} {t : va_W} {Q : Rs → va_W → Prop} {n : Nat} {i : Int32} (Rl : Rel x0 x1 x2 x3 x4 x5 x6 x7 x8 x9 x10 x11 x13 x14 x15 x16 x17 x18 x19 x20 x21 x37 x38 x59 x60 x61 m1 m2 m6 m7 m8 m9 m10 m11 m12 m13 m19 u0 u1 u2 u3 u7 u8 u9 u10 u11 u12 u13 u14 u15 u16 u17 u18)  (K : GoK nm g ad ao am Q (15 * n) (2701 * n) i) : R g (mL_law nm) 1400 (15 * (n + 1)) (2701 * (n + 1)) 2036 [(0, .ref (gb g)), (1, .ref (ad 0)), (2, .ref (am 0)), (3, .ref (ao 0)), (4, .int i)] [] (wlX g ad x0 x1 x2 x3 x4 x5 x6 x7 x8 x9 x10 x11 x12 x13 x14 x15 x16 x17 x18 x19 x20 x21 x22 x23 x24 x25 x26 x27 x28 x29 x30 x31 x32 x33 x34 x35 x36 x37 x38 x39 x40 x41 x42 x43 x44 x45 x46 x47 x48 x49 x50 x51 x52 x53 x54 x55 x56 x57 x58 x59 x60 x61 x62 x63 x64 x65 x66 x67 ++ (wlO g ao out ++ (wlM g am (ap 0) m0 m1 m2 m3 m4 m5 m6 m7 m8 m9 m10 m11 m12 m13 m14 m15 m16 m17 m18 m19 m20 m21 ++ (wlP g ap u0 u1 u2 u3 u4 u5 u6 u7 u8 u9 u10 u11 u12 u13 u14 u15 u16 u17 u18 ++ t)))) Q := by
  obtain ⟨o, b, hX, hM, hag, hrel⟩ := cs_digest (hN1 := (by decide : 5000 < 6000)) (hN2 := (by decide : 5000 < 6000)) Rl
  refine r_less (x := (15 * n + 1) + 0) (y := (2701 * n + 9) + 0) (by omega) (by omega) ?_
  refine r_aload_n 1 dL_law_2036 rfl ?_
  refine c_V (rest := []) (15 * n + 1) (2701 * n + 9) _ dL_law_2037 kv_L_245 (ct_Main_digest hX) rfl rfl lX_0 rfl (Nat.le_of_ble_eq_true rfl) (by decide) (by decide) ?_
  refine r_aload_n 2 dL_law_2040 rfl ?_
  refine r_perm (pmF _ _ _ _ _) ?_
  refine c_La (rest := [.long o.1]) (15 * n) (2701 * n) _ dL_law_2041 kv_L_249 (ct_M_digest hM) rfl rfl lM_0 rfl (Nat.le_of_ble_eq_true rfl) (by decide) (by decide) (fun t2 => ?_)
  refine r_perm (pmG _ _ _ _ _ _) ?_
  refine r_lcmp dL_law_2044 ?_
  refine r_if_eq (tgt := 2050) dL_law_2045 (by decide) (fun _ => ?_) (fun hc => absurd ((lg_cmp_0 _ _).mpr hag) hc)
  refine r_ls [0, 1, 2, 3, 4] (ls2 := [(0, .ref (gb g)), (1, .ref (ad 0)), (2, .ref (am 0)), (3, .ref (ao 0)), (4, .int i)]) rfl ?_
  exact K hrel
