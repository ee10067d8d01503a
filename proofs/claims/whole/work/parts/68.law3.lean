/-! the law's cases -/
set_option maxRecDepth 20000 in
set_option maxHeartbeats 4000000 in
theorem law_20 {nm : String} {g : GG} {ad ao am ap : Nat → Nat} {x0 x1 : Int32} {x2 : Nat → Int32} {x3 x4 x5 : Int32} {x6 x7 x8 x9 x10 : Nat → Int32} {x11 x12 : Int32} {x13 x14 x15 x16 x17 : Nat → Int32} {x18 x19 x20 : Int32} {x21 x22 x23 : Nat → Int32} {x24 x25 x26 x27 x28 x29 x30 x31 : Int32} {x32 : Int64} {x33 x34 x35 : Nat → Int32} {x36 : Nat → Int64} {x37 : Int32} {x38 : Nat → Int64} {x39 x40 x41 : Int32} {x42 x43 x44 x45 x46 : Nat → Int32} {x47 x48 : Int32} {x49 x50 x51 x52 x53 : Nat → Int32} {x54 : Int32} {x55 : Nat → Int64} {x56 : Int32} {x57 : Nat → Int64} {x58 x59 x60 x61 : Int32} {x62 : Nat → Int32} {x63 x64 x65 x66 : Int32} {x67 : Nat → Int32} {m0 m1 m2 m3 m4 m5 m6 m7 m8 m9 m10 m11 m12 : Int32} {m13 m14 m15 m16 : Nat → Int32} {m17 : Nat → Int64} {m18 m19 m20 m21 : Nat → Int32} {u0 u1 u2 u3 u4 : Int32} {u5 u6 : Nat → Int64} {u7 u8 u9 u10 u11 u12 u13 u14 u15 u16 u17 u18 : Nat → Int32} {out : Nat → Int64} {t : va_W} {Q : Rs → va_W → Prop} {n : Nat} {i : Int32} (Rl : Rel x0 x1 x2 x3 x4 x5 x6 x7 x8 x9 x10 x11 x13 x14 x15 x16 x17 x18 x19 x20 x21 x37 x38 x59 x60 x61 m1 m2 m6 m7 m8 m9 m10 m11 m12 m13 m19 u0 u1 u2 u3 u7 u8 u9 u10 u11 u12 u13 u14 u15 u16 u17 u18)  (K : GoK nm g ad ao am Q (15 * n) (2701 * n) i) : R g (mL_law nm) 1400 (15 * (n + 1)) (2701 * (n + 1)) 1140 [(0, .ref (gb g)), (1, .ref (ad 0)), (2, .ref (am 0)), (3, .ref (ao 0)), (4, .int i)] [] (wlX g ad x0 x1 x2 x3 x4 x5 x6 x7 x8 x9 x10 x11 x12 x13 x14 x15 x16 x17 x18 x19 x20 x21 x22 x23 x24 x25 x26 x27 x28 x29 x30 x31 x32 x33 x34 x35 x36 x37 x38 x39 x40 x41 x42 x43 x44 x45 x46 x47 x48 x49 x50 x51 x52 x53 x54 x55 x56 x57 x58 x59 x60 x61 x62 x63 x64 x65 x66 x67 ++ (wlO g ao out ++ (wlM g am (ap 0) m0 m1 m2 m3 m4 m5 m6 m7 m8 m9 m10 m11 m12 m13 m14 m15 m16 m17 m18 m19 m20 m21 ++ (wlP g ap u0 u1 u2 u3 u4 u5 u6 u7 u8 u9 u10 u11 u12 u13 u14 u15 u16 u17 u18 ++ t)))) Q := by
  obtain ⟨o, b, hX, hM, hag, hrel⟩ := cs_contradictions (hN1 := (by decide : 5000 < 6000)) (hN2 := (by decide : 5000 < 6000)) Rl
  refine r_less (x := (15 * n + 0) + 0) (y := (2701 * n + 0) + 0) (by omega) (by omega) ?_
  refine r_aload_n 1 dL_law_1140 rfl ?_
  refine c_V (rest := []) (15 * n + 0) (2701 * n + 0) _ dL_law_1141 kv_L_177 (ct_Main_contradictions hX) rfl rfl lX_0 rfl (Nat.le_of_ble_eq_true rfl) (by decide) (by decide) ?_
  refine r_aload_n 2 dL_law_1144 rfl ?_
  refine r_perm (pmF _ _ _ _ _) ?_
  refine c_V (rest := [.int o]) (15 * n) (2701 * n) _ dL_law_1145 kv_L_180 (ct_M_contradictions hM) rfl rfl lM_0 rfl (Nat.le_of_ble_eq_true rfl) (by decide) (by decide) ?_
  refine r_perm (pmF _ _ _ _ _) ?_
  refine r_icmp_eq (tgt := 2050) dL_law_1148 (by decide) (fun _ => ?_) (fun hc => absurd hag hc)
  refine r_ls [0, 1, 2, 3, 4] (ls2 := [(0, .ref (gb g)), (1, .ref (ad 0)), (2, .ref (am 0)), (3, .ref (ao 0)), (4, .int i)]) rfl ?_
  exact K hrel
set_option maxRecDepth 20000 in
set_option maxHeartbeats 4000000 in
theorem law_21 {nm : String} {g : GG} {ad ao am ap : Nat → Nat} {x0 x1 : Int32} {x2 : Nat → Int32} {x3 x4 x5 : Int32} {x6 x7 x8 x9 x10 : Nat → Int32} {x11 x12 : Int32} {x13 x14 x15 x16 x17 : Nat → Int32} {x18 x19 x20 : Int32} {x21 x22 x23 : Nat → Int32} {x24 x25 x26 x27 x28 x29 x30 x31 : Int32} {x32 : Int64} {x33 x34 x35 : Nat → Int32} {x36 : Nat → Int64} {x37 : Int32} {x38 : Nat → Int64} {x39 x40 x41 : Int32} {x42 x43 x44 x45 x46 : Nat → Int32} {x47 x48 : Int32} {x49 x50 x51 x52 x53 : Nat → Int32} {x54 : Int32} {x55 : Nat → Int64} {x56 : Int32} {x57 : Nat → Int64} {x58 x59 x60 x61 : Int32} {x62 : Nat → Int32} {x63 x64 x65 x66 : Int32} {x67 : Nat → Int32} {m0 m1 m2 m3 m4 m5 m6 m7 m8 m9 m10 m11 m12 : Int32} {m13 m14 m15 m16 : Nat → Int32} {m17 : Nat → Int64} {m18 m19 m20 m21 : Nat → Int32} {u0 u1 u2 u3 u4 : Int32} {u5 u6 : Nat → Int64} {u7 u8 u9 u10 u11 u12 u13 u14 u15 u16 u17 u18 : Nat → Int32} {out : Nat → Int64} {t : va_W} {Q : Rs → va_W → Prop} {n : Nat} {i : Int32} (Rl : Rel x0 x1 x2 x3 x4 x5 x6 x7 x8 x9 x10 x11 x13 x14 x15 x16 x17 x18 x19 x20 x21 x37 x38 x59 x60 x61 m1 m2 m6 m7 m8 m9 m10 m11 m12 m13 m19 u0 u1 u2 u3 u7 u8 u9 u10 u11 u12 u13 u14 u15 u16 u17 u18)  (K : GoK nm g ad ao am Q (15 * n) (2701 * n) i) : R g (mL_law nm) 1400 (15 * (n + 1)) (2701 * (n + 1)) 1153 [(0, .ref (gb g)), (1, .ref (ad 0)), (2, .ref (am 0)), (3, .ref (ao 0)), (4, .int i)] [] (wlX g ad x0 x1 x2 x3 x4 x5 x6 x7 x8 x9 x10 x11 x12 x13 x14 x15 x16 x17 x18 x19 x20 x21 x22 x23 x24 x25 x26 x27 x28 x29 x30 x31 x32 x33 x34 x35 x36 x37 x38 x39 x40 x41 x42 x43 x44 x45 x46 x47 x48 x49 x50 x51 x52 x53 x54 x55 x56 x57 x58 x59 x60 x61 x62 x63 x64 x65 x66 x67 ++ (wlO g ao out ++ (wlM g am (ap 0) m0 m1 m2 m3 m4 m5 m6 m7 m8 m9 m10 m11 m12 m13 m14 m15 m16 m17 m18 m19 m20 m21 ++ (wlP g ap u0 u1 u2 u3 u4 u5 u6 u7 u8 u9 u10 u11 u12 u13 u14 u15 u16 u17 u18 ++ t)))) Q := by
  obtain ⟨o, b, hX, hM, hag, hrel⟩ := cs_liars (hN1 := (by decide : 5000 < 6000)) (hN2 := (by decide : 5000 < 6000)) Rl
  refine r_less (x := (15 * n + 0) + 0) (y := (2701 * n + 0) + 0) (by omega) (by omega) ?_
  refine r_aload_n 1 dL_law_1153 rfl ?_
  refine c_V (rest := []) (15 * n + 0) (2701 * n + 0) _ dL_law_1154 kv_L_181 (ct_Main_liars hX) rfl rfl lX_0 rfl (Nat.le_of_ble_eq_true rfl) (by decide) (by decide) ?_
  refine r_aload_n 2 dL_law_1157 rfl ?_
  refine r_perm (pmF _ _ _ _ _) ?_
  refine c_V (rest := [.int o.1]) (15 * n) (2701 * n) _ dL_law_1158 kv_L_184 (ct_M_liars hM) rfl rfl lM_0 rfl (Nat.le_of_ble_eq_true rfl) (by decide) (by decide) ?_
  refine r_perm (pmF _ _ _ _ _) ?_
  refine r_icmp_eq (tgt := 2050) dL_law_1161 (by decide) (fun _ => ?_) (fun hc => absurd hag hc)
  refine r_ls [0, 1, 2, 3, 4] (ls2 := [(0, .ref (gb g)), (1, .ref (ad 0)), (2, .ref (am 0)), (3, .ref (ao 0)), (4, .int i)]) rfl ?_
  exact K hrel
set_option maxRecDepth 20000 in
set_option maxHeartbeats 4000000 in
theorem law_22 {nm : String} {g : GG} {ad ao am ap : Nat → Nat} {x0 x1 : Int32} {x2 : Nat → Int32} {x3 x4 x5 : Int32} {x6 x7 x8 x9 x10 : Nat → Int32} {x11 x12 : Int32} {x13 x14 x15 x16 x17 : Nat → Int32} {x18 x19 x20 : Int32} {x21 x22 x23 : Nat → Int32} {x24 x25 x26 x27 x28 x29 x30 x31 : Int32} {x32 : Int64} {x33 x34 x35 : Nat → Int32} {x36 : Nat → Int64} {x37 : Int32} {x38 : Nat → Int64} {x39 x40 x41 : Int32} {x42 x43 x44 x45 x46 : Nat → Int32} {x47 x48 : Int32} {x49 x50 x51 x52 x53 : Nat → Int32} {x54 : Int32} {x55 : Nat → Int64} {x56 : Int32} {x57 : Nat → Int64} {x58 x59 x60 x61 : Int32} {x62 : Nat → Int32} {x63 x64 x65 x66 : Int32} {x67 : Nat → Int32} {m0 m1 m2 m3 m4 m5 m6 m7 m8 m9 m10 m11 m12 : Int32} {m13 m14 m15 m16 : Nat → Int32} {m17 : Nat → Int64} {m18 m19 m20 m21 : Nat → Int32} {u0 u1 u2 u3 u4 : Int32} {u5 u6 : Nat → Int64} {u7 u8 u9 u10 u11 u12 u13 u14 u15 u16 u17 u18 : Nat → Int32} {out : Nat → Int64} {t : va_W} {Q : Rs → va_W → Prop} {n : Nat} {i : Int32} (Rl : Rel x0 x1 x2 x3 x4 x5 x6 x7 x8 x9 x10 x11 x13 x14 x15 x16 x17 x18 x19 x20 x21 x37 x38 x59 x60 x61 m1 m2 m6 m7 m8 m9 m10 m11 m12 m13 m19 u0 u1 u2 u3 u7 u8 u9 u10 u11 u12 u13 u14 u15 u16 u17 u18)  (K : GoK nm g ad ao am Q (15 * n) (2701 * n) i) : R g (mL_law nm) 1400 (15 * (n + 1)) (2701 * (n + 1)) 1166 [(0, .ref (gb g)), (1, .ref (ad 0)), (2, .ref (am 0)), (3, .ref (ao 0)), (4, .int i)] [] (wlX g ad x0 x1 x2 x3 x4 x5 x6 x7 x8 x9 x10 x11 x12 x13 x14 x15 x16 x17 x18 x19 x20 x21 x22 x23 x24 x25 x26 x27 x28 x29 x30 x31 x32 x33 x34 x35 x36 x37 x38 x39 x40 x41 x42 x43 x44 x45 x46 x47 x48 x49 x50 x51 x52 x53 x54 x55 x56 x57 x58 x59 x60 x61 x62 x63 x64 x65 x66 x67 ++ (wlO g ao out ++ (wlM g am (ap 0) m0 m1 m2 m3 m4 m5 m6 m7 m8 m9 m10 m11 m12 m13 m14 m15 m16 m17 m18 m19 m20 m21 ++ (wlP g ap u0 u1 u2 u3 u4 u5 u6 u7 u8 u9 u10 u11 u12 u13 u14 u15 u16 u17 u18 ++ t)))) Q := by
  obtain ⟨o, b, hX, hM, hag, hrel⟩ := cs_smallestSets (hN1 := (by decide : 5000 < 6000)) (hN2 := (by decide : 5000 < 6000)) Rl
  refine r_less (x := (15 * n + 0) + 0) (y := (2701 * n + 0) + 0) (by omega) (by omega) ?_
  refine r_aload_n 1 dL_law_1166 rfl ?_
  refine c_V (rest := []) (15 * n + 0) (2701 * n + 0) _ dL_law_1167 kv_L_185 (ct_Main_smallestSets hX) rfl rfl lX_0 rfl (Nat.le_of_ble_eq_true rfl) (by decide) (by decide) ?_
  refine r_aload_n 2 dL_law_1170 rfl ?_
  refine r_perm (pmF _ _ _ _ _) ?_
  refine c_V (rest := [.int o.1]) (15 * n) (2701 * n) _ dL_law_1171 kv_L_188 (ct_M_smallestSets hM) rfl rfl lM_0 rfl (Nat.le_of_ble_eq_true rfl) (by decide) (by decide) ?_
  refine r_perm (pmF _ _ _ _ _) ?_
  refine r_icmp_eq (tgt := 2050) dL_law_1174 (by decide) (fun _ => ?_) (fun hc => absurd hag hc)
  refine r_ls [0, 1, 2, 3, 4] (ls2 := [(0, .ref (gb g)), (1, .ref (ad 0)), (2, .ref (am 0)), (3, .ref (ao 0)), (4, .int i)]) rfl ?_
  exact K hrel
set_option maxRecDepth 20000 in
set_option maxHeartbeats 4000000 in
theorem law_23 {nm : String} {g : GG} {ad ao am ap : Nat → Nat} {x0 x1 : Int32} {x2 : Nat → Int32} {x3 x4 x5 : Int32} {x6 x7 x8 x9 x10 : Nat → Int32} {x11 x12 : Int32} {x13 x14 x15 x16 x17 : Nat → Int32} {x18 x19 x20 : Int32} {x21 x22 x23 : Nat → Int32} {x24 x25 x26 x27 x28 x29 x30 x31 : Int32} {x32 : Int64} {x33 x34 x35 : Nat → Int32} {x36 : Nat → Int64} {x37 : Int32} {x38 : Nat → Int64} {x39 x40 x41 : Int32} {x42 x43 x44 x45 x46 : Nat → Int32} {x47 x48 : Int32} {x49 x50 x51 x52 x53 : Nat → Int32} {x54 : Int32} {x55 : Nat → Int64} {x56 : Int32} {x57 : Nat → Int64} {x58 x59 x60 x61 : Int32} {x62 : Nat → Int32} {x63 x64 x65 x66 : Int32} {x67 : Nat → Int32} {m0 m1 m2 m3 m4 m5 m6 m7 m8 m9 m10 m11 m12 : Int32} {m13 m14 m15 m16 : Nat → Int32} {m17 : Nat → Int64} {m18 m19 m20 m21 : Nat → Int32} {u0 u1 u2 u3 u4 : Int32} {u5 u6 : Nat → Int64} {u7 u8 u9 u10 u11 u12 u13 u14 u15 u16 u17 u18 : Nat → Int32} {out : Nat → Int64} {t : va_W} {Q : Rs → va_W → Prop} {n : Nat} {i : Int32} (Rl : Rel x0 x1 x2 x3 x4 x5 x6 x7 x8 x9 x10 x11 x13 x14 x15 x16 x17 x18 x19 x20 x21 x37 x38 x59 x60 x61 m1 m2 m6 m7 m8 m9 m10 m11 m12 m13 m19 u0 u1 u2 u3 u7 u8 u9 u10 u11 u12 u13 u14 u15 u16 u17 u18) (h1 : ib (i + (1 : Int32)) (gL g) = true) (K : GoK nm g ad ao am Q (15 * n) (2701 * n) i) : R g (mL_law nm) 1400 (15 * (n + 1)) (2701 * (n + 1)) 1179 [(0, .ref (gb g)), (1, .ref (ad 0)), (2, .ref (am 0)), (3, .ref (ao 0)), (4, .int i)] [] (wlX g ad x0 x1 x2 x3 x4 x5 x6 x7 x8 x9 x10 x11 x12 x13 x14 x15 x16 x17 x18 x19 x20 x21 x22 x23 x24 x25 x26 x27 x28 x29 x30 x31 x32 x33 x34 x35 x36 x37 x38 x39 x40 x41 x42 x43 x44 x45 x46 x47 x48 x49 x50 x51 x52 x53 x54 x55 x56 x57 x58 x59 x60 x61 x62 x63 x64 x65 x66 x67 ++ (wlO g ao out ++ (wlM g am (ap 0) m0 m1 m2 m3 m4 m5 m6 m7 m8 m9 m10 m11 m12 m13 m14 m15 m16 m17 m18 m19 m20 m21 ++ (wlP g ap u0 u1 u2 u3 u4 u5 u6 u7 u8 u9 u10 u11 u12 u13 u14 u15 u16 u17 u18 ++ t)))) Q := by
  obtain ⟨o, b, hX, hM, hag, hrel⟩ := cs_isLiar (hN1 := (by decide : 5000 < 6000)) (hN2 := (by decide : 5000 < 6000)) Rl out (gx g (i + (1 : Int32)).toNatClampNeg)
  refine r_less (x := (15 * n + 0) + 1) (y := (2701 * n + 0) + 6) (by omega) (by omega) ?_
  refine r_aload_n 1 dL_law_1179 rfl ?_
  refine r_aload_n 0 dL_law_1180 rfl ?_
  refine r_iload 4 dL_law_1181 rfl ?_
  refine r_iconst (v := (1 : Int32)) dL_law_1183 (by decide) ?_
  refine r_iadd dL_law_1184 ?_
  refine r_sld dL_law_1185 h1 ?_
  refine r_aload_n 3 dL_law_1186 rfl ?_
  refine c_LW (rest := []) (15 * n + 0) (2701 * n + 0) dL_law_1187 kt_L_189 (ct_L_isLiar hX) rfl rfl (Nat.le_of_ble_eq_true rfl) (by decide) (by decide) ?_
  refine r_istore [(5, .int o.1), (0, .ref (gb g)), (1, .ref (ad 0)), (2, .ref (am 0)), (3, .ref (ao 0)), (4, .int i)] dL_law_1190 (Nat.le_of_ble_eq_true rfl) rfl ?_
  refine r_aload_n 3 dL_law_1192 rfl ?_
  refine r_aload_n 1 dL_law_1193 rfl ?_
  refine r_iload 5 dL_law_1194 rfl ?_
  refine r_iconst (v := (1 : Int32)) dL_law_1196 (by decide) ?_
  refine r_iadd dL_law_1197 ?_
  refine r_sld dL_law_1198 h1 ?_
  refine r_perm (pmF _ _ _ _ _) ?_
  refine c_V (rest := []) (15 * n) (2701 * n) _ dL_law_1199 kv_L_191 (ct_M_isLiar hM) rfl rfl lM_0 rfl (Nat.le_of_ble_eq_true rfl) (by decide) (by decide) ?_
  refine r_istore [(6, .int b.1), (5, .int o.1), (0, .ref (gb g)), (1, .ref (ad 0)), (2, .ref (am 0)), (3, .ref (ao 0)), (4, .int i)] dL_law_1202 (Nat.le_of_ble_eq_true rfl) rfl ?_
  refine r_aload_n 4 dL_law_1204 rfl ?_
  refine c_V (rest := []) (15 * n) (2701 * n) _ dL_law_1205 kv_L_107 (ct_M_thrown rfl) rfl rfl lM_0 rfl (Nat.le_of_ble_eq_true rfl) (by decide) (by decide) ?_
  refine r_perm (pmF _ _ _ _ _) ?_
  refine r_iload 1 dL_law_1208 rfl ?_
  refine r_icmp_eq (tgt := 1215) dL_law_1210 (by decide) (fun _ => ?_) (fun hc => absurd hag.1 hc)
  refine r_iload 1 dL_law_1215 rfl ?_
  refine r_if_ne (tgt := 1239) dL_law_1217 (by decide) (fun hk => ?_) (fun hk => ?_)
  · refine r_goto (tgt := 2050) dL_law_1239 (by decide) ?_
    refine r_ls [2, 3, 4, 5, 6] (ls2 := [(0, .ref (gb g)), (1, .ref (ad 0)), (2, .ref (am 0)), (3, .ref (ao 0)), (4, .int i)]) rfl ?_
    exact K hrel
  · refine r_aload_n 5 dL_law_1220 rfl ?_
    refine r_iconst (v := (0 : Int32)) dL_law_1221 (by decide) ?_
    refine r_lald _ dL_law_1222 lO_0 (by decide) ?_
    refine r_iload 0 dL_law_1223 rfl ?_
    refine r_if_eq (tgt := 1232) dL_law_1225 (by decide) (fun hb => ?_) (fun hb => ?_)
    · refine r_lconst (v := (0 : Int64)) dL_law_1232 (by decide) ?_
      refine r_lcmp dL_law_1233 ?_
      refine r_if_eq (tgt := 1239) dL_law_1234 (by decide) (fun _ => ?_) (fun hc => absurd ((lg_cmp_0 _ _).mpr ((hag.2.2 hk).trans (if_pos hb))) hc)
      refine r_goto (tgt := 2050) dL_law_1239 (by decide) ?_
      refine r_ls [2, 3, 4, 5, 6] (ls2 := [(0, .ref (gb g)), (1, .ref (ad 0)), (2, .ref (am 0)), (3, .ref (ao 0)), (4, .int i)]) rfl ?_
      exact K hrel
    · refine r_lconst (v := (1 : Int64)) dL_law_1228 (by decide) ?_
      refine r_goto (tgt := 1233) dL_law_1229 (by decide) ?_
      refine r_lcmp dL_law_1233 ?_
      refine r_if_eq (tgt := 1239) dL_law_1234 (by decide) (fun _ => ?_) (fun hc => absurd ((lg_cmp_0 _ _).mpr ((hag.2.2 hk).trans (if_neg hb))) hc)
      refine r_goto (tgt := 2050) dL_law_1239 (by decide) ?_
      refine r_ls [2, 3, 4, 5, 6] (ls2 := [(0, .ref (gb g)), (1, .ref (ad 0)), (2, .ref (am 0)), (3, .ref (ao 0)), (4, .int i)]) rfl ?_
      exact K hrel
set_option maxRecDepth 20000 in
set_option maxHeartbeats 4000000 in
theorem law_24 {nm : String} {g : GG} {ad ao am ap : Nat → Nat} {x0 x1 : Int32} {x2 : Nat → Int32} {x3 x4 x5 : Int32} {x6 x7 x8 x9 x10 : Nat → Int32} {x11 x12 : Int32} {x13 x14 x15 x16 x17 : Nat → Int32} {x18 x19 x20 : Int32} {x21 x22 x23 : Nat → Int32} {x24 x25 x26 x27 x28 x29 x30 x31 : Int32} {x32 : Int64} {x33 x34 x35 : Nat → Int32} {x36 : Nat → Int64} {x37 : Int32} {x38 : Nat → Int64} {x39 x40 x41 : Int32} {x42 x43 x44 x45 x46 : Nat → Int32} {x47 x48 : Int32} {x49 x50 x51 x52 x53 : Nat → Int32} {x54 : Int32} {x55 : Nat → Int64} {x56 : Int32} {x57 : Nat → Int64} {x58 x59 x60 x61 : Int32} {x62 : Nat → Int32} {x63 x64 x65 x66 : Int32} {x67 : Nat → Int32} {m0 m1 m2 m3 m4 m5 m6 m7 m8 m9 m10 m11 m12 : Int32} {m13 m14 m15 m16 : Nat → Int32} {m17 : Nat → Int64} {m18 m19 m20 m21 : Nat → Int32} {u0 u1 u2 u3 u4 : Int32} {u5 u6 : Nat → Int64} {u7 u8 u9 u10 u11 u12 u13 u14 u15 u16 u17 u18 : Nat → Int32} {out : Nat → Int64} {t : va_W} {Q : Rs → va_W → Prop} {n : Nat} {i : Int32} (Rl : Rel x0 x1 x2 x3 x4 x5 x6 x7 x8 x9 x10 x11 x13 x14 x15 x16 x17 x18 x19 x20 x21 x37 x38 x59 x60 x61 m1 m2 m6 m7 m8 m9 m10 m11 m12 m13 m19 u0 u1 u2 u3 u7 u8 u9 u10 u11 u12 u13 u14 u15 u16 u17 u18) (h1 : ib (i + (1 : Int32)) (gL g) = true) (K : GoK nm g ad ao am Q (15 * n) (2701 * n) i) : R g (mL_law nm) 1400 (15 * (n + 1)) (2701 * (n + 1)) 1242 [(0, .ref (gb g)), (1, .ref (ad 0)), (2, .ref (am 0)), (3, .ref (ao 0)), (4, .int i)] [] (wlX g ad x0 x1 x2 x3 x4 x5 x6 x7 x8 x9 x10 x11 x12 x13 x14 x15 x16 x17 x18 x19 x20 x21 x22 x23 x24 x25 x26 x27 x28 x29 x30 x31 x32 x33 x34 x35 x36 x37 x38 x39 x40 x41 x42 x43 x44 x45 x46 x47 x48 x49 x50 x51 x52 x53 x54 x55 x56 x57 x58 x59 x60 x61 x62 x63 x64 x65 x66 x67 ++ (wlO g ao out ++ (wlM g am (ap 0) m0 m1 m2 m3 m4 m5 m6 m7 m8 m9 m10 m11 m12 m13 m14 m15 m16 m17 m18 m19 m20 m21 ++ (wlP g ap u0 u1 u2 u3 u4 u5 u6 u7 u8 u9 u10 u11 u12 u13 u14 u15 u16 u17 u18 ++ t)))) Q := by
  obtain ⟨o, b, hX, hM, hag, hrel⟩ := cs_isAgreed (hN1 := (by decide : 5000 < 6000)) (hN2 := (by decide : 5000 < 6000)) Rl out (gx g (i + (1 : Int32)).toNatClampNeg)
  refine r_less (x := (15 * n + 0) + 1) (y := (2701 * n + 0) + 6) (by omega) (by omega) ?_
  refine r_aload_n 1 dL_law_1242 rfl ?_
  refine r_aload_n 0 dL_law_1243 rfl ?_
  refine r_iload 4 dL_law_1244 rfl ?_
  refine r_iconst (v := (1 : Int32)) dL_law_1246 (by decide) ?_
  refine r_iadd dL_law_1247 ?_
  refine r_sld dL_law_1248 h1 ?_
  refine r_aload_n 3 dL_law_1249 rfl ?_
  refine c_LW (rest := []) (15 * n + 0) (2701 * n + 0) dL_law_1250 kt_L_192 (ct_L_isAgreed hX) rfl rfl (Nat.le_of_ble_eq_true rfl) (by decide) (by decide) ?_
  refine r_istore [(5, .int o.1), (0, .ref (gb g)), (1, .ref (ad 0)), (2, .ref (am 0)), (3, .ref (ao 0)), (4, .int i)] dL_law_1253 (Nat.le_of_ble_eq_true rfl) rfl ?_
  refine r_aload_n 3 dL_law_1255 rfl ?_
  refine r_aload_n 1 dL_law_1256 rfl ?_
  refine r_iload 5 dL_law_1257 rfl ?_
  refine r_iconst (v := (1 : Int32)) dL_law_1259 (by decide) ?_
  refine r_iadd dL_law_1260 ?_
  refine r_sld dL_law_1261 h1 ?_
  refine r_perm (pmF _ _ _ _ _) ?_
  refine c_V (rest := []) (15 * n) (2701 * n) _ dL_law_1262 kv_L_194 (ct_M_isAgreed hM) rfl rfl lM_0 rfl (Nat.le_of_ble_eq_true rfl) (by decide) (by decide) ?_
  refine r_istore [(6, .int b.1), (5, .int o.1), (0, .ref (gb g)), (1, .ref (ad 0)), (2, .ref (am 0)), (3, .ref (ao 0)), (4, .int i)] dL_law_1265 (Nat.le_of_ble_eq_true rfl) rfl ?_
  refine r_aload_n 4 dL_law_1267 rfl ?_
  refine c_V (rest := []) (15 * n) (2701 * n) _ dL_law_1268 kv_L_107 (ct_M_thrown rfl) rfl rfl lM_0 rfl (Nat.le_of_ble_eq_true rfl) (by decide) (by decide) ?_
  refine r_perm (pmF _ _ _ _ _) ?_
  refine r_iload 1 dL_law_1271 rfl ?_
  refine r_icmp_eq (tgt := 1278) dL_law_1273 (by decide) (fun _ => ?_) (fun hc => absurd hag.1 hc)
  refine r_iload 1 dL_law_1278 rfl ?_
  refine r_if_ne (tgt := 1302) dL_law_1280 (by decide) (fun hk => ?_) (fun hk => ?_)
  · refine r_goto (tgt := 2050) dL_law_1302 (by decide) ?_
    refine r_ls [2, 3, 4, 5, 6] (ls2 := [(0, .ref (gb g)), (1, .ref (ad 0)), (2, .ref (am 0)), (3, .ref (ao 0)), (4, .int i)]) rfl ?_
    exact K hrel
  · refine r_aload_n 5 dL_law_1283 rfl ?_
    refine r_iconst (v := (0 : Int32)) dL_law_1284 (by decide) ?_
    refine r_lald _ dL_law_1285 lO_0 (by decide) ?_
    refine r_iload 0 dL_law_1286 rfl ?_
    refine r_if_eq (tgt := 1295) dL_law_1288 (by decide) (fun hb => ?_) (fun hb => ?_)
    · refine r_lconst (v := (0 : Int64)) dL_law_1295 (by decide) ?_
      refine r_lcmp dL_law_1296 ?_
      refine r_if_eq (tgt := 1302) dL_law_1297 (by decide) (fun _ => ?_) (fun hc => absurd ((lg_cmp_0 _ _).mpr ((hag.2.2 hk).trans (if_pos hb))) hc)
      refine r_goto (tgt := 2050) dL_law_1302 (by decide) ?_
      refine r_ls [2, 3, 4, 5, 6] (ls2 := [(0, .ref (gb g)), (1, .ref (ad 0)), (2, .ref (am 0)), (3, .ref (ao 0)), (4, .int i)]) rfl ?_
      exact K hrel
    · refine r_lconst (v := (1 : Int64)) dL_law_1291 (by decide) ?_
      refine r_goto (tgt := 1296) dL_law_1292 (by decide) ?_
      refine r_lcmp dL_law_1296 ?_
      refine r_if_eq (tgt := 1302) dL_law_1297 (by decide) (fun _ => ?_) (fun hc => absurd ((lg_cmp_0 _ _).mpr ((hag.2.2 hk).trans (if_neg hb))) hc)
      refine r_goto (tgt := 2050) dL_law_1302 (by decide) ?_
      refine r_ls [2, 3, 4, 5, 6] (ls2 := [(0, .ref (gb g)), (1, .ref (ad 0)), (2, .ref (am 0)), (3, .ref (ao 0)), (4, .int i)]) rfl ?_
      exact K hrel
set_option maxRecDepth 20000 in
set_option maxHeartbeats 4000000 in
theorem law_25 {nm : String} {g : GG} {ad ao am ap : Nat → Nat} {x0 x1 : Int32} {x2 : Nat → Int32} {x3 x4 x5 : Int32} {x6 x7 x8 x9 x10 : Nat → Int32} {x11 x12 : Int32} {x13 x14 x15 x16 x17 : Nat → Int32} {x18 x19 x20 : Int32} {x21 x22 x23 : Nat → Int32} {x24 x25 x26 x27 x28 x29 x30 x31 : Int32} {x32 : Int64} {x33 x34 x35 : Nat → Int32} {x36 : Nat → Int64} {x37 : Int32} {x38 : Nat → Int64} {x39 x40 x41 : Int32} {x42 x43 x44 x45 x46 : Nat → Int32} {x47 x48 : Int32} {x49 x50 x51 x52 x53 : Nat → Int32} {x54 : Int32} {x55 : Nat → Int64} {x56 : Int32} {x57 : Nat → Int64} {x58 x59 x60 x61 : Int32} {x62 : Nat → Int32} {x63 x64 x65 x66 : Int32} {x67 : Nat → Int32} {m0 m1 m2 m3 m4 m5 m6 m7 m8 m9 m10 m11 m12 : Int32} {m13 m14 m15 m16 : Nat → Int32} {m17 : Nat → Int64} {m18 m19 m20 m21 : Nat → Int32} {u0 u1 u2 u3 u4 : Int32} {u5 u6 : Nat → Int64} {u7 u8 u9 u10 u11 u12 u13 u14 u15 u16 u17 u18 : Nat → Int32} {out : Nat → Int64} {t : va_W} {Q : Rs → va_W → Prop} {n : Nat} {i : Int32} (Rl : Rel x0 x1 x2 x3 x4 x5 x6 x7 x8 x9 x10 x11 x13 x14 x15 x16 x17 x18 x19 x20 x21 x37 x38 x59 x60 x61 m1 m2 m6 m7 m8 m9 m10 m11 m12 m13 m19 u0 u1 u2 u3 u7 u8 u9 u10 u11 u12 u13 u14 u15 u16 u17 u18) (h1 : ib (i + (1 : Int32)) (gL g) = true) (K : GoK nm g ad ao am Q (15 * n) (2701 * n) i) : R g (mL_law nm) 1400 (15 * (n + 1)) (2701 * (n + 1)) 1305 [(0, .ref (gb g)), (1, .ref (ad 0)), (2, .ref (am 0)), (3, .ref (ao 0)), (4, .int i)] [] (wlX g ad x0 x1 x2 x3 x4 x5 x6 x7 x8 x9 x10 x11 x12 x13 x14 x15 x16 x17 x18 x19 x20 x21 x22 x23 x24 x25 x26 x27 x28 x29 x30 x31 x32 x33 x34 x35 x36 x37 x38 x39 x40 x41 x42 x43 x44 x45 x46 x47 x48 x49 x50 x51 x52 x53 x54 x55 x56 x57 x58 x59 x60 x61 x62 x63 x64 x65 x66 x67 ++ (wlO g ao out ++ (wlM g am (ap 0) m0 m1 m2 m3 m4 m5 m6 m7 m8 m9 m10 m11 m12 m13 m14 m15 m16 m17 m18 m19 m20 m21 ++ (wlP g ap u0 u1 u2 u3 u4 u5 u6 u7 u8 u9 u10 u11 u12 u13 u14 u15 u16 u17 u18 ++ t)))) Q := by
  obtain ⟨o, b, hX, hM, hag, hrel⟩ := cs_windowFrom (hN1 := (by decide : 5000 < 6000)) (hN2 := (by decide : 5000 < 6000)) Rl out (gx g (i + (1 : Int32)).toNatClampNeg)
  refine r_less (x := (15 * n + 0) + 2) (y := (2701 * n + 0) + 12) (by omega) (by omega) ?_
  refine r_aload_n 1 dL_law_1305 rfl ?_
  refine r_aload_n 0 dL_law_1306 rfl ?_
  refine r_iload 4 dL_law_1307 rfl ?_
  refine r_iconst (v := (1 : Int32)) dL_law_1309 (by decide) ?_
  refine r_iadd dL_law_1310 ?_
  refine r_sld dL_law_1311 h1 ?_
  refine r_aload_n 3 dL_law_1312 rfl ?_
  refine c_LW (rest := []) (15 * n + 0) (2701 * n + 0) dL_law_1313 kt_L_195 (ct_L_windowFrom hX) rfl rfl (Nat.le_of_ble_eq_true rfl) (by decide) (by decide) ?_
  refine r_istore [(5, .int o.1), (0, .ref (gb g)), (1, .ref (ad 0)), (2, .ref (am 0)), (3, .ref (ao 0)), (4, .int i)] dL_law_1316 (Nat.le_of_ble_eq_true rfl) rfl ?_
  refine r_aload_n 3 dL_law_1318 rfl ?_
  refine r_aload_n 1 dL_law_1319 rfl ?_
  refine r_iload 5 dL_law_1320 rfl ?_
  refine r_iconst (v := (1 : Int32)) dL_law_1322 (by decide) ?_
  refine r_iadd dL_law_1323 ?_
  refine r_sld dL_law_1324 h1 ?_
  refine r_perm (pmF _ _ _ _ _) ?_
  refine c_V (rest := []) (15 * n) (2701 * n) _ dL_law_1325 kv_L_197 (ct_M_windowFrom hM) rfl rfl lM_0 rfl (Nat.le_of_ble_eq_true rfl) (by decide) (by decide) ?_
  refine r_istore [(6, .int b.1), (5, .int o.1), (0, .ref (gb g)), (1, .ref (ad 0)), (2, .ref (am 0)), (3, .ref (ao 0)), (4, .int i)] dL_law_1328 (Nat.le_of_ble_eq_true rfl) rfl ?_
  refine r_aload_n 4 dL_law_1330 rfl ?_
  refine c_V (rest := []) (15 * n) (2701 * n) _ dL_law_1331 kv_L_107 (ct_M_thrown rfl) rfl rfl lM_0 rfl (Nat.le_of_ble_eq_true rfl) (by decide) (by decide) ?_
  refine r_perm (pmF _ _ _ _ _) ?_
  refine r_iload 1 dL_law_1334 rfl ?_
  refine r_icmp_eq (tgt := 1341) dL_law_1336 (by decide) (fun _ => ?_) (fun hc => absurd hag.1 hc)
  refine r_iload 1 dL_law_1341 rfl ?_
  refine r_if_ne (tgt := 1358) dL_law_1343 (by decide) (fun hk => ?_) (fun hk => ?_)
  · refine r_goto (tgt := 2050) dL_law_1358 (by decide) ?_
    refine r_ls [2, 3, 4, 5, 6] (ls2 := [(0, .ref (gb g)), (1, .ref (ad 0)), (2, .ref (am 0)), (3, .ref (ao 0)), (4, .int i)]) rfl ?_
    exact K hrel
  · refine r_aload_n 5 dL_law_1346 rfl ?_
    refine r_iconst (v := (0 : Int32)) dL_law_1347 (by decide) ?_
    refine r_lald _ dL_law_1348 lO_0 (by decide) ?_
    refine r_iload 0 dL_law_1349 rfl ?_
    refine r_i2l dL_law_1351 ?_
    refine r_lcmp dL_law_1352 ?_
    refine r_if_eq (tgt := 1358) dL_law_1353 (by decide) (fun _ => ?_) (fun hc => absurd ((lg_cmp_0 _ _).mpr (hag.2 hk)) hc)
    refine r_goto (tgt := 2050) dL_law_1358 (by decide) ?_
    refine r_ls [2, 3, 4, 5, 6] (ls2 := [(0, .ref (gb g)), (1, .ref (ad 0)), (2, .ref (am 0)), (3, .ref (ao 0)), (4, .int i)]) rfl ?_
    exact K hrel
set_option maxRecDepth 20000 in
set_option maxHeartbeats 4000000 in
theorem law_26 {nm : String} {g : GG} {ad ao am ap : Nat → Nat} {x0 x1 : Int32} {x2 : Nat → Int32} {x3 x4 x5 : Int32} {x6 x7 x8 x9 x10 : Nat → Int32} {x11 x12 : Int32} {x13 x14 x15 x16 x17 : Nat → Int32} {x18 x19 x20 : Int32} {x21 x22 x23 : Nat → Int32} {x24 x25 x26 x27 x28 x29 x30 x31 : Int32} {x32 : Int64} {x33 x34 x35 : Nat → Int32} {x36 : Nat → Int64} {x37 : Int32} {x38 : Nat → Int64} {x39 x40 x41 : Int32} {x42 x43 x44 x45 x46 : Nat → Int32} {x47 x48 : Int32} {x49 x50 x51 x52 x53 : Nat → Int32} {x54 : Int32} {x55 : Nat → Int64} {x56 : Int32} {x57 : Nat → Int64} {x58 x59 x60 x61 : Int32} {x62 : Nat → Int32} {x63 x64 x65 x66 : Int32} {x67 : Nat → Int32} {m0 m1 m2 m3 m4 m5 m6 m7 m8 m9 m10 m11 m12 : Int32} {m13 m14 m15 m16 : Nat → Int32} {m17 : Nat → Int64} {m18 m19 m20 m21 : Nat → Int32} {u0 u1 u2 u3 u4 : Int32} {u5 u6 : Nat → Int64} {u7 u8 u9 u10 u11 u12 u13 u14 u15 u16 u17 u18 : Nat → Int32} {out : Nat → Int64} {t : va_W} {Q : Rs → va_W → Prop} {n : Nat} {i : Int32} (Rl : Rel x0 x1 x2 x3 x4 x5 x6 x7 x8 x9 x10 x11 x13 x14 x15 x16 x17 x18 x19 x20 x21 x37 x38 x59 x60 x61 m1 m2 m6 m7 m8 m9 m10 m11 m12 m13 m19 u0 u1 u2 u3 u7 u8 u9 u10 u11 u12 u13 u14 u15 u16 u17 u18) (h1 : ib (i + (1 : Int32)) (gL g) = true) (K : GoK nm g ad ao am Q (15 * n) (2701 * n) i) : R g (mL_law nm) 1400 (15 * (n + 1)) (2701 * (n + 1)) 1361 [(0, .ref (gb g)), (1, .ref (ad 0)), (2, .ref (am 0)), (3, .ref (ao 0)), (4, .int i)] [] (wlX g ad x0 x1 x2 x3 x4 x5 x6 x7 x8 x9 x10 x11 x12 x13 x14 x15 x16 x17 x18 x19 x20 x21 x22 x23 x24 x25 x26 x27 x28 x29 x30 x31 x32 x33 x34 x35 x36 x37 x38 x39 x40 x41 x42 x43 x44 x45 x46 x47 x48 x49 x50 x51 x52 x53 x54 x55 x56 x57 x58 x59 x60 x61 x62 x63 x64 x65 x66 x67 ++ (wlO g ao out ++ (wlM g am (ap 0) m0 m1 m2 m3 m4 m5 m6 m7 m8 m9 m10 m11 m12 m13 m14 m15 m16 m17 m18 m19 m20 m21 ++ (wlP g ap u0 u1 u2 u3 u4 u5 u6 u7 u8 u9 u10 u11 u12 u13 u14 u15 u16 u17 u18 ++ t)))) Q := by
  obtain ⟨o, b, hX, hM, hag, hrel⟩ := cs_windowTo (hN1 := (by decide : 5000 < 6000)) (hN2 := (by decide : 5000 < 6000)) Rl out (gx g (i + (1 : Int32)).toNatClampNeg)
  refine r_less (x := (15 * n + 0) + 2) (y := (2701 * n + 0) + 12) (by omega) (by omega) ?_
  refine r_aload_n 1 dL_law_1361 rfl ?_
  refine r_aload_n 0 dL_law_1362 rfl ?_
  refine r_iload 4 dL_law_1363 rfl ?_
  refine r_iconst (v := (1 : Int32)) dL_law_1365 (by decide) ?_
  refine r_iadd dL_law_1366 ?_
  refine r_sld dL_law_1367 h1 ?_
  refine r_aload_n 3 dL_law_1368 rfl ?_
  refine c_LW (rest := []) (15 * n + 0) (2701 * n + 0) dL_law_1369 kt_L_198 (ct_L_windowTo hX) rfl rfl (Nat.le_of_ble_eq_true rfl) (by decide) (by decide) ?_
  refine r_istore [(5, .int o.1), (0, .ref (gb g)), (1, .ref (ad 0)), (2, .ref (am 0)), (3, .ref (ao 0)), (4, .int i)] dL_law_1372 (Nat.le_of_ble_eq_true rfl) rfl ?_
  refine r_aload_n 3 dL_law_1374 rfl ?_
  refine r_aload_n 1 dL_law_1375 rfl ?_
  refine r_iload 5 dL_law_1376 rfl ?_
  refine r_iconst (v := (1 : Int32)) dL_law_1378 (by decide) ?_
  refine r_iadd dL_law_1379 ?_
  refine r_sld dL_law_1380 h1 ?_
  refine r_perm (pmF _ _ _ _ _) ?_
  refine c_V (rest := []) (15 * n) (2701 * n) _ dL_law_1381 kv_L_200 (ct_M_windowTo hM) rfl rfl lM_0 rfl (Nat.le_of_ble_eq_true rfl) (by decide) (by decide) ?_
  refine r_istore [(6, .int b.1), (5, .int o.1), (0, .ref (gb g)), (1, .ref (ad 0)), (2, .ref (am 0)), (3, .ref (ao 0)), (4, .int i)] dL_law_1384 (Nat.le_of_ble_eq_true rfl) rfl ?_
  refine r_aload_n 4 dL_law_1386 rfl ?_
  refine c_V (rest := []) (15 * n) (2701 * n) _ dL_law_1387 kv_L_107 (ct_M_thrown rfl) rfl rfl lM_0 rfl (Nat.le_of_ble_eq_true rfl) (by decide) (by decide) ?_
  refine r_perm (pmF _ _ _ _ _) ?_
  refine r_iload 1 dL_law_1390 rfl ?_
  refine r_icmp_eq (tgt := 1397) dL_law_1392 (by decide) (fun _ => ?_) (fun hc => absurd hag.1 hc)
  refine r_iload 1 dL_law_1397 rfl ?_
  refine r_if_ne (tgt := 1414) dL_law_1399 (by decide) (fun hk => ?_) (fun hk => ?_)
  · refine r_goto (tgt := 2050) dL_law_1414 (by decide) ?_
    refine r_ls [2, 3, 4, 5, 6] (ls2 := [(0, .ref (gb g)), (1, .ref (ad 0)), (2, .ref (am 0)), (3, .ref (ao 0)), (4, .int i)]) rfl ?_
    exact K hrel
  · refine r_aload_n 5 dL_law_1402 rfl ?_
    refine r_iconst (v := (0 : Int32)) dL_law_1403 (by decide) ?_
    refine r_lald _ dL_law_1404 lO_0 (by decide) ?_
    refine r_iload 0 dL_law_1405 rfl ?_
    refine r_i2l dL_law_1407 ?_
    refine r_lcmp dL_law_1408 ?_
    refine r_if_eq (tgt := 1414) dL_law_1409 (by decide) (fun _ => ?_) (fun hc => absurd ((lg_cmp_0 _ _).mpr (hag.2 hk)) hc)
    refine r_goto (tgt := 2050) dL_law_1414 (by decide) ?_
    refine r_ls [2, 3, 4, 5, 6] (ls2 := [(0, .ref (gb g)), (1, .ref (ad 0)), (2, .ref (am 0)), (3, .ref (ao 0)), (4, .int i)]) rfl ?_
    exact K hrel
set_option maxRecDepth 20000 in
set_option maxHeartbeats 4000000 in
theorem law_27 {nm : String} {g : GG} {ad ao am ap : Nat → Nat} {x0 x1 : Int32} {x2 : Nat → Int32} {x3 x4 x5 : Int32} {x6 x7 x8 x9 x10 : Nat → Int32} {x11 x12 : Int32} {x13 x14 x15 x16 x17 : Nat → Int32} {x18 x19 x20 : Int32} {x21 x22 x23 : Nat → Int32} {x24 x25 x26 x27 x28 x29 x30 x31 : Int32} {x32 : Int64} {x33 x34 x35 : Nat → Int32} {x36 : Nat → Int64} {x37 : Int32} {x38 : Nat → Int64} {x39 x40 x41 : Int32} {x42 x43 x44 x45 x46 : Nat → Int32} {x47 x48 : Int32} {x49 x50 x51 x52 x53 : Nat → Int32} {x54 : Int32} {x55 : Nat → Int64} {x56 : Int32} {x57 : Nat → Int64} {x58 x59 x60 x61 : Int32} {x62 : Nat → Int32} {x63 x64 x65 x66 : Int32} {x67 : Nat → Int32} {m0 m1 m2 m3 m4 m5 m6 m7 m8 m9 m10 m11 m12 : Int32} {m13 m14 m15 m16 : Nat → Int32} {m17 : Nat → Int64} {m18 m19 m20 m21 : Nat → Int32} {u0 u1 u2 u3 u4 : Int32} {u5 u6 : Nat → Int64} {u7 u8 u9 u10 u11 u12 u13 u14 u15 u16 u17 u18 : Nat → Int32} {out : Nat → Int64} {t : va_W} {Q : Rs → va_W → Prop} {n : Nat} {i : Int32} (Rl : Rel x0 x1 x2 x3 x4 x5 x6 x7 x8 x9 x10 x11 x13 x14 x15 x16 x17 x18 x19 x20 x21 x37 x38 x59 x60 x61 m1 m2 m6 m7 m8 m9 m10 m11 m12 m13 m19 u0 u1 u2 u3 u7 u8 u9 u10 u11 u12 u13 u14 u15 u16 u17 u18)  (K : GoK nm g ad ao am Q (15 * n) (2701 * n) i) : R g (mL_law nm) 1400 (15 * (n + 1)) (2701 * (n + 1)) 1417 [(0, .ref (gb g)), (1, .ref (ad 0)), (2, .ref (am 0)), (3, .ref (ao 0)), (4, .int i)] [] (wlX g ad x0 x1 x2 x3 x4 x5 x6 x7 x8 x9 x10 x11 x12 x13 x14 x15 x16 x17 x18 x19 x20 x21 x22 x23 x24 x25 x26 x27 x28 x29 x30 x31 x32 x33 x34 x35 x36 x37 x38 x39 x40 x41 x42 x43 x44 x45 x46 x47 x48 x49 x50 x51 x52 x53 x54 x55 x56 x57 x58 x59 x60 x61 x62 x63 x64 x65 x66 x67 ++ (wlO g ao out ++ (wlM g am (ap 0) m0 m1 m2 m3 m4 m5 m6 m7 m8 m9 m10 m11 m12 m13 m14 m15 m16 m17 m18 m19 m20 m21 ++ (wlP g ap u0 u1 u2 u3 u4 u5 u6 u7 u8 u9 u10 u11 u12 u13 u14 u15 u16 u17 u18 ++ t)))) Q := by
  obtain ⟨o, b, hX, hM, hag, hrel⟩ := cs_hasOrder (hN1 := (by decide : 5000 < 6000)) (hN2 := (by decide : 5000 < 6000)) Rl
  refine r_less (x := (15 * n + 0) + 0) (y := (2701 * n + 0) + 0) (by omega) (by omega) ?_
  refine r_aload_n 1 dL_law_1417 rfl ?_
  refine c_V (rest := []) (15 * n + 0) (2701 * n + 0) _ dL_law_1418 kv_L_201 (ct_Main_hasOrder hX) rfl rfl lX_0 rfl (Nat.le_of_ble_eq_true rfl) (by decide) (by decide) ?_
  refine r_aload_n 2 dL_law_1421 rfl ?_
  refine r_perm (pmF _ _ _ _ _) ?_
  refine c_V (rest := [.int o.1]) (15 * n) (2701 * n) _ dL_law_1422 kv_L_205 (ct_M_hasOrder hM) rfl rfl lM_0 rfl (Nat.le_of_ble_eq_true rfl) (by decide) (by decide) ?_
  refine r_perm (pmF _ _ _ _ _) ?_
  refine r_icmp_eq (tgt := 2050) dL_law_1425 (by decide) (fun _ => ?_) (fun hc => absurd hag hc)
  refine r_ls [0, 1, 2, 3, 4] (ls2 := [(0, .ref (gb g)), (1, .ref (ad 0)), (2, .ref (am 0)), (3, .ref (ao 0)), (4, .int i)]) rfl ?_
  exact K hrel
set_option maxRecDepth 20000 in
set_option maxHeartbeats 4000000 in
theorem law_28 {nm : String} {g : GG} {ad ao am ap : Nat → Nat} {x0 x1 : Int32} {x2 : Nat → Int32} {x3 x4 x5 : Int32} {x6 x7 x8 x9 x10 : Nat → Int32} {x11 x12 : Int32} {x13 x14 x15 x16 x17 : Nat → Int32} {x18 x19 x20 : Int32} {x21 x22 x23 : Nat → Int32} {x24 x25 x26 x27 x28 x29 x30 x31 : Int32} {x32 : Int64} {x33 x34 x35 : Nat → Int32} {x36 : Nat → Int64} {x37 : Int32} {x38 : Nat → Int64} {x39 x40 x41 : Int32} {x42 x43 x44 x45 x46 : Nat → Int32} {x47 x48 : Int32} {x49 x50 x51 x52 x53 : Nat → Int32} {x54 : Int32} {x55 : Nat → Int64} {x56 : Int32} {x57 : Nat → Int64} {x58 x59 x60 x61 : Int32} {x62 : Nat → Int32} {x63 x64 x65 x66 : Int32} {x67 : Nat → Int32} {m0 m1 m2 m3 m4 m5 m6 m7 m8 m9 m10 m11 m12 : Int32} {m13 m14 m15 m16 : Nat → Int32} {m17 : Nat → Int64} {m18 m19 m20 m21 : Nat → Int32} {u0 u1 u2 u3 u4 : Int32} {u5 u6 : Nat → Int64} {u7 u8 u9 u10 u11 u12 u13 u14 u15 u16 u17 u18 : Nat → Int32} {out : Nat → Int64} {t : va_W} {Q : Rs → va_W → Prop} {n : Nat} {i : Int32} (Rl : Rel x0 x1 x2 x3 x4 x5 x6 x7 x8 x9 x10 x11 x13 x14 x15 x16 x17 x18 x19 x20 x21 x37 x38 x59 x60 x61 m1 m2 m6 m7 m8 m9 m10 m11 m12 m13 m19 u0 u1 u2 u3 u7 u8 u9 u10 u11 u12 u13 u14 u15 u16 u17 u18) (h1 : ib (i + (1 : Int32)) (gL g) = true) (K : GoK nm g ad ao am Q (15 * n) (2701 * n) i) : R g (mL_law nm) 1400 (15 * (n + 1)) (2701 * (n + 1)) 1430 [(0, .ref (gb g)), (1, .ref (ad 0)), (2, .ref (am 0)), (3, .ref (ao 0)), (4, .int i)] [] (wlX g ad x0 x1 x2 x3 x4 x5 x6 x7 x8 x9 x10 x11 x12 x13 x14 x15 x16 x17 x18 x19 x20 x21 x22 x23 x24 x25 x26 x27 x28 x29 x30 x31 x32 x33 x34 x35 x36 x37 x38 x39 x40 x41 x42 x43 x44 x45 x46 x47 x48 x49 x50 x51 x52 x53 x54 x55 x56 x57 x58 x59 x60 x61 x62 x63 x64 x65 x66 x67 ++ (wlO g ao out ++ (wlM g am (ap 0) m0 m1 m2 m3 m4 m5 m6 m7 m8 m9 m10 m11 m12 m13 m14 m15 m16 m17 m18 m19 m20 m21 ++ (wlP g ap u0 u1 u2 u3 u4 u5 u6 u7 u8 u9 u10 u11 u12 u13 u14 u15 u16 u17 u18 ++ t)))) Q := by
  obtain ⟨o, b, hX, hM, hag, hrel⟩ := cs_eventAt (hN1 := (by decide : 5000 < 6000)) (hN2 := (by decide : 5000 < 6000)) Rl out (gx g (i + (1 : Int32)).toNatClampNeg)
  refine r_less (x := (15 * n + 0) + 1) (y := (2701 * n + 0) + 6) (by omega) (by omega) ?_
  refine r_aload_n 1 dL_law_1430 rfl ?_
  refine r_aload_n 0 dL_law_1431 rfl ?_
  refine r_iload 4 dL_law_1432 rfl ?_
  refine r_iconst (v := (1 : Int32)) dL_law_1434 (by decide) ?_
  refine r_iadd dL_law_1435 ?_
  refine r_sld dL_law_1436 h1 ?_
  refine r_aload_n 3 dL_law_1437 rfl ?_
  refine c_LW (rest := []) (15 * n + 0) (2701 * n + 0) dL_law_1438 kt_L_206 (ct_L_eventAt hX) rfl rfl (Nat.le_of_ble_eq_true rfl) (by decide) (by decide) ?_
  refine r_istore [(5, .int o.1), (0, .ref (gb g)), (1, .ref (ad 0)), (2, .ref (am 0)), (3, .ref (ao 0)), (4, .int i)] dL_law_1441 (Nat.le_of_ble_eq_true rfl) rfl ?_
  refine r_aload_n 3 dL_law_1443 rfl ?_
  refine r_aload_n 1 dL_law_1444 rfl ?_
  refine r_iload 5 dL_law_1445 rfl ?_
  refine r_iconst (v := (1 : Int32)) dL_law_1447 (by decide) ?_
  refine r_iadd dL_law_1448 ?_
  refine r_sld dL_law_1449 h1 ?_
  refine r_perm (pmF _ _ _ _ _) ?_
  refine c_V (rest := []) (15 * n) (2701 * n) _ dL_law_1450 kv_L_208 (ct_M_eventAt hM) rfl rfl lM_0 rfl (Nat.le_of_ble_eq_true rfl) (by decide) (by decide) ?_
  refine r_istore [(6, .int b.1), (5, .int o.1), (0, .ref (gb g)), (1, .ref (ad 0)), (2, .ref (am 0)), (3, .ref (ao 0)), (4, .int i)] dL_law_1453 (Nat.le_of_ble_eq_true rfl) rfl ?_
  refine r_aload_n 4 dL_law_1455 rfl ?_
  refine c_V (rest := []) (15 * n) (2701 * n) _ dL_law_1456 kv_L_107 (ct_M_thrown rfl) rfl rfl lM_0 rfl (Nat.le_of_ble_eq_true rfl) (by decide) (by decide) ?_
  refine r_perm (pmF _ _ _ _ _) ?_
  refine r_iload 1 dL_law_1459 rfl ?_
  refine r_icmp_eq (tgt := 1466) dL_law_1461 (by decide) (fun _ => ?_) (fun hc => absurd hag.1 hc)
  refine r_iload 1 dL_law_1466 rfl ?_
  refine r_if_ne (tgt := 1483) dL_law_1468 (by decide) (fun hk => ?_) (fun hk => ?_)
  · refine r_goto (tgt := 2050) dL_law_1483 (by decide) ?_
    refine r_ls [2, 3, 4, 5, 6] (ls2 := [(0, .ref (gb g)), (1, .ref (ad 0)), (2, .ref (am 0)), (3, .ref (ao 0)), (4, .int i)]) rfl ?_
    exact K hrel
  · refine r_aload_n 5 dL_law_1471 rfl ?_
    refine r_iconst (v := (0 : Int32)) dL_law_1472 (by decide) ?_
    refine r_lald _ dL_law_1473 lO_0 (by decide) ?_
    refine r_iload 0 dL_law_1474 rfl ?_
    refine r_i2l dL_law_1476 ?_
    refine r_lcmp dL_law_1477 ?_
    refine r_if_eq (tgt := 1483) dL_law_1478 (by decide) (fun _ => ?_) (fun hc => absurd ((lg_cmp_0 _ _).mpr (hag.2 hk)) hc)
    refine r_goto (tgt := 2050) dL_law_1483 (by decide) ?_
    refine r_ls [2, 3, 4, 5, 6] (ls2 := [(0, .ref (gb g)), (1, .ref (ad 0)), (2, .ref (am 0)), (3, .ref (ao 0)), (4, .int i)]) rfl ?_
    exact K hrel
set_option maxRecDepth 20000 in
set_option maxHeartbeats 4000000 in
theorem law_29 {nm : String} {g : GG} {ad ao am ap : Nat → Nat} {x0 x1 : Int32} {x2 : Nat → Int32} {x3 x4 x5 : Int32} {x6 x7 x8 x9 x10 : Nat → Int32} {x11 x12 : Int32} {x13 x14 x15 x16 x17 : Nat → Int32} {x18 x19 x20 : Int32} {x21 x22 x23 : Nat → Int32} {x24 x25 x26 x27 x28 x29 x30 x31 : Int32} {x32 : Int64} {x33 x34 x35 : Nat → Int32} {x36 : Nat → Int64} {x37 : Int32} {x38 : Nat → Int64} {x39 x40 x41 : Int32} {x42 x43 x44 x45 x46 : Nat → Int32} {x47 x48 : Int32} {x49 x50 x51 x52 x53 : Nat → Int32} {x54 : Int32} {x55 : Nat → Int64} {x56 : Int32} {x57 : Nat → Int64} {x58 x59 x60 x61 : Int32} {x62 : Nat → Int32} {x63 x64 x65 x66 : Int32} {x67 : Nat → Int32} {m0 m1 m2 m3 m4 m5 m6 m7 m8 m9 m10 m11 m12 : Int32} {m13 m14 m15 m16 : Nat → Int32} {m17 : Nat → Int64} {m18 m19 m20 m21 : Nat → Int32} {u0 u1 u2 u3 u4 : Int32} {u5 u6 : Nat → Int64} {u7 u8 u9 u10 u11 u12 u13 u14 u15 u16 u17 u18 : Nat → Int32} {out : Nat → Int64} {t : va_W} {Q : Rs → va_W → Prop} {n : Nat} {i : Int32} (Rl : Rel x0 x1 x2 x3 x4 x5 x6 x7 x8 x9 x10 x11 x13 x14 x15 x16 x17 x18 x19 x20 x21 x37 x38 x59 x60 x61 m1 m2 m6 m7 m8 m9 m10 m11 m12 m13 m19 u0 u1 u2 u3 u7 u8 u9 u10 u11 u12 u13 u14 u15 u16 u17 u18) (h1 : ib (i + (1 : Int32)) (gL g) = true) (h2 : ib (i + (2 : Int32)) (gL g) = true) (h3 : ib (i + (3 : Int32)) (gL g) = true) (h4 : ib (i + (4 : Int32)) (gL g) = true) (K : GoK nm g ad ao am Q (15 * n) (2701 * n) i) : R g (mL_law nm) 1400 (15 * (n + 1)) (2701 * (n + 1)) 1486 [(0, .ref (gb g)), (1, .ref (ad 0)), (2, .ref (am 0)), (3, .ref (ao 0)), (4, .int i)] [] (wlX g ad x0 x1 x2 x3 x4 x5 x6 x7 x8 x9 x10 x11 x12 x13 x14 x15 x16 x17 x18 x19 x20 x21 x22 x23 x24 x25 x26 x27 x28 x29 x30 x31 x32 x33 x34 x35 x36 x37 x38 x39 x40 x41 x42 x43 x44 x45 x46 x47 x48 x49 x50 x51 x52 x53 x54 x55 x56 x57 x58 x59 x60 x61 x62 x63 x64 x65 x66 x67 ++ (wlO g ao out ++ (wlM g am (ap 0) m0 m1 m2 m3 m4 m5 m6 m7 m8 m9 m10 m11 m12 m13 m14 m15 m16 m17 m18 m19 m20 m21 ++ (wlP g ap u0 u1 u2 u3 u4 u5 u6 u7 u8 u9 u10 u11 u12 u13 u14 u15 u16 u17 u18 ++ t)))) Q := by
  obtain ⟨o, b, hX, hM, hag, hrel⟩ := cs_claimHours (hN1 := (by decide : 5000 < 6000)) (hN2 := (by decide : 5000 < 6000)) Rl out (gx g (i + (1 : Int32)).toNatClampNeg) (gx g (i + (2 : Int32)).toNatClampNeg) (gx g (i + (3 : Int32)).toNatClampNeg) (gx g (i + (4 : Int32)).toNatClampNeg)
  refine r_less (x := (15 * n + 0) + 3) (y := (2701 * n + 0) + 18) (by omega) (by omega) ?_
  refine r_aload_n 1 dL_law_1486 rfl ?_
  refine r_aload_n 0 dL_law_1487 rfl ?_
  refine r_iload 4 dL_law_1488 rfl ?_
  refine r_iconst (v := (1 : Int32)) dL_law_1490 (by decide) ?_
  refine r_iadd dL_law_1491 ?_
  refine r_sld dL_law_1492 h1 ?_
  refine r_aload_n 0 dL_law_1493 rfl ?_
  refine r_iload 4 dL_law_1494 rfl ?_
  refine r_iconst (v := (2 : Int32)) dL_law_1496 (by decide) ?_
  refine r_iadd dL_law_1497 ?_
  refine r_sld dL_law_1498 h2 ?_
  refine r_aload_n 0 dL_law_1499 rfl ?_
  refine r_iload 4 dL_law_1500 rfl ?_
  refine r_iconst (v := (3 : Int32)) dL_law_1502 (by decide) ?_
  refine r_iadd dL_law_1503 ?_
  refine r_sld dL_law_1504 h3 ?_
  refine r_aload_n 0 dL_law_1505 rfl ?_
  refine r_iload 4 dL_law_1506 rfl ?_
  refine r_iconst (v := (4 : Int32)) dL_law_1508 (by decide) ?_
  refine r_iadd dL_law_1509 ?_
  refine r_sld dL_law_1510 h4 ?_
  refine r_aload_n 3 dL_law_1511 rfl ?_
  refine c_LW (rest := []) (15 * n + 0) (2701 * n + 0) dL_law_1512 kt_L_209 (ct_L_claimHours hX) rfl rfl (Nat.le_of_ble_eq_true rfl) (by decide) (by decide) ?_
  refine r_istore [(5, .int o.1), (0, .ref (gb g)), (1, .ref (ad 0)), (2, .ref (am 0)), (3, .ref (ao 0)), (4, .int i)] dL_law_1515 (Nat.le_of_ble_eq_true rfl) rfl ?_
  refine r_aload_n 3 dL_law_1517 rfl ?_
  refine r_aload_n 1 dL_law_1518 rfl ?_
  refine r_iload 5 dL_law_1519 rfl ?_
  refine r_iconst (v := (1 : Int32)) dL_law_1521 (by decide) ?_
  refine r_iadd dL_law_1522 ?_
  refine r_sld dL_law_1523 h1 ?_
  refine r_aload_n 1 dL_law_1524 rfl ?_
  refine r_iload 5 dL_law_1525 rfl ?_
  refine r_iconst (v := (2 : Int32)) dL_law_1527 (by decide) ?_
  refine r_iadd dL_law_1528 ?_
  refine r_sld dL_law_1529 h2 ?_
  refine r_aload_n 1 dL_law_1530 rfl ?_
  refine r_iload 5 dL_law_1531 rfl ?_
  refine r_iconst (v := (3 : Int32)) dL_law_1533 (by decide) ?_
  refine r_iadd dL_law_1534 ?_
  refine r_sld dL_law_1535 h3 ?_
  refine r_aload_n 1 dL_law_1536 rfl ?_
  refine r_iload 5 dL_law_1537 rfl ?_
  refine r_iconst (v := (4 : Int32)) dL_law_1539 (by decide) ?_
  refine r_iadd dL_law_1540 ?_
  refine r_sld dL_law_1541 h4 ?_
  refine r_perm (pmF _ _ _ _ _) ?_
  refine c_V (rest := []) (15 * n) (2701 * n) _ dL_law_1542 kv_L_212 (ct_M_claimHours hM) rfl rfl lM_0 rfl (Nat.le_of_ble_eq_true rfl) (by decide) (by decide) ?_
  refine r_istore [(6, .int b.1), (5, .int o.1), (0, .ref (gb g)), (1, .ref (ad 0)), (2, .ref (am 0)), (3, .ref (ao 0)), (4, .int i)] dL_law_1545 (Nat.le_of_ble_eq_true rfl) rfl ?_
  refine r_aload_n 4 dL_law_1547 rfl ?_
  refine c_V (rest := []) (15 * n) (2701 * n) _ dL_law_1548 kv_L_107 (ct_M_thrown rfl) rfl rfl lM_0 rfl (Nat.le_of_ble_eq_true rfl) (by decide) (by decide) ?_
  refine r_perm (pmF _ _ _ _ _) ?_
  refine r_iload 1 dL_law_1551 rfl ?_
  refine r_icmp_eq (tgt := 1558) dL_law_1553 (by decide) (fun _ => ?_) (fun hc => absurd hag.1 hc)
  refine r_iload 1 dL_law_1558 rfl ?_
  refine r_if_ne (tgt := 1575) dL_law_1560 (by decide) (fun hk => ?_) (fun hk => ?_)
  · refine r_goto (tgt := 2050) dL_law_1575 (by decide) ?_
    refine r_ls [2, 3, 4, 5, 6] (ls2 := [(0, .ref (gb g)), (1, .ref (ad 0)), (2, .ref (am 0)), (3, .ref (ao 0)), (4, .int i)]) rfl ?_
    exact K hrel
  · refine r_aload_n 5 dL_law_1563 rfl ?_
    refine r_iconst (v := (0 : Int32)) dL_law_1564 (by decide) ?_
    refine r_lald _ dL_law_1565 lO_0 (by decide) ?_
    refine r_iload 0 dL_law_1566 rfl ?_
    refine r_i2l dL_law_1568 ?_
    refine r_lcmp dL_law_1569 ?_
    refine r_if_eq (tgt := 1575) dL_law_1570 (by decide) (fun _ => ?_) (fun hc => absurd ((lg_cmp_0 _ _).mpr (hag.2 hk)) hc)
    refine r_goto (tgt := 2050) dL_law_1575 (by decide) ?_
    refine r_ls [2, 3, 4, 5, 6] (ls2 := [(0, .ref (gb g)), (1, .ref (ad 0)), (2, .ref (am 0)), (3, .ref (ao 0)), (4, .int i)]) rfl ?_
    exact K hrel
