set_option maxRecDepth 20000 in
set_option maxHeartbeats 4000000 in
theorem rt_Main_digestTellers {g : GG} {ad : Nat → Nat} {t : va_W} {x0 x1 x3 x11 x12 x24 x25 x26 x27 x28 x29 x30 x31 x37 x39 x40 x41 x47 x48 x54 x56 x58 x60 x61 x63 x64 x65 x66 : Int32} {x2 x7 x8 x9 x10 x13 x14 x15 x16 x17 x22 x23 x33 x34 x35 x42 x43 x44 x45 x46 x49 x50 x51 x52 x53 x62 x67 : Nat → Int32} {x32 : Int64} {x36 x38 x55 x57 : Nat → Int64} {N : Nat} {Tap_tellerCount : Int32} {Cl_count : Int32} {Cl_tellers : Nat → Int32} {Ve_judged : Int32} {Ve_liarSet : Int32} {Ve_setCount : Int32} {Ve_against : Nat → Int32} {Co_doubted : Int32} {p1 : Int64} {o : Int64 × Int32 × Int32 × Int32} {Q : Rs → va_W → Prop} (h : f_Main_digestTellers N Tap_tellerCount Cl_count Cl_tellers Ve_judged Ve_liarSet Ve_setCount Ve_against Co_doubted p1 = some o) (hq : Q (.inl (some (.long o.1))) (wlX g ad x0 x1 x2 x3 Tap_tellerCount Cl_count Cl_tellers x7 x8 x9 x10 x11 x12 x13 x14 x15 x16 x17 o.2.1 o.2.2.1 o.2.2.2 Ve_against x22 x23 x24 x25 x26 x27 x28 x29 x30 x31 x32 x33 x34 x35 x36 x37 x38 x39 x40 x41 x42 x43 x44 x45 x46 x47 x48 x49 x50 x51 x52 x53 x54 x55 x56 x57 x58 Co_doubted x60 x61 x62 x63 x64 x65 x66 x67 ++ t)) : R g mX9_digestTellers 5 0 0 0 [(0, .ref (ad 0)), (1, .long p1)] [] (wlX g ad x0 x1 x2 x3 Tap_tellerCount Cl_count Cl_tellers x7 x8 x9 x10 x11 x12 x13 x14 x15 x16 x17 Ve_judged Ve_liarSet Ve_setCount Ve_against x22 x23 x24 x25 x26 x27 x28 x29 x30 x31 x32 x33 x34 x35 x36 x37 x38 x39 x40 x41 x42 x43 x44 x45 x46 x47 x48 x49 x50 x51 x52 x53 x54 x55 x56 x57 x58 Co_doubted x60 x61 x62 x63 x64 x65 x66 x67 ++ t) Q := by
  unfold f_Main_digestTellers at h
  refine r_lload_n 1 dX9_digestTellers_0 rfl ?_
  refine r_lstore_n [(3, .long p1), (0, .ref (ad 0)), (1, .long p1)] dX9_digestTellers_1 (by decide) rfl ?_
  refine r_aload_n 1 dX9_digestTellers_2 rfl ?_
  refine r_getf (v := .ref (ad 71)) _ dX9_digestTellers_3 fl_X9_48 lX_0 rfl ?_
  refine r_getf (v := .int Co_doubted) _ dX9_digestTellers_6 fl_X9_162 lX_71 rfl ?_
  refine r_istore [(5, .int Co_doubted), (3, .long p1), (0, .ref (ad 0)), (1, .long p1)] dX9_digestTellers_9 (by decide) rfl ?_
  refine r_iconst (v := (0 : Int32)) dX9_digestTellers_11 (by decide) ?_
  refine r_istore [(6, .int (0 : Int32)), (5, .int Co_doubted), (3, .long p1), (0, .ref (ad 0)), (1, .long p1)] dX9_digestTellers_12 (by decide) rfl ?_
  refine r_ls [3, 2, 1, 0] (ls2 := [(0, .ref (ad 0)), (3, .long p1), (5, .int Co_doubted), (6, .int (0 : Int32))]) rfl ?_
  have L1 : ∀ (n1 : Nat) (l3_1 : Int64) (l6_1 : Int32) (Ve_judged_1 : Int32) (Ve_liarSet_1 : Int32) (Ve_setCount_1 : Int32), (fun z9 => z9) (lpS (f_Main_digestTellers_L14 N Tap_tellerCount Cl_count Cl_tellers Ve_against Co_doubted) none n1 (l3_1, l6_1, Ve_judged_1, Ve_liarSet_1, Ve_setCount_1)) = some o → R g mX9_digestTellers 5 0 0 14 [(0, .ref (ad 0)), (3, .long l3_1), (5, .int Co_doubted), (6, .int l6_1)] [] (wlX g ad x0 x1 x2 x3 Tap_tellerCount Cl_count Cl_tellers x7 x8 x9 x10 x11 x12 x13 x14 x15 x16 x17 Ve_judged_1 Ve_liarSet_1 Ve_setCount_1 Ve_against x22 x23 x24 x25 x26 x27 x28 x29 x30 x31 x32 x33 x34 x35 x36 x37 x38 x39 x40 x41 x42 x43 x44 x45 x46 x47 x48 x49 x50 x51 x52 x53 x54 x55 x56 x57 x58 Co_doubted x60 x61 x62 x63 x64 x65 x66 x67 ++ t) Q := by
    intro n1
    induction n1 with
    | zero => intro l3_1 l6_1 Ve_judged_1 Ve_liarSet_1 Ve_setCount_1 h; exact nomatch (show (none : Option _) = some _ from h)
    | succ n1 ih1 =>
      intro l3_1 l6_1 Ve_judged_1 Ve_liarSet_1 Ve_setCount_1 h
      have h : (fun z9 => (lC (f_Main_digestTellers_L14 N Tap_tellerCount Cl_count Cl_tellers Ve_against Co_doubted) none n1 z9)) (f_Main_digestTellers_L14 N Tap_tellerCount Cl_count Cl_tellers Ve_against Co_doubted (l3_1, l6_1, Ve_judged_1, Ve_liarSet_1, Ve_setCount_1)) = some o := h
      unfold f_Main_digestTellers_L14 at h
      try dsimp only at h
      refine r_iload 3 dX9_digestTellers_14 rfl ?_
      refine r_aload_n 0 dX9_digestTellers_16 rfl ?_
      refine r_getf (v := .ref (ad 3)) _ dX9_digestTellers_17 fl_X9_35 lX_0 rfl ?_
      refine r_getf (v := .int Tap_tellerCount) _ dX9_digestTellers_20 fl_X9_101 lX_3 rfl ?_
      refine r_icmp_ge (tgt := 140) dX9_digestTellers_23 (by decide) (fun hc1224 => ?_) (fun hc1224 => ?_)
      · have h := ip (fun z9 => (lC (f_Main_digestTellers_L14 N Tap_tellerCount Cl_count Cl_tellers Ve_against Co_doubted) none n1 z9)) hc1224 h
        refine r_lload_n 1 dX9_digestTellers_140 rfl ?_
        refine r_lret dX9_digestTellers_141 rfl ?_
        have h := Option.some.inj (show some _ = some o from h)
        subst h
        exact hq
      · have h := iq (fun z9 => (lC (f_Main_digestTellers_L14 N Tap_tellerCount Cl_count Cl_tellers Ve_against Co_doubted) none n1 z9)) hc1224 h
        refine r_lload_n 1 dX9_digestTellers_26 rfl ?_
        refine r_ldc2 dX9_digestTellers_27 kk_870 ?_
        refine r_lmul dX9_digestTellers_30 ?_
        refine r_aload_n 0 dX9_digestTellers_31 rfl ?_
        refine r_getf (v := .ref (ad 3)) _ dX9_digestTellers_32 fl_X9_35 lX_0 rfl ?_
        refine r_getf (v := .ref (ad 4)) _ dX9_digestTellers_35 fl_X9_104 lX_3 rfl ?_
        refine r_iload 3 dX9_digestTellers_38 rfl ?_
        obtain ⟨r1225, hc1226, h⟩ := ob (fun z9 => (lC (f_Main_digestTellers_L14 N Tap_tellerCount Cl_count Cl_tellers Ve_against Co_doubted) none n1 z9)) rfl h
        refine c_V (rest := [.long (l3_1 * (31 : Int64))]) 0 0 _ dX9_digestTellers_40 kv_X9_159 (ct_Cl_countOf hc1226) rfl rfl lX_4 rfl (Nat.le_of_ble_eq_true rfl) (by decide) (by decide) ?_
        refine r_i2l dX9_digestTellers_43 ?_
        refine r_ladd dX9_digestTellers_44 ?_
        refine r_lstore_n [(3, .long ((l3_1 * (31 : Int64)) + r1225.toInt64)), (0, .ref (ad 0)), (5, .int Co_doubted), (6, .int l6_1)] dX9_digestTellers_45 (by decide) rfl ?_
        refine r_lload_n 0 dX9_digestTellers_46 rfl ?_
        refine r_ldc2 dX9_digestTellers_47 kk_870 ?_
        refine r_lmul dX9_digestTellers_50 ?_
        refine r_iload 2 dX9_digestTellers_51 rfl ?_
        refine r_iload 3 dX9_digestTellers_53 rfl ?_
        refine c_S (rest := [.long (((l3_1 * (31 : Int64)) + r1225.toInt64) * (31 : Int64))]) 0 0 dX9_digestTellers_55 ks_X9_165 (ct_Main_has rfl) rfl rfl (Nat.le_of_ble_eq_true rfl) (by decide) (by decide) ?_
        refine c_S (rest := [.long (((l3_1 * (31 : Int64)) + r1225.toInt64) * (31 : Int64))]) 0 0 dX9_digestTellers_58 ks_X9_284 (ct_Main_one rfl) rfl rfl (Nat.le_of_ble_eq_true rfl) (by decide) (by decide) ?_
        refine r_i2l dX9_digestTellers_61 ?_
        refine r_ladd dX9_digestTellers_62 ?_
        refine r_lstore_n [(3, .long ((((l3_1 * (31 : Int64)) + r1225.toInt64) * (31 : Int64)) + (f_Main_one (f_Main_has Co_doubted l6_1)).toInt64)), (0, .ref (ad 0)), (5, .int Co_doubted), (6, .int l6_1)] dX9_digestTellers_63 (by decide) rfl ?_
        refine r_lload_n 0 dX9_digestTellers_64 rfl ?_
        refine r_ldc2 dX9_digestTellers_65 kk_870 ?_
        refine r_lmul dX9_digestTellers_68 ?_
        refine r_aload_n 1 dX9_digestTellers_69 rfl ?_
        refine r_getf (v := .ref (ad 26)) _ dX9_digestTellers_70 fl_X9_39 lX_0 rfl ?_
        refine r_iload 2 dX9_digestTellers_73 rfl ?_
        obtain ⟨r1227, hc1228, h⟩ := ob (fun z9 => (lC (f_Main_digestTellers_L14 N Tap_tellerCount Cl_count Cl_tellers Ve_against Co_doubted) none n1 z9)) rfl h
        refine c_V (rest := [.long (((((l3_1 * (31 : Int64)) + r1225.toInt64) * (31 : Int64)) + (f_Main_one (f_Main_has Co_doubted l6_1)).toInt64) * (31 : Int64))]) 0 0 _ dX9_digestTellers_75 kv_X9_179 (ct_Ve_liarSet hc1228) rfl rfl lX_26 rfl (Nat.le_of_ble_eq_true rfl) (by decide) (by decide) ?_
        refine r_iload 3 dX9_digestTellers_78 rfl ?_
        refine c_S (rest := [.long (((((l3_1 * (31 : Int64)) + r1225.toInt64) * (31 : Int64)) + (f_Main_one (f_Main_has Co_doubted l6_1)).toInt64) * (31 : Int64))]) 0 0 dX9_digestTellers_80 ks_X9_165 (ct_Main_has rfl) rfl rfl (Nat.le_of_ble_eq_true rfl) (by decide) (by decide) ?_
        refine c_S (rest := [.long (((((l3_1 * (31 : Int64)) + r1225.toInt64) * (31 : Int64)) + (f_Main_one (f_Main_has Co_doubted l6_1)).toInt64) * (31 : Int64))]) 0 0 dX9_digestTellers_83 ks_X9_284 (ct_Main_one rfl) rfl rfl (Nat.le_of_ble_eq_true rfl) (by decide) (by decide) ?_
        refine r_i2l dX9_digestTellers_86 ?_
        refine r_ladd dX9_digestTellers_87 ?_
        refine r_lstore_n [(3, .long ((((((l3_1 * (31 : Int64)) + r1225.toInt64) * (31 : Int64)) + (f_Main_one (f_Main_has Co_doubted l6_1)).toInt64) * (31 : Int64)) + (f_Main_one (f_Main_has r1227.1 l6_1)).toInt64)), (0, .ref (ad 0)), (5, .int Co_doubted), (6, .int l6_1)] dX9_digestTellers_88 (by decide) rfl ?_
        refine r_iconst (v := (0 : Int32)) dX9_digestTellers_89 (by decide) ?_
        refine r_istore [(7, .int (0 : Int32)), (3, .long ((((((l3_1 * (31 : Int64)) + r1225.toInt64) * (31 : Int64)) + (f_Main_one (f_Main_has Co_doubted l6_1)).toInt64) * (31 : Int64)) + (f_Main_one (f_Main_has r1227.1 l6_1)).toInt64)), (0, .ref (ad 0)), (5, .int Co_doubted), (6, .int l6_1)] dX9_digestTellers_90 (by decide) rfl ?_
        refine r_ls [2, 1, 3, 4, 0] (ls2 := [(0, .ref (ad 0)), (3, .long ((((((l3_1 * (31 : Int64)) + r1225.toInt64) * (31 : Int64)) + (f_Main_one (f_Main_has Co_doubted l6_1)).toInt64) * (31 : Int64)) + (f_Main_one (f_Main_has r1227.1 l6_1)).toInt64)), (5, .int Co_doubted), (6, .int l6_1), (7, .int (0 : Int32))]) rfl ?_
        have L2 : ∀ (n2 : Nat) (Ve_judged_c2 : Int32) (Ve_liarSet_c2 : Int32) (Ve_setCount_c2 : Int32) (l3_2 : Int64) (l7_2 : Int32), (fun z9 => (lC (f_Main_digestTellers_L14 N Tap_tellerCount Cl_count Cl_tellers Ve_against Co_doubted) none n1 z9)) (lpS (f_Main_digestTellers_L92 Tap_tellerCount Ve_against Co_doubted l6_1 Ve_judged_c2 Ve_liarSet_c2 Ve_setCount_c2) (.inr none) n2 (l3_2, l7_2)) = some o → R g mX9_digestTellers 5 0 0 92 [(0, .ref (ad 0)), (3, .long l3_2), (5, .int Co_doubted), (6, .int l6_1), (7, .int l7_2)] [] (wlX g ad x0 x1 x2 x3 Tap_tellerCount Cl_count Cl_tellers x7 x8 x9 x10 x11 x12 x13 x14 x15 x16 x17 Ve_judged_c2 Ve_liarSet_c2 Ve_setCount_c2 Ve_against x22 x23 x24 x25 x26 x27 x28 x29 x30 x31 x32 x33 x34 x35 x36 x37 x38 x39 x40 x41 x42 x43 x44 x45 x46 x47 x48 x49 x50 x51 x52 x53 x54 x55 x56 x57 x58 Co_doubted x60 x61 x62 x63 x64 x65 x66 x67 ++ t) Q := by
          intro n2
          induction n2 with
          | zero => intro Ve_judged_c2 Ve_liarSet_c2 Ve_setCount_c2 l3_2 l7_2 h; exact nomatch (show (none : Option _) = some _ from h)
          | succ n2 ih2 =>
            intro Ve_judged_c2 Ve_liarSet_c2 Ve_setCount_c2 l3_2 l7_2 h
            have h : (fun z9 => (lC (f_Main_digestTellers_L14 N Tap_tellerCount Cl_count Cl_tellers Ve_against Co_doubted) none n1 (lC (f_Main_digestTellers_L92 Tap_tellerCount Ve_against Co_doubted l6_1 Ve_judged_c2 Ve_liarSet_c2 Ve_setCount_c2) (.inr none) n2 z9))) (f_Main_digestTellers_L92 Tap_tellerCount Ve_against Co_doubted l6_1 Ve_judged_c2 Ve_liarSet_c2 Ve_setCount_c2 (l3_2, l7_2)) = some o := h
            unfold f_Main_digestTellers_L92 at h
            try dsimp only at h
            refine r_iload 4 dX9_digestTellers_92 rfl ?_
            refine r_aload_n 0 dX9_digestTellers_94 rfl ?_
            refine r_getf (v := .ref (ad 3)) _ dX9_digestTellers_95 fl_X9_35 lX_0 rfl ?_
            refine r_getf (v := .int Tap_tellerCount) _ dX9_digestTellers_98 fl_X9_101 lX_3 rfl ?_
            refine r_icmp_ge (tgt := 134) dX9_digestTellers_101 (by decide) (fun hc1229 => ?_) (fun hc1229 => ?_)
            · have h := ip (fun z9 => (lC (f_Main_digestTellers_L14 N Tap_tellerCount Cl_count Cl_tellers Ve_against Co_doubted) none n1 (lC (f_Main_digestTellers_L92 Tap_tellerCount Ve_against Co_doubted l6_1 Ve_judged_c2 Ve_liarSet_c2 Ve_setCount_c2) (.inr none) n2 z9))) hc1229 h
              refine r_iinc (v2 := (l6_1 + (1 : Int32))) 3 [(6, .int (l6_1 + (1 : Int32))), (0, .ref (ad 0)), (3, .long l3_2), (5, .int Co_doubted), (7, .int l7_2)] dX9_digestTellers_134 rfl rfl (by decide) rfl ?_
              refine r_goto (tgt := 14) dX9_digestTellers_137 (by decide) ?_
              refine r_ls [1, 2, 3, 0] (ls2 := [(0, .ref (ad 0)), (3, .long l3_2), (5, .int Co_doubted), (6, .int (l6_1 + (1 : Int32)))]) rfl ?_
              exact ih1 l3_2 (l6_1 + (1 : Int32)) Ve_judged_c2 Ve_liarSet_c2 Ve_setCount_c2 h
            · have h := iq (fun z9 => (lC (f_Main_digestTellers_L14 N Tap_tellerCount Cl_count Cl_tellers Ve_against Co_doubted) none n1 (lC (f_Main_digestTellers_L92 Tap_tellerCount Ve_against Co_doubted l6_1 Ve_judged_c2 Ve_liarSet_c2 Ve_setCount_c2) (.inr none) n2 z9))) hc1229 h
              refine r_lload_n 1 dX9_digestTellers_104 rfl ?_
              refine r_ldc2 dX9_digestTellers_105 kk_870 ?_
              refine r_lmul dX9_digestTellers_108 ?_
              refine r_aload_n 0 dX9_digestTellers_109 rfl ?_
              refine r_getf (v := .ref (ad 26)) _ dX9_digestTellers_110 fl_X9_39 lX_0 rfl ?_
              refine r_iload 3 dX9_digestTellers_113 rfl ?_
              refine r_iload 4 dX9_digestTellers_115 rfl ?_
              refine r_iload 2 dX9_digestTellers_117 rfl ?_
              refine c_V (rest := [.long (l3_2 * (31 : Int64))]) 0 0 _ dX9_digestTellers_119 kv_X9_168 (ct_Ve_tellersContradict rfl) rfl rfl lX_26 rfl (Nat.le_of_ble_eq_true rfl) (by decide) (by decide) ?_
              refine c_S (rest := [.long (l3_2 * (31 : Int64))]) 0 0 dX9_digestTellers_122 ks_X9_284 (ct_Main_one rfl) rfl rfl (Nat.le_of_ble_eq_true rfl) (by decide) (by decide) ?_
              refine r_i2l dX9_digestTellers_125 ?_
              refine r_ladd dX9_digestTellers_126 ?_
              refine r_lstore_n [(3, .long ((l3_2 * (31 : Int64)) + (f_Main_one (f_Ve_tellersContradict Ve_against l6_1 l7_2 Co_doubted)).toInt64)), (0, .ref (ad 0)), (5, .int Co_doubted), (6, .int l6_1), (7, .int l7_2)] dX9_digestTellers_127 (by decide) rfl ?_
              refine r_iinc (v2 := (l7_2 + (1 : Int32))) 4 [(7, .int (l7_2 + (1 : Int32))), (3, .long ((l3_2 * (31 : Int64)) + (f_Main_one (f_Ve_tellersContradict Ve_against l6_1 l7_2 Co_doubted)).toInt64)), (0, .ref (ad 0)), (5, .int Co_doubted), (6, .int l6_1)] dX9_digestTellers_128 rfl rfl (by decide) rfl ?_
              refine r_goto (tgt := 92) dX9_digestTellers_131 (by decide) ?_
              refine r_ls [2, 1, 3, 4, 0] (ls2 := [(0, .ref (ad 0)), (3, .long ((l3_2 * (31 : Int64)) + (f_Main_one (f_Ve_tellersContradict Ve_against l6_1 l7_2 Co_doubted)).toInt64)), (5, .int Co_doubted), (6, .int l6_1), (7, .int (l7_2 + (1 : Int32)))]) rfl ?_
              exact ih2 Ve_judged_c2 Ve_liarSet_c2 Ve_setCount_c2 ((l3_2 * (31 : Int64)) + (f_Main_one (f_Ve_tellersContradict Ve_against l6_1 l7_2 Co_doubted)).toInt64) (l7_2 + (1 : Int32)) h
        exact L2 _ r1227.2.1 r1227.2.2.1 r1227.2.2.2 ((((((l3_1 * (31 : Int64)) + r1225.toInt64) * (31 : Int64)) + (f_Main_one (f_Main_has Co_doubted l6_1)).toInt64) * (31 : Int64)) + (f_Main_one (f_Main_has r1227.1 l6_1)).toInt64) (0 : Int32) h
  exact L1 _ p1 (0 : Int32) Ve_judged Ve_liarSet Ve_setCount h
theorem ct_Main_digestTellers {g : GG} {ad : Nat → Nat} {t : va_W} {x0 x1 x3 x11 x12 x24 x25 x26 x27 x28 x29 x30 x31 x37 x39 x40 x41 x47 x48 x54 x56 x58 x60 x61 x63 x64 x65 x66 : Int32} {x2 x7 x8 x9 x10 x13 x14 x15 x16 x17 x22 x23 x33 x34 x35 x42 x43 x44 x45 x46 x49 x50 x51 x52 x53 x62 x67 : Nat → Int32} {x32 : Int64} {x36 x38 x55 x57 : Nat → Int64} {N : Nat} {Tap_tellerCount : Int32} {Cl_count : Int32} {Cl_tellers : Nat → Int32} {Ve_judged : Int32} {Ve_liarSet : Int32} {Ve_setCount : Int32} {Ve_against : Nat → Int32} {Co_doubted : Int32} {p1 : Int64} {o : Int64 × Int32 × Int32 × Int32} (h : f_Main_digestTellers N Tap_tellerCount Cl_count Cl_tellers Ve_judged Ve_liarSet Ve_setCount Ve_against Co_doubted p1 = some o) : Ct g mX9_digestTellers 5 0 0 [.ref (ad 0), .long p1] (wlX g ad x0 x1 x2 x3 Tap_tellerCount Cl_count Cl_tellers x7 x8 x9 x10 x11 x12 x13 x14 x15 x16 x17 Ve_judged Ve_liarSet Ve_setCount Ve_against x22 x23 x24 x25 x26 x27 x28 x29 x30 x31 x32 x33 x34 x35 x36 x37 x38 x39 x40 x41 x42 x43 x44 x45 x46 x47 x48 x49 x50 x51 x52 x53 x54 x55 x56 x57 x58 Co_doubted x60 x61 x62 x63 x64 x65 x66 x67 ++ t) (Dv (some (.long o.1)) (wlX g ad x0 x1 x2 x3 Tap_tellerCount Cl_count Cl_tellers x7 x8 x9 x10 x11 x12 x13 x14 x15 x16 x17 o.2.1 o.2.2.1 o.2.2.2 Ve_against x22 x23 x24 x25 x26 x27 x28 x29 x30 x31 x32 x33 x34 x35 x36 x37 x38 x39 x40 x41 x42 x43 x44 x45 x46 x47 x48 x49 x50 x51 x52 x53 x54 x55 x56 x57 x58 Co_doubted x60 x61 x62 x63 x64 x65 x66 x67 ++ t)) := Ct.ofR (by decide +kernel) rfl (Nat.le_of_ble_eq_true rfl) (rt_Main_digestTellers h ⟨rfl, rfl⟩)
set_option maxRecDepth 20000 in
set_option maxHeartbeats 4000000 in
theorem rt_Main_digestEvents {g : GG} {ad : Nat → Nat} {t : va_W} {x0 x1 x11 x12 x24 x25 x26 x27 x28 x29 x30 x31 x37 x39 x40 x41 x47 x48 x54 x56 x58 x60 x61 x63 x64 x65 x66 : Int32} {x2 x13 x14 x15 x16 x17 x33 x34 x35 x42 x43 x44 x45 x46 x49 x50 x51 x52 x53 x62 x67 : Nat → Int32} {x32 : Int64} {x36 x38 x55 x57 : Nat → Int64} {N : Nat} {Tap_eventCount : Int32} {Tap_tellerCount : Int32} {Cl_count : Int32} {Cl_tellers : Nat → Int32} {Cl_kinds : Nat → Int32} {Cl_events : Nat → Int32} {Cl_firsts : Nat → Int32} {Cl_lasts : Nat → Int32} {Ve_judged : Int32} {Ve_liarSet : Int32} {Ve_setCount : Int32} {Ve_against : Nat → Int32} {Ve_ahead : Nat → Int32} {Ve_order : Nat → Int32} {Co_doubted : Int32} {p1 : Int64} {o : Int64 × Int32 × Int32 × Int32 × (Nat → Int32) × (Nat → Int32)} {Q : Rs → va_W → Prop} (h : f_Main_digestEvents N Tap_eventCount Tap_tellerCount Cl_count Cl_tellers Cl_kinds Cl_events Cl_firsts Cl_lasts Ve_judged Ve_liarSet Ve_setCount Ve_against Ve_ahead Ve_order Co_doubted p1 = some o) (hq : Q (.inl (some (.long o.1))) (wlX g ad x0 x1 x2 Tap_eventCount Tap_tellerCount Cl_count Cl_tellers Cl_kinds Cl_events Cl_firsts Cl_lasts x11 x12 x13 x14 x15 x16 x17 o.2.1 o.2.2.1 o.2.2.2.1 Ve_against o.2.2.2.2.1 o.2.2.2.2.2 x24 x25 x26 x27 x28 x29 x30 x31 x32 x33 x34 x35 x36 x37 x38 x39 x40 x41 x42 x43 x44 x45 x46 x47 x48 x49 x50 x51 x52 x53 x54 x55 x56 x57 x58 Co_doubted x60 x61 x62 x63 x64 x65 x66 x67 ++ t)) : R g mX9_digestEvents 6 0 0 0 [(0, .ref (ad 0)), (1, .long p1)] [] (wlX g ad x0 x1 x2 Tap_eventCount Tap_tellerCount Cl_count Cl_tellers Cl_kinds Cl_events Cl_firsts Cl_lasts x11 x12 x13 x14 x15 x16 x17 Ve_judged Ve_liarSet Ve_setCount Ve_against Ve_ahead Ve_order x24 x25 x26 x27 x28 x29 x30 x31 x32 x33 x34 x35 x36 x37 x38 x39 x40 x41 x42 x43 x44 x45 x46 x47 x48 x49 x50 x51 x52 x53 x54 x55 x56 x57 x58 Co_doubted x60 x61 x62 x63 x64 x65 x66 x67 ++ t) Q := by
  unfold f_Main_digestEvents at h
  refine r_lload_n 1 dX9_digestEvents_0 rfl ?_
  refine r_lstore_n [(3, .long p1), (0, .ref (ad 0)), (1, .long p1)] dX9_digestEvents_1 (by decide) rfl ?_
  refine r_aload_n 1 dX9_digestEvents_2 rfl ?_
  refine r_getf (v := .ref (ad 26)) _ dX9_digestEvents_3 fl_X9_39 lX_0 rfl ?_
  refine r_aload_n 1 dX9_digestEvents_6 rfl ?_
  refine r_getf (v := .ref (ad 71)) _ dX9_digestEvents_7 fl_X9_48 lX_0 rfl ?_
  refine r_getf (v := .int Co_doubted) _ dX9_digestEvents_10 fl_X9_162 lX_71 rfl ?_
  obtain ⟨r1230, hc1231, h⟩ := ob (fun z9 => z9) rfl h
  refine c_V (rest := []) 0 0 _ dX9_digestEvents_13 kv_X9_207 (ct_Ve_arrange hc1231) rfl rfl lX_26 rfl (Nat.le_of_ble_eq_true rfl) (by decide) (by decide) ?_
  refine r_istore [(5, .int r1230.1), (3, .long p1), (0, .ref (ad 0)), (1, .long p1)] dX9_digestEvents_16 (by decide) rfl ?_
  refine r_iconst (v := (0 : Int32)) dX9_digestEvents_18 (by decide) ?_
  refine r_istore [(6, .int (0 : Int32)), (5, .int r1230.1), (3, .long p1), (0, .ref (ad 0)), (1, .long p1)] dX9_digestEvents_19 (by decide) rfl ?_
  refine r_ls [3, 2, 1, 0] (ls2 := [(0, .ref (ad 0)), (3, .long p1), (5, .int r1230.1), (6, .int (0 : Int32))]) rfl ?_
  have L1 : ∀ (n1 : Nat) (c5_1 : Int32) (Ve_judged_c1 : Int32) (Ve_liarSet_c1 : Int32) (Ve_setCount_c1 : Int32) (Ve_ahead_c1 : Nat → Int32) (Ve_order_c1 : Nat → Int32) (l3_1 : Int64) (l6_1 : Int32), (fun z9 => z9) (lpS (f_Main_digestEvents_L21 N Tap_eventCount Cl_count Cl_tellers Cl_kinds Cl_events Cl_firsts Cl_lasts Co_doubted c5_1 Ve_judged_c1 Ve_liarSet_c1 Ve_setCount_c1 Ve_ahead_c1 Ve_order_c1) none n1 (l3_1, l6_1)) = some o → R g mX9_digestEvents 6 0 0 21 [(0, .ref (ad 0)), (3, .long l3_1), (5, .int c5_1), (6, .int l6_1)] [] (wlX g ad x0 x1 x2 Tap_eventCount Tap_tellerCount Cl_count Cl_tellers Cl_kinds Cl_events Cl_firsts Cl_lasts x11 x12 x13 x14 x15 x16 x17 Ve_judged_c1 Ve_liarSet_c1 Ve_setCount_c1 Ve_against Ve_ahead_c1 Ve_order_c1 x24 x25 x26 x27 x28 x29 x30 x31 x32 x33 x34 x35 x36 x37 x38 x39 x40 x41 x42 x43 x44 x45 x46 x47 x48 x49 x50 x51 x52 x53 x54 x55 x56 x57 x58 Co_doubted x60 x61 x62 x63 x64 x65 x66 x67 ++ t) Q := by
    intro n1
    induction n1 with
    | zero => intro c5_1 Ve_judged_c1 Ve_liarSet_c1 Ve_setCount_c1 Ve_ahead_c1 Ve_order_c1 l3_1 l6_1 h; exact nomatch (show (none : Option _) = some _ from h)
    | succ n1 ih1 =>
      intro c5_1 Ve_judged_c1 Ve_liarSet_c1 Ve_setCount_c1 Ve_ahead_c1 Ve_order_c1 l3_1 l6_1 h
      have h : (fun z9 => (lC (f_Main_digestEvents_L21 N Tap_eventCount Cl_count Cl_tellers Cl_kinds Cl_events Cl_firsts Cl_lasts Co_doubted c5_1 Ve_judged_c1 Ve_liarSet_c1 Ve_setCount_c1 Ve_ahead_c1 Ve_order_c1) none n1 z9)) (f_Main_digestEvents_L21 N Tap_eventCount Cl_count Cl_tellers Cl_kinds Cl_events Cl_firsts Cl_lasts Co_doubted c5_1 Ve_judged_c1 Ve_liarSet_c1 Ve_setCount_c1 Ve_ahead_c1 Ve_order_c1 (l3_1, l6_1)) = some o := h
      unfold f_Main_digestEvents_L21 at h
      try dsimp only at h
      refine r_iload 3 dX9_digestEvents_21 rfl ?_
      refine r_aload_n 0 dX9_digestEvents_23 rfl ?_
      refine r_getf (v := .ref (ad 3)) _ dX9_digestEvents_24 fl_X9_35 lX_0 rfl ?_
      refine r_getf (v := .int Tap_eventCount) _ dX9_digestEvents_27 fl_X9_98 lX_3 rfl ?_
      refine r_icmp_ge (tgt := 173) dX9_digestEvents_30 (by decide) (fun hc1232 => ?_) (fun hc1232 => ?_)
      · have h := ip (fun z9 => (lC (f_Main_digestEvents_L21 N Tap_eventCount Cl_count Cl_tellers Cl_kinds Cl_events Cl_firsts Cl_lasts Co_doubted c5_1 Ve_judged_c1 Ve_liarSet_c1 Ve_setCount_c1 Ve_ahead_c1 Ve_order_c1) none n1 z9)) hc1232 h
        refine r_lload_n 1 dX9_digestEvents_173 rfl ?_
        refine r_lret dX9_digestEvents_174 rfl ?_
        have h := Option.some.inj (show some _ = some o from h)
        subst h
        exact hq
      · have h := iq (fun z9 => (lC (f_Main_digestEvents_L21 N Tap_eventCount Cl_count Cl_tellers Cl_kinds Cl_events Cl_firsts Cl_lasts Co_doubted c5_1 Ve_judged_c1 Ve_liarSet_c1 Ve_setCount_c1 Ve_ahead_c1 Ve_order_c1) none n1 z9)) hc1232 h
        refine r_aload_n 0 dX9_digestEvents_33 rfl ?_
        refine r_getf (v := .ref (ad 26)) _ dX9_digestEvents_34 fl_X9_39 lX_0 rfl ?_
        refine r_iload 3 dX9_digestEvents_37 rfl ?_
        refine r_aload_n 0 dX9_digestEvents_39 rfl ?_
        refine r_getf (v := .ref (ad 71)) _ dX9_digestEvents_40 fl_X9_48 lX_0 rfl ?_
        refine r_getf (v := .int Co_doubted) _ dX9_digestEvents_43 fl_X9_162 lX_71 rfl ?_
        obtain ⟨r1233, hc1234, h⟩ := ob (fun z9 => (lC (f_Main_digestEvents_L21 N Tap_eventCount Cl_count Cl_tellers Cl_kinds Cl_events Cl_firsts Cl_lasts Co_doubted c5_1 Ve_judged_c1 Ve_liarSet_c1 Ve_setCount_c1 Ve_ahead_c1 Ve_order_c1) none n1 z9)) rfl h
        refine c_V (rest := []) 0 0 _ dX9_digestEvents_46 kv_X9_195 (ct_Ve_windowHours hc1234) rfl rfl lX_26 rfl (Nat.le_of_ble_eq_true rfl) (by decide) (by decide) ?_
        refine r_if_le (tgt := 56) dX9_digestEvents_49 (by decide) (fun hc1235 => ?_) (fun hc1235 => ?_)
        · have h := ip (fun z9 => (lC (f_Main_digestEvents_L21 N Tap_eventCount Cl_count Cl_tellers Cl_kinds Cl_events Cl_firsts Cl_lasts Co_doubted c5_1 Ve_judged_c1 Ve_liarSet_c1 Ve_setCount_c1 Ve_ahead_c1 Ve_order_c1) none n1 z9)) hc1235 h
          refine r_iconst (v := (0 : Int32)) dX9_digestEvents_56 (by decide) ?_
          refine r_istore [(7, .int (0 : Int32)), (0, .ref (ad 0)), (3, .long l3_1), (5, .int c5_1), (6, .int l6_1)] dX9_digestEvents_57 (by decide) rfl ?_
          refine r_lload_n 2 dX9_digestEvents_59 rfl ?_
          refine r_ldc2 dX9_digestEvents_60 kk_870 ?_
          refine r_lmul dX9_digestEvents_63 ?_
          refine r_iload 0 dX9_digestEvents_64 rfl ?_
          refine c_S (rest := [.long (l3_1 * (31 : Int64))]) 0 0 dX9_digestEvents_66 ks_X9_284 (ct_Main_one rfl) rfl rfl (Nat.le_of_ble_eq_true rfl) (by decide) (by decide) ?_
          refine r_i2l dX9_digestEvents_69 ?_
          refine r_ladd dX9_digestEvents_70 ?_
          refine r_lstore_n [(3, .long ((l3_1 * (31 : Int64)) + (f_Main_one (0 : Int32)).toInt64)), (7, .int (0 : Int32)), (0, .ref (ad 0)), (5, .int c5_1), (6, .int l6_1)] dX9_digestEvents_71 (by decide) rfl ?_
          refine r_lload_n 0 dX9_digestEvents_72 rfl ?_
          refine r_ldc2 dX9_digestEvents_73 kk_870 ?_
          refine r_lmul dX9_digestEvents_76 ?_
          refine r_iload 1 dX9_digestEvents_77 rfl ?_
          refine r_if_eq (tgt := 101) dX9_digestEvents_79 (by decide) (fun _ => ?_) (fun hc => absurd hc (by decide))
          refine r_iconst (v := (-1 : Int32)) dX9_digestEvents_101 (by decide) ?_
          refine r_i2l dX9_digestEvents_102 ?_
          refine r_ladd dX9_digestEvents_103 ?_
          refine r_lstore_n [(3, .long ((((l3_1 * (31 : Int64)) + (f_Main_one (0 : Int32)).toInt64) * (31 : Int64)) + (-1 : Int32).toInt64)), (7, .int (0 : Int32)), (0, .ref (ad 0)), (5, .int c5_1), (6, .int l6_1)] dX9_digestEvents_104 (by decide) rfl ?_
          refine r_lload_n 0 dX9_digestEvents_105 rfl ?_
          refine r_ldc2 dX9_digestEvents_106 kk_870 ?_
          refine r_lmul dX9_digestEvents_109 ?_
          refine r_iload 1 dX9_digestEvents_110 rfl ?_
          refine r_if_eq (tgt := 134) dX9_digestEvents_112 (by decide) (fun _ => ?_) (fun hc => absurd hc (by decide))
          refine r_iconst (v := (-1 : Int32)) dX9_digestEvents_134 (by decide) ?_
          refine r_i2l dX9_digestEvents_135 ?_
          refine r_ladd dX9_digestEvents_136 ?_
          refine r_lstore_n [(3, .long ((((((l3_1 * (31 : Int64)) + (f_Main_one (0 : Int32)).toInt64) * (31 : Int64)) + (-1 : Int32).toInt64) * (31 : Int64)) + (-1 : Int32).toInt64)), (7, .int (0 : Int32)), (0, .ref (ad 0)), (5, .int c5_1), (6, .int l6_1)] dX9_digestEvents_137 (by decide) rfl ?_
          refine r_lload_n 0 dX9_digestEvents_138 rfl ?_
          refine r_ldc2 dX9_digestEvents_139 kk_870 ?_
          refine r_lmul dX9_digestEvents_142 ?_
          refine r_iload 3 dX9_digestEvents_143 rfl ?_
          refine r_if_eq (tgt := 163) dX9_digestEvents_145 (by decide) (fun hc1236 => ?_) (fun hc1236 => ?_)
          · have h := ip (fun z9 => (lC (f_Main_digestEvents_L21 N Tap_eventCount Cl_count Cl_tellers Cl_kinds Cl_events Cl_firsts Cl_lasts Co_doubted c5_1 Ve_judged_c1 Ve_liarSet_c1 Ve_setCount_c1 Ve_ahead_c1 Ve_order_c1) none n1 z9)) hc1236 h
            refine r_iconst (v := (-1 : Int32)) dX9_digestEvents_163 (by decide) ?_
            refine r_i2l dX9_digestEvents_164 ?_
            refine r_ladd dX9_digestEvents_165 ?_
            refine r_lstore_n [(3, .long ((((((((l3_1 * (31 : Int64)) + (f_Main_one (0 : Int32)).toInt64) * (31 : Int64)) + (-1 : Int32).toInt64) * (31 : Int64)) + (-1 : Int32).toInt64) * (31 : Int64)) + (-1 : Int32).toInt64)), (7, .int (0 : Int32)), (0, .ref (ad 0)), (5, .int c5_1), (6, .int l6_1)] dX9_digestEvents_166 (by decide) rfl ?_
            refine r_iinc (v2 := (l6_1 + (1 : Int32))) 4 [(6, .int (l6_1 + (1 : Int32))), (3, .long ((((((((l3_1 * (31 : Int64)) + (f_Main_one (0 : Int32)).toInt64) * (31 : Int64)) + (-1 : Int32).toInt64) * (31 : Int64)) + (-1 : Int32).toInt64) * (31 : Int64)) + (-1 : Int32).toInt64)), (7, .int (0 : Int32)), (0, .ref (ad 0)), (5, .int c5_1)] dX9_digestEvents_167 rfl rfl (by decide) rfl ?_
            refine r_goto (tgt := 21) dX9_digestEvents_170 (by decide) ?_
            refine r_ls [3, 1, 4, 0] (ls2 := [(0, .ref (ad 0)), (3, .long ((((((((l3_1 * (31 : Int64)) + (f_Main_one (0 : Int32)).toInt64) * (31 : Int64)) + (-1 : Int32).toInt64) * (31 : Int64)) + (-1 : Int32).toInt64) * (31 : Int64)) + (-1 : Int32).toInt64)), (5, .int c5_1), (6, .int (l6_1 + (1 : Int32)))]) rfl ?_
            exact ih1 c5_1 Ve_judged_c1 Ve_liarSet_c1 Ve_setCount_c1 Ve_ahead_c1 Ve_order_c1 ((((((((l3_1 * (31 : Int64)) + (f_Main_one (0 : Int32)).toInt64) * (31 : Int64)) + (-1 : Int32).toInt64) * (31 : Int64)) + (-1 : Int32).toInt64) * (31 : Int64)) + (-1 : Int32).toInt64) (l6_1 + (1 : Int32)) h
          · have h := iq (fun z9 => (lC (f_Main_digestEvents_L21 N Tap_eventCount Cl_count Cl_tellers Cl_kinds Cl_events Cl_firsts Cl_lasts Co_doubted c5_1 Ve_judged_c1 Ve_liarSet_c1 Ve_setCount_c1 Ve_ahead_c1 Ve_order_c1) none n1 z9)) hc1236 h
            refine r_aload_n 2 dX9_digestEvents_148 rfl ?_
            refine r_getf (v := .ref (ad 26)) _ dX9_digestEvents_149 fl_X9_39 lX_0 rfl ?_
            refine r_getf (v := .ref (ad 31)) _ dX9_digestEvents_152 fl_X9_215 lX_26 rfl ?_
            refine r_iload 4 dX9_digestEvents_155 rfl ?_
            refine c_V (rest := [.long (((((((l3_1 * (31 : Int64)) + (f_Main_one (0 : Int32)).toInt64) * (31 : Int64)) + (-1 : Int32).toInt64) * (31 : Int64)) + (-1 : Int32).toInt64) * (31 : Int64))]) 0 0 _ dX9_digestEvents_157 kv_X9_125 (ct_Row_get lX_31 lX_32 (Nat.le_of_ble_eq_true rfl)) rfl rfl lX_31 rfl (Nat.le_of_ble_eq_true rfl) (by decide) (by decide) ?_
            refine r_goto (tgt := 164) dX9_digestEvents_160 (by decide) ?_
            refine r_i2l dX9_digestEvents_164 ?_
            refine r_ladd dX9_digestEvents_165 ?_
            refine r_lstore_n [(3, .long ((((((((l3_1 * (31 : Int64)) + (f_Main_one (0 : Int32)).toInt64) * (31 : Int64)) + (-1 : Int32).toInt64) * (31 : Int64)) + (-1 : Int32).toInt64) * (31 : Int64)) + (rget 8 Ve_order_c1 l6_1).toInt64)), (7, .int (0 : Int32)), (0, .ref (ad 0)), (5, .int c5_1), (6, .int l6_1)] dX9_digestEvents_166 (by decide) rfl ?_
            refine r_iinc (v2 := (l6_1 + (1 : Int32))) 4 [(6, .int (l6_1 + (1 : Int32))), (3, .long ((((((((l3_1 * (31 : Int64)) + (f_Main_one (0 : Int32)).toInt64) * (31 : Int64)) + (-1 : Int32).toInt64) * (31 : Int64)) + (-1 : Int32).toInt64) * (31 : Int64)) + (rget 8 Ve_order_c1 l6_1).toInt64)), (7, .int (0 : Int32)), (0, .ref (ad 0)), (5, .int c5_1)] dX9_digestEvents_167 rfl rfl (by decide) rfl ?_
            refine r_goto (tgt := 21) dX9_digestEvents_170 (by decide) ?_
            refine r_ls [3, 1, 4, 0] (ls2 := [(0, .ref (ad 0)), (3, .long ((((((((l3_1 * (31 : Int64)) + (f_Main_one (0 : Int32)).toInt64) * (31 : Int64)) + (-1 : Int32).toInt64) * (31 : Int64)) + (-1 : Int32).toInt64) * (31 : Int64)) + (rget 8 Ve_order_c1 l6_1).toInt64)), (5, .int c5_1), (6, .int (l6_1 + (1 : Int32)))]) rfl ?_
            exact ih1 c5_1 Ve_judged_c1 Ve_liarSet_c1 Ve_setCount_c1 Ve_ahead_c1 Ve_order_c1 ((((((((l3_1 * (31 : Int64)) + (f_Main_one (0 : Int32)).toInt64) * (31 : Int64)) + (-1 : Int32).toInt64) * (31 : Int64)) + (-1 : Int32).toInt64) * (31 : Int64)) + (rget 8 Ve_order_c1 l6_1).toInt64) (l6_1 + (1 : Int32)) h
        · have h := iq (fun z9 => (lC (f_Main_digestEvents_L21 N Tap_eventCount Cl_count Cl_tellers Cl_kinds Cl_events Cl_firsts Cl_lasts Co_doubted c5_1 Ve_judged_c1 Ve_liarSet_c1 Ve_setCount_c1 Ve_ahead_c1 Ve_order_c1) none n1 z9)) hc1235 h
          refine r_iconst (v := (1 : Int32)) dX9_digestEvents_52 (by decide) ?_
          refine r_goto (tgt := 57) dX9_digestEvents_53 (by decide) ?_
          refine r_istore [(7, .int (1 : Int32)), (0, .ref (ad 0)), (3, .long l3_1), (5, .int c5_1), (6, .int l6_1)] dX9_digestEvents_57 (by decide) rfl ?_
          refine r_lload_n 2 dX9_digestEvents_59 rfl ?_
          refine r_ldc2 dX9_digestEvents_60 kk_870 ?_
          refine r_lmul dX9_digestEvents_63 ?_
          refine r_iload 0 dX9_digestEvents_64 rfl ?_
          refine c_S (rest := [.long (l3_1 * (31 : Int64))]) 0 0 dX9_digestEvents_66 ks_X9_284 (ct_Main_one rfl) rfl rfl (Nat.le_of_ble_eq_true rfl) (by decide) (by decide) ?_
          refine r_i2l dX9_digestEvents_69 ?_
          refine r_ladd dX9_digestEvents_70 ?_
          refine r_lstore_n [(3, .long ((l3_1 * (31 : Int64)) + (f_Main_one (1 : Int32)).toInt64)), (7, .int (1 : Int32)), (0, .ref (ad 0)), (5, .int c5_1), (6, .int l6_1)] dX9_digestEvents_71 (by decide) rfl ?_
          refine r_lload_n 0 dX9_digestEvents_72 rfl ?_
          refine r_ldc2 dX9_digestEvents_73 kk_870 ?_
          refine r_lmul dX9_digestEvents_76 ?_
          refine r_iload 1 dX9_digestEvents_77 rfl ?_
          refine r_if_eq (tgt := 101) dX9_digestEvents_79 (by decide) (fun hc => absurd hc (by decide)) (fun _ => ?_)
          refine r_aload_n 2 dX9_digestEvents_82 rfl ?_
          refine r_getf (v := .ref (ad 26)) _ dX9_digestEvents_83 fl_X9_39 lX_0 rfl ?_
          refine r_iload 4 dX9_digestEvents_86 rfl ?_
          refine r_aload_n 2 dX9_digestEvents_88 rfl ?_
          refine r_getf (v := .ref (ad 71)) _ dX9_digestEvents_89 fl_X9_48 lX_0 rfl ?_
          refine r_getf (v := .int Co_doubted) _ dX9_digestEvents_92 fl_X9_162 lX_71 rfl ?_
          obtain ⟨r1237, hc1238, h⟩ := ob (fun z9 => (lC (f_Main_digestEvents_L21 N Tap_eventCount Cl_count Cl_tellers Cl_kinds Cl_events Cl_firsts Cl_lasts Co_doubted c5_1 Ve_judged_c1 Ve_liarSet_c1 Ve_setCount_c1 Ve_ahead_c1 Ve_order_c1) none n1 z9)) rfl h
          refine c_V (rest := [.long (((l3_1 * (31 : Int64)) + (f_Main_one (1 : Int32)).toInt64) * (31 : Int64))]) 0 0 _ dX9_digestEvents_95 kv_X9_201 (ct_Ve_firstHour hc1238) rfl rfl lX_26 rfl (Nat.le_of_ble_eq_true rfl) (by decide) (by decide) ?_
          refine r_goto (tgt := 102) dX9_digestEvents_98 (by decide) ?_
          refine r_i2l dX9_digestEvents_102 ?_
          refine r_ladd dX9_digestEvents_103 ?_
          refine r_lstore_n [(3, .long ((((l3_1 * (31 : Int64)) + (f_Main_one (1 : Int32)).toInt64) * (31 : Int64)) + r1237.toInt64)), (7, .int (1 : Int32)), (0, .ref (ad 0)), (5, .int c5_1), (6, .int l6_1)] dX9_digestEvents_104 (by decide) rfl ?_
          refine r_lload_n 0 dX9_digestEvents_105 rfl ?_
          refine r_ldc2 dX9_digestEvents_106 kk_870 ?_
          refine r_lmul dX9_digestEvents_109 ?_
          refine r_iload 1 dX9_digestEvents_110 rfl ?_
          refine r_if_eq (tgt := 134) dX9_digestEvents_112 (by decide) (fun hc => absurd hc (by decide)) (fun _ => ?_)
          refine r_aload_n 2 dX9_digestEvents_115 rfl ?_
          refine r_getf (v := .ref (ad 26)) _ dX9_digestEvents_116 fl_X9_39 lX_0 rfl ?_
          refine r_iload 4 dX9_digestEvents_119 rfl ?_
          refine r_aload_n 2 dX9_digestEvents_121 rfl ?_
          refine r_getf (v := .ref (ad 71)) _ dX9_digestEvents_122 fl_X9_48 lX_0 rfl ?_
          refine r_getf (v := .int Co_doubted) _ dX9_digestEvents_125 fl_X9_162 lX_71 rfl ?_
          obtain ⟨r1239, hc1240, h⟩ := ob (fun z9 => (lC (f_Main_digestEvents_L21 N Tap_eventCount Cl_count Cl_tellers Cl_kinds Cl_events Cl_firsts Cl_lasts Co_doubted c5_1 Ve_judged_c1 Ve_liarSet_c1 Ve_setCount_c1 Ve_ahead_c1 Ve_order_c1) none n1 z9)) rfl h
          refine c_V (rest := [.long (((((l3_1 * (31 : Int64)) + (f_Main_one (1 : Int32)).toInt64) * (31 : Int64)) + r1237.toInt64) * (31 : Int64))]) 0 0 _ dX9_digestEvents_128 kv_X9_204 (ct_Ve_lastHour hc1240) rfl rfl lX_26 rfl (Nat.le_of_ble_eq_true rfl) (by decide) (by decide) ?_
          refine r_goto (tgt := 135) dX9_digestEvents_131 (by decide) ?_
          refine r_i2l dX9_digestEvents_135 ?_
          refine r_ladd dX9_digestEvents_136 ?_
          refine r_lstore_n [(3, .long ((((((l3_1 * (31 : Int64)) + (f_Main_one (1 : Int32)).toInt64) * (31 : Int64)) + r1237.toInt64) * (31 : Int64)) + r1239.toInt64)), (7, .int (1 : Int32)), (0, .ref (ad 0)), (5, .int c5_1), (6, .int l6_1)] dX9_digestEvents_137 (by decide) rfl ?_
          refine r_lload_n 0 dX9_digestEvents_138 rfl ?_
          refine r_ldc2 dX9_digestEvents_139 kk_870 ?_
          refine r_lmul dX9_digestEvents_142 ?_
          refine r_iload 3 dX9_digestEvents_143 rfl ?_
          refine r_if_eq (tgt := 163) dX9_digestEvents_145 (by decide) (fun hc1241 => ?_) (fun hc1241 => ?_)
          · have h := ip (fun z9 => (lC (f_Main_digestEvents_L21 N Tap_eventCount Cl_count Cl_tellers Cl_kinds Cl_events Cl_firsts Cl_lasts Co_doubted c5_1 Ve_judged_c1 Ve_liarSet_c1 Ve_setCount_c1 Ve_ahead_c1 Ve_order_c1) none n1 z9)) hc1241 h
            refine r_iconst (v := (-1 : Int32)) dX9_digestEvents_163 (by decide) ?_
            refine r_i2l dX9_digestEvents_164 ?_
            refine r_ladd dX9_digestEvents_165 ?_
            refine r_lstore_n [(3, .long ((((((((l3_1 * (31 : Int64)) + (f_Main_one (1 : Int32)).toInt64) * (31 : Int64)) + r1237.toInt64) * (31 : Int64)) + r1239.toInt64) * (31 : Int64)) + (-1 : Int32).toInt64)), (7, .int (1 : Int32)), (0, .ref (ad 0)), (5, .int c5_1), (6, .int l6_1)] dX9_digestEvents_166 (by decide) rfl ?_
            refine r_iinc (v2 := (l6_1 + (1 : Int32))) 4 [(6, .int (l6_1 + (1 : Int32))), (3, .long ((((((((l3_1 * (31 : Int64)) + (f_Main_one (1 : Int32)).toInt64) * (31 : Int64)) + r1237.toInt64) * (31 : Int64)) + r1239.toInt64) * (31 : Int64)) + (-1 : Int32).toInt64)), (7, .int (1 : Int32)), (0, .ref (ad 0)), (5, .int c5_1)] dX9_digestEvents_167 rfl rfl (by decide) rfl ?_
            refine r_goto (tgt := 21) dX9_digestEvents_170 (by decide) ?_
            refine r_ls [3, 1, 4, 0] (ls2 := [(0, .ref (ad 0)), (3, .long ((((((((l3_1 * (31 : Int64)) + (f_Main_one (1 : Int32)).toInt64) * (31 : Int64)) + r1237.toInt64) * (31 : Int64)) + r1239.toInt64) * (31 : Int64)) + (-1 : Int32).toInt64)), (5, .int c5_1), (6, .int (l6_1 + (1 : Int32)))]) rfl ?_
            exact ih1 c5_1 Ve_judged_c1 Ve_liarSet_c1 Ve_setCount_c1 Ve_ahead_c1 Ve_order_c1 ((((((((l3_1 * (31 : Int64)) + (f_Main_one (1 : Int32)).toInt64) * (31 : Int64)) + r1237.toInt64) * (31 : Int64)) + r1239.toInt64) * (31 : Int64)) + (-1 : Int32).toInt64) (l6_1 + (1 : Int32)) h
          · have h := iq (fun z9 => (lC (f_Main_digestEvents_L21 N Tap_eventCount Cl_count Cl_tellers Cl_kinds Cl_events Cl_firsts Cl_lasts Co_doubted c5_1 Ve_judged_c1 Ve_liarSet_c1 Ve_setCount_c1 Ve_ahead_c1 Ve_order_c1) none n1 z9)) hc1241 h
            refine r_aload_n 2 dX9_digestEvents_148 rfl ?_
            refine r_getf (v := .ref (ad 26)) _ dX9_digestEvents_149 fl_X9_39 lX_0 rfl ?_
            refine r_getf (v := .ref (ad 31)) _ dX9_digestEvents_152 fl_X9_215 lX_26 rfl ?_
            refine r_iload 4 dX9_digestEvents_155 rfl ?_
            refine c_V (rest := [.long (((((((l3_1 * (31 : Int64)) + (f_Main_one (1 : Int32)).toInt64) * (31 : Int64)) + r1237.toInt64) * (31 : Int64)) + r1239.toInt64) * (31 : Int64))]) 0 0 _ dX9_digestEvents_157 kv_X9_125 (ct_Row_get lX_31 lX_32 (Nat.le_of_ble_eq_true rfl)) rfl rfl lX_31 rfl (Nat.le_of_ble_eq_true rfl) (by decide) (by decide) ?_
            refine r_goto (tgt := 164) dX9_digestEvents_160 (by decide) ?_
            refine r_i2l dX9_digestEvents_164 ?_
            refine r_ladd dX9_digestEvents_165 ?_
            refine r_lstore_n [(3, .long ((((((((l3_1 * (31 : Int64)) + (f_Main_one (1 : Int32)).toInt64) * (31 : Int64)) + r1237.toInt64) * (31 : Int64)) + r1239.toInt64) * (31 : Int64)) + (rget 8 Ve_order_c1 l6_1).toInt64)), (7, .int (1 : Int32)), (0, .ref (ad 0)), (5, .int c5_1), (6, .int l6_1)] dX9_digestEvents_166 (by decide) rfl ?_
            refine r_iinc (v2 := (l6_1 + (1 : Int32))) 4 [(6, .int (l6_1 + (1 : Int32))), (3, .long ((((((((l3_1 * (31 : Int64)) + (f_Main_one (1 : Int32)).toInt64) * (31 : Int64)) + r1237.toInt64) * (31 : Int64)) + r1239.toInt64) * (31 : Int64)) + (rget 8 Ve_order_c1 l6_1).toInt64)), (7, .int (1 : Int32)), (0, .ref (ad 0)), (5, .int c5_1)] dX9_digestEvents_167 rfl rfl (by decide) rfl ?_
            refine r_goto (tgt := 21) dX9_digestEvents_170 (by decide) ?_
            refine r_ls [3, 1, 4, 0] (ls2 := [(0, .ref (ad 0)), (3, .long ((((((((l3_1 * (31 : Int64)) + (f_Main_one (1 : Int32)).toInt64) * (31 : Int64)) + r1237.toInt64) * (31 : Int64)) + r1239.toInt64) * (31 : Int64)) + (rget 8 Ve_order_c1 l6_1).toInt64)), (5, .int c5_1), (6, .int (l6_1 + (1 : Int32)))]) rfl ?_
            exact ih1 c5_1 Ve_judged_c1 Ve_liarSet_c1 Ve_setCount_c1 Ve_ahead_c1 Ve_order_c1 ((((((((l3_1 * (31 : Int64)) + (f_Main_one (1 : Int32)).toInt64) * (31 : Int64)) + r1237.toInt64) * (31 : Int64)) + r1239.toInt64) * (31 : Int64)) + (rget 8 Ve_order_c1 l6_1).toInt64) (l6_1 + (1 : Int32)) h
  exact L1 _ r1230.1 r1230.2.1 r1230.2.2.1 r1230.2.2.2.1 r1230.2.2.2.2.1 r1230.2.2.2.2.2 p1 (0 : Int32) h
theorem ct_Main_digestEvents {g : GG} {ad : Nat → Nat} {t : va_W} {x0 x1 x11 x12 x24 x25 x26 x27 x28 x29 x30 x31 x37 x39 x40 x41 x47 x48 x54 x56 x58 x60 x61 x63 x64 x65 x66 : Int32} {x2 x13 x14 x15 x16 x17 x33 x34 x35 x42 x43 x44 x45 x46 x49 x50 x51 x52 x53 x62 x67 : Nat → Int32} {x32 : Int64} {x36 x38 x55 x57 : Nat → Int64} {N : Nat} {Tap_eventCount : Int32} {Tap_tellerCount : Int32} {Cl_count : Int32} {Cl_tellers : Nat → Int32} {Cl_kinds : Nat → Int32} {Cl_events : Nat → Int32} {Cl_firsts : Nat → Int32} {Cl_lasts : Nat → Int32} {Ve_judged : Int32} {Ve_liarSet : Int32} {Ve_setCount : Int32} {Ve_against : Nat → Int32} {Ve_ahead : Nat → Int32} {Ve_order : Nat → Int32} {Co_doubted : Int32} {p1 : Int64} {o : Int64 × Int32 × Int32 × Int32 × (Nat → Int32) × (Nat → Int32)} (h : f_Main_digestEvents N Tap_eventCount Tap_tellerCount Cl_count Cl_tellers Cl_kinds Cl_events Cl_firsts Cl_lasts Ve_judged Ve_liarSet Ve_setCount Ve_against Ve_ahead Ve_order Co_doubted p1 = some o) : Ct g mX9_digestEvents 6 0 0 [.ref (ad 0), .long p1] (wlX g ad x0 x1 x2 Tap_eventCount Tap_tellerCount Cl_count Cl_tellers Cl_kinds Cl_events Cl_firsts Cl_lasts x11 x12 x13 x14 x15 x16 x17 Ve_judged Ve_liarSet Ve_setCount Ve_against Ve_ahead Ve_order x24 x25 x26 x27 x28 x29 x30 x31 x32 x33 x34 x35 x36 x37 x38 x39 x40 x41 x42 x43 x44 x45 x46 x47 x48 x49 x50 x51 x52 x53 x54 x55 x56 x57 x58 Co_doubted x60 x61 x62 x63 x64 x65 x66 x67 ++ t) (Dv (some (.long o.1)) (wlX g ad x0 x1 x2 Tap_eventCount Tap_tellerCount Cl_count Cl_tellers Cl_kinds Cl_events Cl_firsts Cl_lasts x11 x12 x13 x14 x15 x16 x17 o.2.1 o.2.2.1 o.2.2.2.1 Ve_against o.2.2.2.2.1 o.2.2.2.2.2 x24 x25 x26 x27 x28 x29 x30 x31 x32 x33 x34 x35 x36 x37 x38 x39 x40 x41 x42 x43 x44 x45 x46 x47 x48 x49 x50 x51 x52 x53 x54 x55 x56 x57 x58 Co_doubted x60 x61 x62 x63 x64 x65 x66 x67 ++ t)) := Ct.ofR (by decide +kernel) rfl (Nat.le_of_ble_eq_true rfl) (rt_Main_digestEvents h ⟨rfl, rfl⟩)
set_option maxRecDepth 20000 in
set_option maxHeartbeats 4000000 in
theorem rt_Main_digest {g : GG} {ad : Nat → Nat} {t : va_W} {x0 x1 x11 x12 x24 x25 x26 x27 x28 x29 x30 x31 x37 x39 x40 x41 x47 x48 x54 x56 x58 x63 x64 x65 x66 : Int32} {x2 x13 x14 x15 x16 x17 x33 x34 x35 x42 x43 x44 x45 x46 x49 x50 x51 x52 x53 x62 x67 : Nat → Int32} {x32 : Int64} {x36 x38 x55 x57 : Nat → Int64} {N : Nat} {Tap_eventCount : Int32} {Tap_tellerCount : Int32} {Cl_count : Int32} {Cl_tellers : Nat → Int32} {Cl_kinds : Nat → Int32} {Cl_events : Nat → Int32} {Cl_firsts : Nat → Int32} {Cl_lasts : Nat → Int32} {Ve_judged : Int32} {Ve_liarSet : Int32} {Ve_setCount : Int32} {Ve_against : Nat → Int32} {Ve_ahead : Nat → Int32} {Ve_order : Nat → Int32} {Co_doubted : Int32} {Co_evening : Int32} {Co_carriedOut : Int32} {o : Int64 × Int32 × Int32 × Int32 × (Nat → Int32) × (Nat → Int32)} {Q : Rs → va_W → Prop} (h : f_Main_digest N Tap_eventCount Tap_tellerCount Cl_count Cl_tellers Cl_kinds Cl_events Cl_firsts Cl_lasts Ve_judged Ve_liarSet Ve_setCount Ve_against Ve_ahead Ve_order Co_doubted Co_evening Co_carriedOut = some o) (hq : Q (.inl (some (.long o.1))) (wlX g ad x0 x1 x2 Tap_eventCount Tap_tellerCount Cl_count Cl_tellers Cl_kinds Cl_events Cl_firsts Cl_lasts x11 x12 x13 x14 x15 x16 x17 o.2.1 o.2.2.1 o.2.2.2.1 Ve_against o.2.2.2.2.1 o.2.2.2.2.2 x24 x25 x26 x27 x28 x29 x30 x31 x32 x33 x34 x35 x36 x37 x38 x39 x40 x41 x42 x43 x44 x45 x46 x47 x48 x49 x50 x51 x52 x53 x54 x55 x56 x57 x58 Co_doubted Co_evening Co_carriedOut x62 x63 x64 x65 x66 x67 ++ t)) : R g mX9_digest 7 0 0 0 [(0, .ref (ad 0))] [] (wlX g ad x0 x1 x2 Tap_eventCount Tap_tellerCount Cl_count Cl_tellers Cl_kinds Cl_events Cl_firsts Cl_lasts x11 x12 x13 x14 x15 x16 x17 Ve_judged Ve_liarSet Ve_setCount Ve_against Ve_ahead Ve_order x24 x25 x26 x27 x28 x29 x30 x31 x32 x33 x34 x35 x36 x37 x38 x39 x40 x41 x42 x43 x44 x45 x46 x47 x48 x49 x50 x51 x52 x53 x54 x55 x56 x57 x58 Co_doubted Co_evening Co_carriedOut x62 x63 x64 x65 x66 x67 ++ t) Q := by
  unfold f_Main_digest at h
  refine r_ldc2 dX9_digest_0 kk_869 ?_
  refine r_lstore_n [(1, .long (991 : Int64)), (0, .ref (ad 0))] dX9_digest_3 (by decide) rfl ?_
  refine r_lload_n 0 dX9_digest_4 rfl ?_
  refine r_ldc2 dX9_digest_5 kk_870 ?_
  refine r_lmul dX9_digest_8 ?_
  refine r_aload_n 1 dX9_digest_9 rfl ?_
  refine c_V (rest := [.long ((991 : Int64) * (31 : Int64))]) 0 0 _ dX9_digest_10 kv_X9_259 (ct_Main_events rfl) rfl rfl lX_0 rfl (Nat.le_of_ble_eq_true rfl) (by decide) (by decide) ?_
  refine r_i2l dX9_digest_13 ?_
  refine r_ladd dX9_digest_14 ?_
  refine r_lstore_n [(1, .long (((991 : Int64) * (31 : Int64)) + (f_Main_events Tap_eventCount).toInt64)), (0, .ref (ad 0))] dX9_digest_15 (by decide) rfl ?_
  refine r_lload_n 0 dX9_digest_16 rfl ?_
  refine r_ldc2 dX9_digest_17 kk_870 ?_
  refine r_lmul dX9_digest_20 ?_
  refine r_aload_n 1 dX9_digest_21 rfl ?_
  refine c_V (rest := [.long ((((991 : Int64) * (31 : Int64)) + (f_Main_events Tap_eventCount).toInt64) * (31 : Int64))]) 0 0 _ dX9_digest_22 kv_X9_262 (ct_Main_tellers rfl) rfl rfl lX_0 rfl (Nat.le_of_ble_eq_true rfl) (by decide) (by decide) ?_
  refine r_i2l dX9_digest_25 ?_
  refine r_ladd dX9_digest_26 ?_
  refine r_lstore_n [(1, .long (((((991 : Int64) * (31 : Int64)) + (f_Main_events Tap_eventCount).toInt64) * (31 : Int64)) + (f_Main_tellers Tap_tellerCount).toInt64)), (0, .ref (ad 0))] dX9_digest_27 (by decide) rfl ?_
  refine r_lload_n 0 dX9_digest_28 rfl ?_
  refine r_ldc2 dX9_digest_29 kk_870 ?_
  refine r_lmul dX9_digest_32 ?_
  refine r_aload_n 1 dX9_digest_33 rfl ?_
  refine c_V (rest := [.long ((((((991 : Int64) * (31 : Int64)) + (f_Main_events Tap_eventCount).toInt64) * (31 : Int64)) + (f_Main_tellers Tap_tellerCount).toInt64) * (31 : Int64))]) 0 0 _ dX9_digest_34 kv_X9_264 (ct_Main_claims rfl) rfl rfl lX_0 rfl (Nat.le_of_ble_eq_true rfl) (by decide) (by decide) ?_
  refine r_i2l dX9_digest_37 ?_
  refine r_ladd dX9_digest_38 ?_
  refine r_lstore_n [(1, .long (((((((991 : Int64) * (31 : Int64)) + (f_Main_events Tap_eventCount).toInt64) * (31 : Int64)) + (f_Main_tellers Tap_tellerCount).toInt64) * (31 : Int64)) + (f_Main_claims Cl_count).toInt64)), (0, .ref (ad 0))] dX9_digest_39 (by decide) rfl ?_
  refine r_lload_n 0 dX9_digest_40 rfl ?_
  refine r_ldc2 dX9_digest_41 kk_870 ?_
  refine r_lmul dX9_digest_44 ?_
  refine r_aload_n 1 dX9_digest_45 rfl ?_
  refine c_V (rest := [.long ((((((((991 : Int64) * (31 : Int64)) + (f_Main_events Tap_eventCount).toInt64) * (31 : Int64)) + (f_Main_tellers Tap_tellerCount).toInt64) * (31 : Int64)) + (f_Main_claims Cl_count).toInt64) * (31 : Int64))]) 0 0 _ dX9_digest_46 kv_X9_266 (ct_Main_evenings rfl) rfl rfl lX_0 rfl (Nat.le_of_ble_eq_true rfl) (by decide) (by decide) ?_
  refine r_i2l dX9_digest_49 ?_
  refine r_ladd dX9_digest_50 ?_
  refine r_lstore_n [(1, .long (((((((((991 : Int64) * (31 : Int64)) + (f_Main_events Tap_eventCount).toInt64) * (31 : Int64)) + (f_Main_tellers Tap_tellerCount).toInt64) * (31 : Int64)) + (f_Main_claims Cl_count).toInt64) * (31 : Int64)) + (f_Main_evenings Co_evening).toInt64)), (0, .ref (ad 0))] dX9_digest_51 (by decide) rfl ?_
  refine r_lload_n 0 dX9_digest_52 rfl ?_
  refine r_ldc2 dX9_digest_53 kk_870 ?_
  refine r_lmul dX9_digest_56 ?_
  refine r_aload_n 1 dX9_digest_57 rfl ?_
  refine c_V (rest := [.long ((((((((((991 : Int64) * (31 : Int64)) + (f_Main_events Tap_eventCount).toInt64) * (31 : Int64)) + (f_Main_tellers Tap_tellerCount).toInt64) * (31 : Int64)) + (f_Main_claims Cl_count).toInt64) * (31 : Int64)) + (f_Main_evenings Co_evening).toInt64) * (31 : Int64))]) 0 0 _ dX9_digest_58 kv_X9_269 (ct_Main_ordersCarriedOut rfl) rfl rfl lX_0 rfl (Nat.le_of_ble_eq_true rfl) (by decide) (by decide) ?_
  refine r_i2l dX9_digest_61 ?_
  refine r_ladd dX9_digest_62 ?_
  refine r_lstore_n [(1, .long (((((((((((991 : Int64) * (31 : Int64)) + (f_Main_events Tap_eventCount).toInt64) * (31 : Int64)) + (f_Main_tellers Tap_tellerCount).toInt64) * (31 : Int64)) + (f_Main_claims Cl_count).toInt64) * (31 : Int64)) + (f_Main_evenings Co_evening).toInt64) * (31 : Int64)) + (f_Main_ordersCarriedOut Co_carriedOut).toInt64)), (0, .ref (ad 0))] dX9_digest_63 (by decide) rfl ?_
  refine r_lload_n 0 dX9_digest_64 rfl ?_
  refine r_ldc2 dX9_digest_65 kk_870 ?_
  refine r_lmul dX9_digest_68 ?_
  refine r_aload_n 1 dX9_digest_69 rfl ?_
  obtain ⟨r1242, hc1243, h⟩ := ob (fun z9 => z9) rfl h
  refine c_V (rest := [.long ((((((((((((991 : Int64) * (31 : Int64)) + (f_Main_events Tap_eventCount).toInt64) * (31 : Int64)) + (f_Main_tellers Tap_tellerCount).toInt64) * (31 : Int64)) + (f_Main_claims Cl_count).toInt64) * (31 : Int64)) + (f_Main_evenings Co_evening).toInt64) * (31 : Int64)) + (f_Main_ordersCarriedOut Co_carriedOut).toInt64) * (31 : Int64))]) 0 0 _ dX9_digest_70 kv_X9_272 (ct_Main_contradictions hc1243) rfl rfl lX_0 rfl (Nat.le_of_ble_eq_true rfl) (by decide) (by decide) ?_
  refine r_i2l dX9_digest_73 ?_
  refine r_ladd dX9_digest_74 ?_
  refine r_lstore_n [(1, .long (((((((((((((991 : Int64) * (31 : Int64)) + (f_Main_events Tap_eventCount).toInt64) * (31 : Int64)) + (f_Main_tellers Tap_tellerCount).toInt64) * (31 : Int64)) + (f_Main_claims Cl_count).toInt64) * (31 : Int64)) + (f_Main_evenings Co_evening).toInt64) * (31 : Int64)) + (f_Main_ordersCarriedOut Co_carriedOut).toInt64) * (31 : Int64)) + r1242.toInt64)), (0, .ref (ad 0))] dX9_digest_75 (by decide) rfl ?_
  refine r_lload_n 0 dX9_digest_76 rfl ?_
  refine r_ldc2 dX9_digest_77 kk_870 ?_
  refine r_lmul dX9_digest_80 ?_
  refine r_aload_n 1 dX9_digest_81 rfl ?_
  obtain ⟨r1244, hc1245, h⟩ := ob (fun z9 => z9) rfl h
  refine c_V (rest := [.long ((((((((((((((991 : Int64) * (31 : Int64)) + (f_Main_events Tap_eventCount).toInt64) * (31 : Int64)) + (f_Main_tellers Tap_tellerCount).toInt64) * (31 : Int64)) + (f_Main_claims Cl_count).toInt64) * (31 : Int64)) + (f_Main_evenings Co_evening).toInt64) * (31 : Int64)) + (f_Main_ordersCarriedOut Co_carriedOut).toInt64) * (31 : Int64)) + r1242.toInt64) * (31 : Int64))]) 0 0 _ dX9_digest_82 kv_X9_275 (ct_Main_liars hc1245) rfl rfl lX_0 rfl (Nat.le_of_ble_eq_true rfl) (by decide) (by decide) ?_
  refine r_i2l dX9_digest_85 ?_
  refine r_ladd dX9_digest_86 ?_
  refine r_lstore_n [(1, .long (((((((((((((((991 : Int64) * (31 : Int64)) + (f_Main_events Tap_eventCount).toInt64) * (31 : Int64)) + (f_Main_tellers Tap_tellerCount).toInt64) * (31 : Int64)) + (f_Main_claims Cl_count).toInt64) * (31 : Int64)) + (f_Main_evenings Co_evening).toInt64) * (31 : Int64)) + (f_Main_ordersCarriedOut Co_carriedOut).toInt64) * (31 : Int64)) + r1242.toInt64) * (31 : Int64)) + r1244.1.toInt64)), (0, .ref (ad 0))] dX9_digest_87 (by decide) rfl ?_
  refine r_lload_n 0 dX9_digest_88 rfl ?_
  refine r_ldc2 dX9_digest_89 kk_870 ?_
  refine r_lmul dX9_digest_92 ?_
  refine r_aload_n 1 dX9_digest_93 rfl ?_
  obtain ⟨r1246, hc1247, h⟩ := ob (fun z9 => z9) rfl h
  refine c_V (rest := [.long ((((((((((((((((991 : Int64) * (31 : Int64)) + (f_Main_events Tap_eventCount).toInt64) * (31 : Int64)) + (f_Main_tellers Tap_tellerCount).toInt64) * (31 : Int64)) + (f_Main_claims Cl_count).toInt64) * (31 : Int64)) + (f_Main_evenings Co_evening).toInt64) * (31 : Int64)) + (f_Main_ordersCarriedOut Co_carriedOut).toInt64) * (31 : Int64)) + r1242.toInt64) * (31 : Int64)) + r1244.1.toInt64) * (31 : Int64))]) 0 0 _ dX9_digest_94 kv_X9_278 (ct_Main_smallestSets hc1247) rfl rfl lX_0 rfl (Nat.le_of_ble_eq_true rfl) (by decide) (by decide) ?_
  refine r_i2l dX9_digest_97 ?_
  refine r_ladd dX9_digest_98 ?_
  refine r_lstore_n [(1, .long (((((((((((((((((991 : Int64) * (31 : Int64)) + (f_Main_events Tap_eventCount).toInt64) * (31 : Int64)) + (f_Main_tellers Tap_tellerCount).toInt64) * (31 : Int64)) + (f_Main_claims Cl_count).toInt64) * (31 : Int64)) + (f_Main_evenings Co_evening).toInt64) * (31 : Int64)) + (f_Main_ordersCarriedOut Co_carriedOut).toInt64) * (31 : Int64)) + r1242.toInt64) * (31 : Int64)) + r1244.1.toInt64) * (31 : Int64)) + r1246.1.toInt64)), (0, .ref (ad 0))] dX9_digest_99 (by decide) rfl ?_
  refine r_lload_n 0 dX9_digest_100 rfl ?_
  refine r_ldc2 dX9_digest_101 kk_870 ?_
  refine r_lmul dX9_digest_104 ?_
  refine r_aload_n 1 dX9_digest_105 rfl ?_
  obtain ⟨r1248, hc1249, h⟩ := ob (fun z9 => z9) rfl h
  refine c_V (rest := [.long ((((((((((((((((((991 : Int64) * (31 : Int64)) + (f_Main_events Tap_eventCount).toInt64) * (31 : Int64)) + (f_Main_tellers Tap_tellerCount).toInt64) * (31 : Int64)) + (f_Main_claims Cl_count).toInt64) * (31 : Int64)) + (f_Main_evenings Co_evening).toInt64) * (31 : Int64)) + (f_Main_ordersCarriedOut Co_carriedOut).toInt64) * (31 : Int64)) + r1242.toInt64) * (31 : Int64)) + r1244.1.toInt64) * (31 : Int64)) + r1246.1.toInt64) * (31 : Int64))]) 0 0 _ dX9_digest_106 kv_X9_281 (ct_Main_hasOrder hc1249) rfl rfl lX_0 rfl (Nat.le_of_ble_eq_true rfl) (by decide) (by decide) ?_
  refine c_S (rest := [.long ((((((((((((((((((991 : Int64) * (31 : Int64)) + (f_Main_events Tap_eventCount).toInt64) * (31 : Int64)) + (f_Main_tellers Tap_tellerCount).toInt64) * (31 : Int64)) + (f_Main_claims Cl_count).toInt64) * (31 : Int64)) + (f_Main_evenings Co_evening).toInt64) * (31 : Int64)) + (f_Main_ordersCarriedOut Co_carriedOut).toInt64) * (31 : Int64)) + r1242.toInt64) * (31 : Int64)) + r1244.1.toInt64) * (31 : Int64)) + r1246.1.toInt64) * (31 : Int64))]) 0 0 dX9_digest_109 ks_X9_284 (ct_Main_one rfl) rfl rfl (Nat.le_of_ble_eq_true rfl) (by decide) (by decide) ?_
  refine r_i2l dX9_digest_112 ?_
  refine r_ladd dX9_digest_113 ?_
  refine r_lstore_n [(1, .long (((((((((((((((((((991 : Int64) * (31 : Int64)) + (f_Main_events Tap_eventCount).toInt64) * (31 : Int64)) + (f_Main_tellers Tap_tellerCount).toInt64) * (31 : Int64)) + (f_Main_claims Cl_count).toInt64) * (31 : Int64)) + (f_Main_evenings Co_evening).toInt64) * (31 : Int64)) + (f_Main_ordersCarriedOut Co_carriedOut).toInt64) * (31 : Int64)) + r1242.toInt64) * (31 : Int64)) + r1244.1.toInt64) * (31 : Int64)) + r1246.1.toInt64) * (31 : Int64)) + (f_Main_one r1248.1).toInt64)), (0, .ref (ad 0))] dX9_digest_114 (by decide) rfl ?_
  refine r_aload_n 1 dX9_digest_115 rfl ?_
  refine r_aload_n 1 dX9_digest_116 rfl ?_
  refine r_aload_n 1 dX9_digest_117 rfl ?_
  refine r_lload_n 0 dX9_digest_118 rfl ?_
  obtain ⟨r1250, hc1251, h⟩ := ob (fun z9 => z9) rfl h
  refine c_V (rest := [.ref (ad 0), .ref (ad 0)]) 0 0 _ dX9_digest_119 kv_X9_288 (ct_Main_digestClaims hc1251) rfl rfl lX_0 rfl (Nat.le_of_ble_eq_true rfl) (by decide) (by decide) ?_
  obtain ⟨r1252, hc1253, h⟩ := ob (fun z9 => z9) rfl h
  refine c_V (rest := [.ref (ad 0)]) 0 0 _ dX9_digest_122 kv_X9_292 (ct_Main_digestTellers hc1253) rfl rfl lX_0 rfl (Nat.le_of_ble_eq_true rfl) (by decide) (by decide) ?_
  obtain ⟨r1254, hc1255, h⟩ := ob (fun z9 => z9) rfl h
  refine c_V (rest := []) 0 0 _ dX9_digest_125 kv_X9_295 (ct_Main_digestEvents hc1255) rfl rfl lX_0 rfl (Nat.le_of_ble_eq_true rfl) (by decide) (by decide) ?_
  refine r_lret dX9_digest_128 rfl ?_
  have h := Option.some.inj (show some _ = some o from h)
  subst h
  exact hq
theorem ct_Main_digest {g : GG} {ad : Nat → Nat} {t : va_W} {x0 x1 x11 x12 x24 x25 x26 x27 x28 x29 x30 x31 x37 x39 x40 x41 x47 x48 x54 x56 x58 x63 x64 x65 x66 : Int32} {x2 x13 x14 x15 x16 x17 x33 x34 x35 x42 x43 x44 x45 x46 x49 x50 x51 x52 x53 x62 x67 : Nat → Int32} {x32 : Int64} {x36 x38 x55 x57 : Nat → Int64} {N : Nat} {Tap_eventCount : Int32} {Tap_tellerCount : Int32} {Cl_count : Int32} {Cl_tellers : Nat → Int32} {Cl_kinds : Nat → Int32} {Cl_events : Nat → Int32} {Cl_firsts : Nat → Int32} {Cl_lasts : Nat → Int32} {Ve_judged : Int32} {Ve_liarSet : Int32} {Ve_setCount : Int32} {Ve_against : Nat → Int32} {Ve_ahead : Nat → Int32} {Ve_order : Nat → Int32} {Co_doubted : Int32} {Co_evening : Int32} {Co_carriedOut : Int32} {o : Int64 × Int32 × Int32 × Int32 × (Nat → Int32) × (Nat → Int32)} (h : f_Main_digest N Tap_eventCount Tap_tellerCount Cl_count Cl_tellers Cl_kinds Cl_events Cl_firsts Cl_lasts Ve_judged Ve_liarSet Ve_setCount Ve_against Ve_ahead Ve_order Co_doubted Co_evening Co_carriedOut = some o) : Ct g mX9_digest 7 0 0 [.ref (ad 0)] (wlX g ad x0 x1 x2 Tap_eventCount Tap_tellerCount Cl_count Cl_tellers Cl_kinds Cl_events Cl_firsts Cl_lasts x11 x12 x13 x14 x15 x16 x17 Ve_judged Ve_liarSet Ve_setCount Ve_against Ve_ahead Ve_order x24 x25 x26 x27 x28 x29 x30 x31 x32 x33 x34 x35 x36 x37 x38 x39 x40 x41 x42 x43 x44 x45 x46 x47 x48 x49 x50 x51 x52 x53 x54 x55 x56 x57 x58 Co_doubted Co_evening Co_carriedOut x62 x63 x64 x65 x66 x67 ++ t) (Dv (some (.long o.1)) (wlX g ad x0 x1 x2 Tap_eventCount Tap_tellerCount Cl_count Cl_tellers Cl_kinds Cl_events Cl_firsts Cl_lasts x11 x12 x13 x14 x15 x16 x17 o.2.1 o.2.2.1 o.2.2.2.1 Ve_against o.2.2.2.2.1 o.2.2.2.2.2 x24 x25 x26 x27 x28 x29 x30 x31 x32 x33 x34 x35 x36 x37 x38 x39 x40 x41 x42 x43 x44 x45 x46 x47 x48 x49 x50 x51 x52 x53 x54 x55 x56 x57 x58 Co_doubted Co_evening Co_carriedOut x62 x63 x64 x65 x66 x67 ++ t)) := Ct.ofR (by decide +kernel) rfl (Nat.le_of_ble_eq_true rfl) (rt_Main_digest h ⟨rfl, rfl⟩)
