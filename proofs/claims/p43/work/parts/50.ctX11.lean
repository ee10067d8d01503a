set_option maxRecDepth 20000 in
set_option maxHeartbeats 4000000 in
theorem rt_Ve_gatherAhead {g : GG} {ad : Nat → Nat} {t : va_W} {x0 x1 x3 x4 x11 x12 x18 x19 x20 x24 x25 x26 x27 x28 x29 x30 x31 x37 x39 x40 x41 x47 x48 x54 x56 x58 x59 x60 x61 x63 x64 x65 x66 : Int32} {x2 x10 x13 x14 x15 x16 x17 x21 x23 x33 x34 x35 x42 x43 x44 x45 x46 x49 x50 x51 x52 x53 x62 x67 : Nat → Int32} {x32 : Int64} {x36 x38 x55 x57 : Nat → Int64} {N : Nat} {Cl_count : Int32} {Cl_tellers : Nat → Int32} {Cl_kinds : Nat → Int32} {Cl_events : Nat → Int32} {Cl_firsts : Nat → Int32} {Ve_ahead : Nat → Int32} {p1 : Int32} {o : (Nat → Int32)} {Q : Rs → va_W → Prop} (h : f_Ve_gatherAhead N Cl_count Cl_tellers Cl_kinds Cl_events Cl_firsts Ve_ahead p1 = some o) (hq : Q (.inl (none)) (wlX g ad x0 x1 x2 x3 x4 Cl_count Cl_tellers Cl_kinds Cl_events Cl_firsts x10 x11 x12 x13 x14 x15 x16 x17 x18 x19 x20 x21 o x23 x24 x25 x26 x27 x28 x29 x30 x31 x32 x33 x34 x35 x36 x37 x38 x39 x40 x41 x42 x43 x44 x45 x46 x47 x48 x49 x50 x51 x52 x53 x54 x55 x56 x57 x58 x59 x60 x61 x62 x63 x64 x65 x66 x67 ++ t)) : R g mX8_gatherAhead 2 0 0 0 [(0, .ref (ad 26)), (1, .int p1)] [] (wlX g ad x0 x1 x2 x3 x4 Cl_count Cl_tellers Cl_kinds Cl_events Cl_firsts x10 x11 x12 x13 x14 x15 x16 x17 x18 x19 x20 x21 Ve_ahead x23 x24 x25 x26 x27 x28 x29 x30 x31 x32 x33 x34 x35 x36 x37 x38 x39 x40 x41 x42 x43 x44 x45 x46 x47 x48 x49 x50 x51 x52 x53 x54 x55 x56 x57 x58 x59 x60 x61 x62 x63 x64 x65 x66 x67 ++ t) Q := by
  unfold f_Ve_gatherAhead at h
  refine r_iconst (v := (0 : Int32)) dX8_gatherAhead_0 (by decide) ?_
  refine r_istore_n [(2, .int (0 : Int32)), (0, .ref (ad 26)), (1, .int p1)] dX8_gatherAhead_1 (by decide) rfl ?_
  refine r_ls [1, 2, 0] (ls2 := [(0, .ref (ad 26)), (1, .int p1), (2, .int (0 : Int32))]) rfl ?_
  have L1 : ∀ (n1 : Nat) (l2_1 : Int32) (Ve_ahead_1 : Nat → Int32), (fun z9 => z9) (lpS (f_Ve_gatherAhead_L2 N Cl_count Cl_tellers Cl_kinds Cl_events Cl_firsts p1) none n1 (l2_1, Ve_ahead_1)) = some o → R g mX8_gatherAhead 2 0 0 2 [(0, .ref (ad 26)), (1, .int p1), (2, .int l2_1)] [] (wlX g ad x0 x1 x2 x3 x4 Cl_count Cl_tellers Cl_kinds Cl_events Cl_firsts x10 x11 x12 x13 x14 x15 x16 x17 x18 x19 x20 x21 Ve_ahead_1 x23 x24 x25 x26 x27 x28 x29 x30 x31 x32 x33 x34 x35 x36 x37 x38 x39 x40 x41 x42 x43 x44 x45 x46 x47 x48 x49 x50 x51 x52 x53 x54 x55 x56 x57 x58 x59 x60 x61 x62 x63 x64 x65 x66 x67 ++ t) Q := by
    intro n1
    induction n1 with
    | zero => intro l2_1 Ve_ahead_1 h; exact nomatch (show (none : Option _) = some _ from h)
    | succ n1 ih1 =>
      intro l2_1 Ve_ahead_1 h
      have h : (fun z9 => (lC (f_Ve_gatherAhead_L2 N Cl_count Cl_tellers Cl_kinds Cl_events Cl_firsts p1) none n1 z9)) (f_Ve_gatherAhead_L2 N Cl_count Cl_tellers Cl_kinds Cl_events Cl_firsts p1 (l2_1, Ve_ahead_1)) = some o := h
      unfold f_Ve_gatherAhead_L2 at h
      try dsimp only at h
      refine r_iload_n 2 dX8_gatherAhead_2 rfl ?_
      refine r_bipush (v := (8 : Int32)) dX8_gatherAhead_3 (by decide) ?_
      refine r_icmp_ge (tgt := 23) dX8_gatherAhead_5 (by decide) (fun hc938 => ?_) (fun hc938 => ?_)
      · have h := ip (fun z9 => (lC (f_Ve_gatherAhead_L2 N Cl_count Cl_tellers Cl_kinds Cl_events Cl_firsts p1) none n1 z9)) hc938 h
        refine r_iconst (v := (0 : Int32)) dX8_gatherAhead_23 (by decide) ?_
        refine r_istore_n [(2, .int (0 : Int32)), (0, .ref (ad 26)), (1, .int p1)] dX8_gatherAhead_24 (by decide) rfl ?_
        refine r_ls [1, 2, 0] (ls2 := [(0, .ref (ad 26)), (1, .int p1), (2, .int (0 : Int32))]) rfl ?_
        have L2 : ∀ (n2 : Nat) (l2_2 : Int32) (Ve_ahead_2 : Nat → Int32), (fun z9 => (lC (f_Ve_gatherAhead_L2 N Cl_count Cl_tellers Cl_kinds Cl_events Cl_firsts p1) none n1 z9)) (lpS (f_Ve_gatherAhead_L25 Cl_count Cl_tellers Cl_kinds Cl_events Cl_firsts p1) (.inr none) n2 (l2_2, Ve_ahead_2)) = some o → R g mX8_gatherAhead 2 0 0 25 [(0, .ref (ad 26)), (1, .int p1), (2, .int l2_2)] [] (wlX g ad x0 x1 x2 x3 x4 Cl_count Cl_tellers Cl_kinds Cl_events Cl_firsts x10 x11 x12 x13 x14 x15 x16 x17 x18 x19 x20 x21 Ve_ahead_2 x23 x24 x25 x26 x27 x28 x29 x30 x31 x32 x33 x34 x35 x36 x37 x38 x39 x40 x41 x42 x43 x44 x45 x46 x47 x48 x49 x50 x51 x52 x53 x54 x55 x56 x57 x58 x59 x60 x61 x62 x63 x64 x65 x66 x67 ++ t) Q := by
          intro n2
          induction n2 with
          | zero => intro l2_2 Ve_ahead_2 h; exact nomatch (show (none : Option _) = some _ from h)
          | succ n2 ih2 =>
            intro l2_2 Ve_ahead_2 h
            have h : (fun z9 => (lC (f_Ve_gatherAhead_L2 N Cl_count Cl_tellers Cl_kinds Cl_events Cl_firsts p1) none n1 (lC (f_Ve_gatherAhead_L25 Cl_count Cl_tellers Cl_kinds Cl_events Cl_firsts p1) (.inr none) n2 z9))) (f_Ve_gatherAhead_L25 Cl_count Cl_tellers Cl_kinds Cl_events Cl_firsts p1 (l2_2, Ve_ahead_2)) = some o := h
            unfold f_Ve_gatherAhead_L25 at h
            try dsimp only at h
            refine r_iload_n 2 dX8_gatherAhead_25 rfl ?_
            refine r_aload_n 0 dX8_gatherAhead_26 rfl ?_
            refine r_getf (v := .ref (ad 3)) _ dX8_gatherAhead_27 fl_X8_9 lX_26 rfl ?_
            refine r_getf (v := .ref (ad 4)) _ dX8_gatherAhead_30 fl_X8_38 lX_3 rfl ?_
            refine r_getf (v := .int Cl_count) _ dX8_gatherAhead_33 fl_X8_44 lX_4 rfl ?_
            refine r_icmp_ge (tgt := 132) dX8_gatherAhead_36 (by decide) (fun hc939 => ?_) (fun hc939 => ?_)
            · have h := ip (fun z9 => (lC (f_Ve_gatherAhead_L2 N Cl_count Cl_tellers Cl_kinds Cl_events Cl_firsts p1) none n1 (lC (f_Ve_gatherAhead_L25 Cl_count Cl_tellers Cl_kinds Cl_events Cl_firsts p1) (.inr none) n2 z9))) hc939 h
              refine r_vret dX8_gatherAhead_132 rfl ?_
              have h := Option.some.inj (show some _ = some o from h)
              subst h
              exact hq
            · have h := iq (fun z9 => (lC (f_Ve_gatherAhead_L2 N Cl_count Cl_tellers Cl_kinds Cl_events Cl_firsts p1) none n1 (lC (f_Ve_gatherAhead_L25 Cl_count Cl_tellers Cl_kinds Cl_events Cl_firsts p1) (.inr none) n2 z9))) hc939 h
              refine r_aload_n 0 dX8_gatherAhead_39 rfl ?_
              refine r_getf (v := .ref (ad 3)) _ dX8_gatherAhead_40 fl_X8_9 lX_26 rfl ?_
              refine r_getf (v := .ref (ad 4)) _ dX8_gatherAhead_43 fl_X8_38 lX_3 rfl ?_
              refine r_getf (v := .ref (ad 7)) _ dX8_gatherAhead_46 fl_X8_120 lX_4 rfl ?_
              refine r_iload_n 2 dX8_gatherAhead_49 rfl ?_
              refine c_V (rest := []) 0 0 _ dX8_gatherAhead_50 kv_X8_56 (ct_Row_get lX_7 lX_8 (Nat.le_of_ble_eq_true rfl)) rfl rfl lX_7 rfl (Nat.le_of_ble_eq_true rfl) (by decide) (by decide) ?_
              refine r_iconst (v := (1 : Int32)) dX8_gatherAhead_53 (by decide) ?_
              refine r_icmp_ne (tgt := 126) dX8_gatherAhead_54 (by decide) (fun hc940 => ?_) (fun hc940 => ?_)
              · have h := iq (fun z9 => (lC (f_Ve_gatherAhead_L2 N Cl_count Cl_tellers Cl_kinds Cl_events Cl_firsts p1) none n1 (lC (f_Ve_gatherAhead_L25 Cl_count Cl_tellers Cl_kinds Cl_events Cl_firsts p1) (.inr none) n2 z9))) hc940 h
                refine r_iinc (v2 := (l2_2 + (1 : Int32))) 2 [(2, .int (l2_2 + (1 : Int32))), (0, .ref (ad 26)), (1, .int p1)] dX8_gatherAhead_126 rfl rfl (by decide) rfl ?_
                refine r_goto (tgt := 25) dX8_gatherAhead_129 (by decide) ?_
                refine r_ls [1, 2, 0] (ls2 := [(0, .ref (ad 26)), (1, .int p1), (2, .int (l2_2 + (1 : Int32)))]) rfl ?_
                exact ih2 (l2_2 + (1 : Int32)) Ve_ahead_2 h
              · have h := ip (fun z9 => (lC (f_Ve_gatherAhead_L2 N Cl_count Cl_tellers Cl_kinds Cl_events Cl_firsts p1) none n1 (lC (f_Ve_gatherAhead_L25 Cl_count Cl_tellers Cl_kinds Cl_events Cl_firsts p1) (.inr none) n2 z9))) hc940 h
                refine r_iload_n 1 dX8_gatherAhead_57 rfl ?_
                refine r_aload_n 0 dX8_gatherAhead_58 rfl ?_
                refine r_getf (v := .ref (ad 3)) _ dX8_gatherAhead_59 fl_X8_9 lX_26 rfl ?_
                refine r_getf (v := .ref (ad 4)) _ dX8_gatherAhead_62 fl_X8_38 lX_3 rfl ?_
                refine r_getf (v := .ref (ad 5)) _ dX8_gatherAhead_65 fl_X8_53 lX_4 rfl ?_
                refine r_iload_n 2 dX8_gatherAhead_68 rfl ?_
                refine c_V (rest := [.int p1]) 0 0 _ dX8_gatherAhead_69 kv_X8_56 (ct_Row_get lX_5 lX_6 (Nat.le_of_ble_eq_true rfl)) rfl rfl lX_5 rfl (Nat.le_of_ble_eq_true rfl) (by decide) (by decide) ?_
                refine c_SN (rest := []) 0 0 dX8_gatherAhead_72 kq_X8_66 (ct_Main_has rfl) rfl rfl (Nat.le_of_ble_eq_true rfl) (by decide) (by decide) ?_
                refine r_if_eq (tgt := 126) dX8_gatherAhead_75 (by decide) (fun hc941 => ?_) (fun hc941 => ?_)
                · have h := ip (fun z9 => (lC (f_Ve_gatherAhead_L2 N Cl_count Cl_tellers Cl_kinds Cl_events Cl_firsts p1) none n1 (lC (f_Ve_gatherAhead_L25 Cl_count Cl_tellers Cl_kinds Cl_events Cl_firsts p1) (.inr none) n2 z9))) hc941 h
                  refine r_iinc (v2 := (l2_2 + (1 : Int32))) 2 [(2, .int (l2_2 + (1 : Int32))), (0, .ref (ad 26)), (1, .int p1)] dX8_gatherAhead_126 rfl rfl (by decide) rfl ?_
                  refine r_goto (tgt := 25) dX8_gatherAhead_129 (by decide) ?_
                  refine r_ls [1, 2, 0] (ls2 := [(0, .ref (ad 26)), (1, .int p1), (2, .int (l2_2 + (1 : Int32)))]) rfl ?_
                  exact ih2 (l2_2 + (1 : Int32)) Ve_ahead_2 h
                · have h := iq (fun z9 => (lC (f_Ve_gatherAhead_L2 N Cl_count Cl_tellers Cl_kinds Cl_events Cl_firsts p1) none n1 (lC (f_Ve_gatherAhead_L25 Cl_count Cl_tellers Cl_kinds Cl_events Cl_firsts p1) (.inr none) n2 z9))) hc941 h
                  refine r_aload_n 0 dX8_gatherAhead_78 rfl ?_
                  refine r_getf (v := .ref (ad 3)) _ dX8_gatherAhead_79 fl_X8_9 lX_26 rfl ?_
                  refine r_getf (v := .ref (ad 4)) _ dX8_gatherAhead_82 fl_X8_38 lX_3 rfl ?_
                  refine r_getf (v := .ref (ad 11)) _ dX8_gatherAhead_85 fl_X8_99 lX_4 rfl ?_
                  refine r_iload_n 2 dX8_gatherAhead_88 rfl ?_
                  refine c_V (rest := []) 0 0 _ dX8_gatherAhead_89 kv_X8_56 (ct_Row_get lX_11 lX_12 (Nat.le_of_ble_eq_true rfl)) rfl rfl lX_11 rfl (Nat.le_of_ble_eq_true rfl) (by decide) (by decide) ?_
                  refine r_istore_n [(3, .int (rget 40 Cl_firsts l2_2)), (0, .ref (ad 26)), (1, .int p1), (2, .int l2_2)] dX8_gatherAhead_92 (by decide) rfl ?_
                  refine r_aload_n 1 dX8_gatherAhead_93 rfl ?_
                  refine r_getf (v := .ref (ad 29)) _ dX8_gatherAhead_94 fl_X8_24 lX_26 rfl ?_
                  refine r_iload_n 0 dX8_gatherAhead_97 rfl ?_
                  refine r_aload_n 1 dX8_gatherAhead_98 rfl ?_
                  refine r_getf (v := .ref (ad 29)) _ dX8_gatherAhead_99 fl_X8_24 lX_26 rfl ?_
                  refine r_iload_n 0 dX8_gatherAhead_102 rfl ?_
                  refine c_V (rest := [.int (rget 40 Cl_firsts l2_2), .ref (ad 29)]) 0 0 _ dX8_gatherAhead_103 kv_X8_56 (ct_Row_get lX_29 lX_30 (Nat.le_of_ble_eq_true rfl)) rfl rfl lX_29 rfl (Nat.le_of_ble_eq_true rfl) (by decide) (by decide) ?_
                  refine r_iconst (v := (1 : Int32)) dX8_gatherAhead_106 (by decide) ?_
                  refine r_aload_n 1 dX8_gatherAhead_107 rfl ?_
                  refine r_getf (v := .ref (ad 3)) _ dX8_gatherAhead_108 fl_X8_9 lX_26 rfl ?_
                  refine r_getf (v := .ref (ad 4)) _ dX8_gatherAhead_111 fl_X8_38 lX_3 rfl ?_
                  refine r_getf (v := .ref (ad 9)) _ dX8_gatherAhead_114 fl_X8_123 lX_4 rfl ?_
                  refine r_iload_n 3 dX8_gatherAhead_117 rfl ?_
                  refine c_V (rest := [.int (1 : Int32), .int (rget 8 Ve_ahead_2 (rget 40 Cl_firsts l2_2)), .int (rget 40 Cl_firsts l2_2), .ref (ad 29)]) 0 0 _ dX8_gatherAhead_118 kv_X8_56 (ct_Row_get lX_9 lX_10 (Nat.le_of_ble_eq_true rfl)) rfl rfl lX_9 rfl (Nat.le_of_ble_eq_true rfl) (by decide) (by decide) ?_
                  refine r_ishl dX8_gatherAhead_121 ?_
                  refine r_ior dX8_gatherAhead_122 ?_
                  refine c_Vv (rest := []) 0 0 _ dX8_gatherAhead_123 kv_X8_34 (ct_Row_set lX_29 lX_30 (sX_22 _) (Nat.le_of_ble_eq_true rfl)) rfl rfl lX_29 rfl (Nat.le_of_ble_eq_true rfl) (by decide) (by decide) ?_
                  refine r_iinc (v2 := (l2_2 + (1 : Int32))) 3 [(2, .int (l2_2 + (1 : Int32))), (3, .int (rget 40 Cl_firsts l2_2)), (0, .ref (ad 26)), (1, .int p1)] dX8_gatherAhead_126 rfl rfl (by decide) rfl ?_
                  refine r_goto (tgt := 25) dX8_gatherAhead_129 (by decide) ?_
                  refine r_ls [2, 3, 0] (ls2 := [(0, .ref (ad 26)), (1, .int p1), (2, .int (l2_2 + (1 : Int32)))]) rfl ?_
                  exact ih2 (l2_2 + (1 : Int32)) (rset 8 Ve_ahead_2 (rget 40 Cl_firsts l2_2) ((rget 8 Ve_ahead_2 (rget 40 Cl_firsts l2_2)) ||| ((1 : Int32) <<< ((rget 40 Cl_events l2_2) &&& 31)))) h
        exact L2 _ (0 : Int32) Ve_ahead_1 h
      · have h := iq (fun z9 => (lC (f_Ve_gatherAhead_L2 N Cl_count Cl_tellers Cl_kinds Cl_events Cl_firsts p1) none n1 z9)) hc938 h
        refine r_aload_n 0 dX8_gatherAhead_8 rfl ?_
        refine r_getf (v := .ref (ad 29)) _ dX8_gatherAhead_9 fl_X8_24 lX_26 rfl ?_
        refine r_iload_n 2 dX8_gatherAhead_12 rfl ?_
        refine r_iconst (v := (0 : Int32)) dX8_gatherAhead_13 (by decide) ?_
        refine c_Vv (rest := []) 0 0 _ dX8_gatherAhead_14 kv_X8_34 (ct_Row_set lX_29 lX_30 (sX_22 _) (Nat.le_of_ble_eq_true rfl)) rfl rfl lX_29 rfl (Nat.le_of_ble_eq_true rfl) (by decide) (by decide) ?_
        refine r_iinc (v2 := (l2_1 + (1 : Int32))) 2 [(2, .int (l2_1 + (1 : Int32))), (0, .ref (ad 26)), (1, .int p1)] dX8_gatherAhead_17 rfl rfl (by decide) rfl ?_
        refine r_goto (tgt := 2) dX8_gatherAhead_20 (by decide) ?_
        refine r_ls [1, 2, 0] (ls2 := [(0, .ref (ad 26)), (1, .int p1), (2, .int (l2_1 + (1 : Int32)))]) rfl ?_
        exact ih1 (l2_1 + (1 : Int32)) (rset 8 Ve_ahead_1 l2_1 (0 : Int32)) h
  exact L1 _ (0 : Int32) Ve_ahead h
theorem ct_Ve_gatherAhead {g : GG} {ad : Nat → Nat} {t : va_W} {x0 x1 x3 x4 x11 x12 x18 x19 x20 x24 x25 x26 x27 x28 x29 x30 x31 x37 x39 x40 x41 x47 x48 x54 x56 x58 x59 x60 x61 x63 x64 x65 x66 : Int32} {x2 x10 x13 x14 x15 x16 x17 x21 x23 x33 x34 x35 x42 x43 x44 x45 x46 x49 x50 x51 x52 x53 x62 x67 : Nat → Int32} {x32 : Int64} {x36 x38 x55 x57 : Nat → Int64} {N : Nat} {Cl_count : Int32} {Cl_tellers : Nat → Int32} {Cl_kinds : Nat → Int32} {Cl_events : Nat → Int32} {Cl_firsts : Nat → Int32} {Ve_ahead : Nat → Int32} {p1 : Int32} {o : (Nat → Int32)} (h : f_Ve_gatherAhead N Cl_count Cl_tellers Cl_kinds Cl_events Cl_firsts Ve_ahead p1 = some o) : Ct g mX8_gatherAhead 2 0 0 [.ref (ad 26), .int p1] (wlX g ad x0 x1 x2 x3 x4 Cl_count Cl_tellers Cl_kinds Cl_events Cl_firsts x10 x11 x12 x13 x14 x15 x16 x17 x18 x19 x20 x21 Ve_ahead x23 x24 x25 x26 x27 x28 x29 x30 x31 x32 x33 x34 x35 x36 x37 x38 x39 x40 x41 x42 x43 x44 x45 x46 x47 x48 x49 x50 x51 x52 x53 x54 x55 x56 x57 x58 x59 x60 x61 x62 x63 x64 x65 x66 x67 ++ t) (Dv (none) (wlX g ad x0 x1 x2 x3 x4 Cl_count Cl_tellers Cl_kinds Cl_events Cl_firsts x10 x11 x12 x13 x14 x15 x16 x17 x18 x19 x20 x21 o x23 x24 x25 x26 x27 x28 x29 x30 x31 x32 x33 x34 x35 x36 x37 x38 x39 x40 x41 x42 x43 x44 x45 x46 x47 x48 x49 x50 x51 x52 x53 x54 x55 x56 x57 x58 x59 x60 x61 x62 x63 x64 x65 x66 x67 ++ t)) := Ct.ofR (by decide +kernel) rfl (Nat.le_of_ble_eq_true rfl) (rt_Ve_gatherAhead h ⟨rfl, rfl⟩)
set_option maxRecDepth 20000 in
set_option maxHeartbeats 4000000 in
theorem rt_Ve_nextEvent {g : GG} {ad : Nat → Nat} {t : va_W} {x0 x1 x4 x5 x11 x12 x18 x19 x20 x24 x25 x26 x27 x28 x29 x30 x31 x37 x39 x40 x41 x47 x48 x54 x56 x58 x59 x60 x61 x63 x64 x65 x66 : Int32} {x2 x6 x7 x8 x9 x10 x13 x14 x15 x16 x17 x21 x23 x33 x34 x35 x42 x43 x44 x45 x46 x49 x50 x51 x52 x53 x62 x67 : Nat → Int32} {x32 : Int64} {x36 x38 x55 x57 : Nat → Int64} {N : Nat} {Tap_eventCount : Int32} {Ve_ahead : Nat → Int32} {p1 : Int32} {o : Int32} {Q : Rs → va_W → Prop} (h : f_Ve_nextEvent N Tap_eventCount Ve_ahead p1 = some o) (hq : Q (.inl (some (.int o))) (wlX g ad x0 x1 x2 Tap_eventCount x4 x5 x6 x7 x8 x9 x10 x11 x12 x13 x14 x15 x16 x17 x18 x19 x20 x21 Ve_ahead x23 x24 x25 x26 x27 x28 x29 x30 x31 x32 x33 x34 x35 x36 x37 x38 x39 x40 x41 x42 x43 x44 x45 x46 x47 x48 x49 x50 x51 x52 x53 x54 x55 x56 x57 x58 x59 x60 x61 x62 x63 x64 x65 x66 x67 ++ t)) : R g mX8_nextEvent 2 0 0 0 [(0, .ref (ad 26)), (1, .int p1)] [] (wlX g ad x0 x1 x2 Tap_eventCount x4 x5 x6 x7 x8 x9 x10 x11 x12 x13 x14 x15 x16 x17 x18 x19 x20 x21 Ve_ahead x23 x24 x25 x26 x27 x28 x29 x30 x31 x32 x33 x34 x35 x36 x37 x38 x39 x40 x41 x42 x43 x44 x45 x46 x47 x48 x49 x50 x51 x52 x53 x54 x55 x56 x57 x58 x59 x60 x61 x62 x63 x64 x65 x66 x67 ++ t) Q := by
  unfold f_Ve_nextEvent at h
  refine r_iconst (v := (0 : Int32)) dX8_nextEvent_0 (by decide) ?_
  refine r_istore_n [(2, .int (0 : Int32)), (0, .ref (ad 26)), (1, .int p1)] dX8_nextEvent_1 (by decide) rfl ?_
  refine r_ls [1, 2, 0] (ls2 := [(0, .ref (ad 26)), (1, .int p1), (2, .int (0 : Int32))]) rfl ?_
  have L1 : ∀ (n1 : Nat) (l2_1 : Int32), (fun z9 => z9) (lpS (f_Ve_nextEvent_L2 Tap_eventCount Ve_ahead p1) none n1 l2_1) = some o → R g mX8_nextEvent 2 0 0 2 [(0, .ref (ad 26)), (1, .int p1), (2, .int l2_1)] [] (wlX g ad x0 x1 x2 Tap_eventCount x4 x5 x6 x7 x8 x9 x10 x11 x12 x13 x14 x15 x16 x17 x18 x19 x20 x21 Ve_ahead x23 x24 x25 x26 x27 x28 x29 x30 x31 x32 x33 x34 x35 x36 x37 x38 x39 x40 x41 x42 x43 x44 x45 x46 x47 x48 x49 x50 x51 x52 x53 x54 x55 x56 x57 x58 x59 x60 x61 x62 x63 x64 x65 x66 x67 ++ t) Q := by
    intro n1
    induction n1 with
    | zero => intro l2_1 h; exact nomatch (show (none : Option _) = some _ from h)
    | succ n1 ih1 =>
      intro l2_1 h
      have h : (fun z9 => (lC (f_Ve_nextEvent_L2 Tap_eventCount Ve_ahead p1) none n1 z9)) (f_Ve_nextEvent_L2 Tap_eventCount Ve_ahead p1 l2_1) = some o := h
      unfold f_Ve_nextEvent_L2 at h
      try dsimp only at h
      refine r_iload_n 2 dX8_nextEvent_2 rfl ?_
      refine r_aload_n 0 dX8_nextEvent_3 rfl ?_
      refine r_getf (v := .ref (ad 3)) _ dX8_nextEvent_4 fl_X8_9 lX_26 rfl ?_
      refine r_getf (v := .int Tap_eventCount) _ dX8_nextEvent_7 fl_X8_131 lX_3 rfl ?_
      refine r_icmp_ge (tgt := 44) dX8_nextEvent_10 (by decide) (fun hc942 => ?_) (fun hc942 => ?_)
      · have h := ip (fun z9 => (lC (f_Ve_nextEvent_L2 Tap_eventCount Ve_ahead p1) none n1 z9)) hc942 h
        refine r_iconst (v := (-1 : Int32)) dX8_nextEvent_44 (by decide) ?_
        refine r_iret dX8_nextEvent_45 rfl ?_
        have h := Option.some.inj (show some _ = some o from h)
        subst h
        exact hq
      · have h := iq (fun z9 => (lC (f_Ve_nextEvent_L2 Tap_eventCount Ve_ahead p1) none n1 z9)) hc942 h
        refine r_iload_n 1 dX8_nextEvent_13 rfl ?_
        refine r_iload_n 2 dX8_nextEvent_14 rfl ?_
        refine c_SN (rest := []) 0 0 dX8_nextEvent_15 kq_X8_66 (ct_Main_has rfl) rfl rfl (Nat.le_of_ble_eq_true rfl) (by decide) (by decide) ?_
        refine r_if_ne (tgt := 38) dX8_nextEvent_18 (by decide) (fun hc943 => ?_) (fun hc943 => ?_)
        · have h := iq (fun z9 => (lC (f_Ve_nextEvent_L2 Tap_eventCount Ve_ahead p1) none n1 z9)) hc943 h
          refine r_iinc (v2 := (l2_1 + (1 : Int32))) 2 [(2, .int (l2_1 + (1 : Int32))), (0, .ref (ad 26)), (1, .int p1)] dX8_nextEvent_38 rfl rfl (by decide) rfl ?_
          refine r_goto (tgt := 2) dX8_nextEvent_41 (by decide) ?_
          refine r_ls [1, 2, 0] (ls2 := [(0, .ref (ad 26)), (1, .int p1), (2, .int (l2_1 + (1 : Int32)))]) rfl ?_
          exact ih1 (l2_1 + (1 : Int32)) h
        · have h := ip (fun z9 => (lC (f_Ve_nextEvent_L2 Tap_eventCount Ve_ahead p1) none n1 z9)) hc943 h
          refine r_aload_n 0 dX8_nextEvent_21 rfl ?_
          refine r_getf (v := .ref (ad 29)) _ dX8_nextEvent_22 fl_X8_24 lX_26 rfl ?_
          refine r_iload_n 2 dX8_nextEvent_25 rfl ?_
          refine c_V (rest := []) 0 0 _ dX8_nextEvent_26 kv_X8_56 (ct_Row_get lX_29 lX_30 (Nat.le_of_ble_eq_true rfl)) rfl rfl lX_29 rfl (Nat.le_of_ble_eq_true rfl) (by decide) (by decide) ?_
          refine r_iload_n 1 dX8_nextEvent_29 rfl ?_
          refine r_iconst (v := (-1 : Int32)) dX8_nextEvent_30 (by decide) ?_
          refine r_ixor dX8_nextEvent_31 ?_
          refine r_iand dX8_nextEvent_32 ?_
          refine r_if_ne (tgt := 38) dX8_nextEvent_33 (by decide) (fun hc944 => ?_) (fun hc944 => ?_)
          · have h := iq (fun z9 => (lC (f_Ve_nextEvent_L2 Tap_eventCount Ve_ahead p1) none n1 z9)) hc944 h
            refine r_iinc (v2 := (l2_1 + (1 : Int32))) 2 [(2, .int (l2_1 + (1 : Int32))), (0, .ref (ad 26)), (1, .int p1)] dX8_nextEvent_38 rfl rfl (by decide) rfl ?_
            refine r_goto (tgt := 2) dX8_nextEvent_41 (by decide) ?_
            refine r_ls [1, 2, 0] (ls2 := [(0, .ref (ad 26)), (1, .int p1), (2, .int (l2_1 + (1 : Int32)))]) rfl ?_
            exact ih1 (l2_1 + (1 : Int32)) h
          · have h := ip (fun z9 => (lC (f_Ve_nextEvent_L2 Tap_eventCount Ve_ahead p1) none n1 z9)) hc944 h
            refine r_iload_n 2 dX8_nextEvent_36 rfl ?_
            refine r_iret dX8_nextEvent_37 rfl ?_
            have h := Option.some.inj (show some _ = some o from h)
            subst h
            exact hq
  exact L1 _ (0 : Int32) h
theorem ct_Ve_nextEvent {g : GG} {ad : Nat → Nat} {t : va_W} {x0 x1 x4 x5 x11 x12 x18 x19 x20 x24 x25 x26 x27 x28 x29 x30 x31 x37 x39 x40 x41 x47 x48 x54 x56 x58 x59 x60 x61 x63 x64 x65 x66 : Int32} {x2 x6 x7 x8 x9 x10 x13 x14 x15 x16 x17 x21 x23 x33 x34 x35 x42 x43 x44 x45 x46 x49 x50 x51 x52 x53 x62 x67 : Nat → Int32} {x32 : Int64} {x36 x38 x55 x57 : Nat → Int64} {N : Nat} {Tap_eventCount : Int32} {Ve_ahead : Nat → Int32} {p1 : Int32} {o : Int32} (h : f_Ve_nextEvent N Tap_eventCount Ve_ahead p1 = some o) : Ct g mX8_nextEvent 2 0 0 [.ref (ad 26), .int p1] (wlX g ad x0 x1 x2 Tap_eventCount x4 x5 x6 x7 x8 x9 x10 x11 x12 x13 x14 x15 x16 x17 x18 x19 x20 x21 Ve_ahead x23 x24 x25 x26 x27 x28 x29 x30 x31 x32 x33 x34 x35 x36 x37 x38 x39 x40 x41 x42 x43 x44 x45 x46 x47 x48 x49 x50 x51 x52 x53 x54 x55 x56 x57 x58 x59 x60 x61 x62 x63 x64 x65 x66 x67 ++ t) (Dv (some (.int o)) (wlX g ad x0 x1 x2 Tap_eventCount x4 x5 x6 x7 x8 x9 x10 x11 x12 x13 x14 x15 x16 x17 x18 x19 x20 x21 Ve_ahead x23 x24 x25 x26 x27 x28 x29 x30 x31 x32 x33 x34 x35 x36 x37 x38 x39 x40 x41 x42 x43 x44 x45 x46 x47 x48 x49 x50 x51 x52 x53 x54 x55 x56 x57 x58 x59 x60 x61 x62 x63 x64 x65 x66 x67 ++ t)) := Ct.ofR (by decide +kernel) rfl (Nat.le_of_ble_eq_true rfl) (rt_Ve_nextEvent h ⟨rfl, rfl⟩)
set_option maxRecDepth 20000 in
set_option maxHeartbeats 4000000 in
theorem rt_Ve_arrange {g : GG} {ad : Nat → Nat} {t : va_W} {x0 x1 x11 x12 x24 x25 x26 x27 x28 x29 x30 x31 x37 x39 x40 x41 x47 x48 x54 x56 x58 x59 x60 x61 x63 x64 x65 x66 : Int32} {x2 x10 x13 x14 x15 x16 x17 x33 x34 x35 x42 x43 x44 x45 x46 x49 x50 x51 x52 x53 x62 x67 : Nat → Int32} {x32 : Int64} {x36 x38 x55 x57 : Nat → Int64} {N : Nat} {Tap_eventCount : Int32} {Tap_tellerCount : Int32} {Cl_count : Int32} {Cl_tellers : Nat → Int32} {Cl_kinds : Nat → Int32} {Cl_events : Nat → Int32} {Cl_firsts : Nat → Int32} {Ve_judged : Int32} {Ve_liarSet : Int32} {Ve_setCount : Int32} {Ve_against : Nat → Int32} {Ve_ahead : Nat → Int32} {Ve_order : Nat → Int32} {p1 : Int32} {o : Int32 × Int32 × Int32 × Int32 × (Nat → Int32) × (Nat → Int32)} {Q : Rs → va_W → Prop} (h : f_Ve_arrange N Tap_eventCount Tap_tellerCount Cl_count Cl_tellers Cl_kinds Cl_events Cl_firsts Ve_judged Ve_liarSet Ve_setCount Ve_against Ve_ahead Ve_order p1 = some o) (hq : Q (.inl (some (.int o.1))) (wlX g ad x0 x1 x2 Tap_eventCount Tap_tellerCount Cl_count Cl_tellers Cl_kinds Cl_events Cl_firsts x10 x11 x12 x13 x14 x15 x16 x17 o.2.1 o.2.2.1 o.2.2.2.1 Ve_against o.2.2.2.2.1 o.2.2.2.2.2 x24 x25 x26 x27 x28 x29 x30 x31 x32 x33 x34 x35 x36 x37 x38 x39 x40 x41 x42 x43 x44 x45 x46 x47 x48 x49 x50 x51 x52 x53 x54 x55 x56 x57 x58 x59 x60 x61 x62 x63 x64 x65 x66 x67 ++ t)) : R g mX8_arrange 5 0 0 0 [(0, .ref (ad 26)), (1, .int p1)] [] (wlX g ad x0 x1 x2 Tap_eventCount Tap_tellerCount Cl_count Cl_tellers Cl_kinds Cl_events Cl_firsts x10 x11 x12 x13 x14 x15 x16 x17 Ve_judged Ve_liarSet Ve_setCount Ve_against Ve_ahead Ve_order x24 x25 x26 x27 x28 x29 x30 x31 x32 x33 x34 x35 x36 x37 x38 x39 x40 x41 x42 x43 x44 x45 x46 x47 x48 x49 x50 x51 x52 x53 x54 x55 x56 x57 x58 x59 x60 x61 x62 x63 x64 x65 x66 x67 ++ t) Q := by
  unfold f_Ve_arrange at h
  refine r_aload_n 0 dX8_arrange_0 rfl ?_
  refine r_aload_n 0 dX8_arrange_1 rfl ?_
  refine r_iload_n 1 dX8_arrange_2 rfl ?_
  refine c_V (rest := [.ref (ad 26)]) 0 0 _ dX8_arrange_3 kv_X8_69 (ct_Ve_believedSet rfl) rfl rfl lX_26 rfl (Nat.le_of_ble_eq_true rfl) (by decide) (by decide) ?_
  refine r_aload_n 0 dX8_arrange_6 rfl ?_
  refine r_iload_n 1 dX8_arrange_7 rfl ?_
  obtain ⟨r945, hc946, h⟩ := ob (fun z9 => z9) rfl h
  refine c_V (rest := [.int (f_Ve_believedSet Tap_tellerCount p1), .ref (ad 26)]) 0 0 _ dX8_arrange_8 kv_X8_126 (ct_Ve_liarSet hc946) rfl rfl lX_26 rfl (Nat.le_of_ble_eq_true rfl) (by decide) (by decide) ?_
  refine r_iconst (v := (-1 : Int32)) dX8_arrange_11 (by decide) ?_
  refine r_ixor dX8_arrange_12 ?_
  refine r_iand dX8_arrange_13 ?_
  obtain ⟨r947, hc948, h⟩ := ob (fun z9 => z9) rfl h
  refine c_Vv (rest := []) 0 0 _ dX8_arrange_14 kv_X8_128 (ct_Ve_gatherAhead hc948) rfl rfl lX_26 rfl (Nat.le_of_ble_eq_true rfl) (by decide) (by decide) ?_
  refine r_iconst (v := (0 : Int32)) dX8_arrange_17 (by decide) ?_
  refine r_istore_n [(2, .int (0 : Int32)), (0, .ref (ad 26)), (1, .int p1)] dX8_arrange_18 (by decide) rfl ?_
  refine r_iconst (v := (0 : Int32)) dX8_arrange_19 (by decide) ?_
  refine r_istore_n [(3, .int (0 : Int32)), (2, .int (0 : Int32)), (0, .ref (ad 26)), (1, .int p1)] dX8_arrange_20 (by decide) rfl ?_
  refine r_ls [2, 1, 0] (ls2 := [(0, .ref (ad 26)), (2, .int (0 : Int32)), (3, .int (0 : Int32))]) rfl ?_
  have L1 : ∀ (n1 : Nat) (Ve_judged_c1 : Int32) (Ve_liarSet_c1 : Int32) (Ve_setCount_c1 : Int32) (l2_1 : Int32) (l3_1 : Int32) (Ve_order_1 : Nat → Int32), (fun z9 => z9) (lpS (f_Ve_arrange_L21 N Tap_eventCount r947 Ve_judged_c1 Ve_liarSet_c1 Ve_setCount_c1) none n1 (l2_1, l3_1, Ve_order_1)) = some o → R g mX8_arrange 5 0 0 21 [(0, .ref (ad 26)), (2, .int l2_1), (3, .int l3_1)] [] (wlX g ad x0 x1 x2 Tap_eventCount Tap_tellerCount Cl_count Cl_tellers Cl_kinds Cl_events Cl_firsts x10 x11 x12 x13 x14 x15 x16 x17 Ve_judged_c1 Ve_liarSet_c1 Ve_setCount_c1 Ve_against r947 Ve_order_1 x24 x25 x26 x27 x28 x29 x30 x31 x32 x33 x34 x35 x36 x37 x38 x39 x40 x41 x42 x43 x44 x45 x46 x47 x48 x49 x50 x51 x52 x53 x54 x55 x56 x57 x58 x59 x60 x61 x62 x63 x64 x65 x66 x67 ++ t) Q := by
    intro n1
    induction n1 with
    | zero => intro Ve_judged_c1 Ve_liarSet_c1 Ve_setCount_c1 l2_1 l3_1 Ve_order_1 h; exact nomatch (show (none : Option _) = some _ from h)
    | succ n1 ih1 =>
      intro Ve_judged_c1 Ve_liarSet_c1 Ve_setCount_c1 l2_1 l3_1 Ve_order_1 h
      have h : (fun z9 => (lC (f_Ve_arrange_L21 N Tap_eventCount r947 Ve_judged_c1 Ve_liarSet_c1 Ve_setCount_c1) none n1 z9)) (f_Ve_arrange_L21 N Tap_eventCount r947 Ve_judged_c1 Ve_liarSet_c1 Ve_setCount_c1 (l2_1, l3_1, Ve_order_1)) = some o := h
      unfold f_Ve_arrange_L21 at h
      try dsimp only at h
      refine r_iload_n 2 dX8_arrange_21 rfl ?_
      refine r_aload_n 0 dX8_arrange_22 rfl ?_
      refine r_getf (v := .ref (ad 3)) _ dX8_arrange_23 fl_X8_9 lX_26 rfl ?_
      refine r_getf (v := .int Tap_eventCount) _ dX8_arrange_26 fl_X8_131 lX_3 rfl ?_
      refine r_icmp_ge (tgt := 69) dX8_arrange_29 (by decide) (fun hc949 => ?_) (fun hc949 => ?_)
      · have h := ip (fun z9 => (lC (f_Ve_arrange_L21 N Tap_eventCount r947 Ve_judged_c1 Ve_liarSet_c1 Ve_setCount_c1) none n1 z9)) hc949 h
        refine r_iconst (v := (1 : Int32)) dX8_arrange_69 (by decide) ?_
        refine r_zret dX8_arrange_70 rfl (by decide) ?_
        have h := Option.some.inj (show some _ = some o from h)
        subst h
        exact hq
      · have h := iq (fun z9 => (lC (f_Ve_arrange_L21 N Tap_eventCount r947 Ve_judged_c1 Ve_liarSet_c1 Ve_setCount_c1) none n1 z9)) hc949 h
        refine r_aload_n 0 dX8_arrange_32 rfl ?_
        refine r_iload_n 1 dX8_arrange_33 rfl ?_
        obtain ⟨r950, hc951, h⟩ := ob (fun z9 => (lC (f_Ve_arrange_L21 N Tap_eventCount r947 Ve_judged_c1 Ve_liarSet_c1 Ve_setCount_c1) none n1 z9)) rfl h
        refine c_V (rest := []) 0 0 _ dX8_arrange_34 kv_X8_134 (ct_Ve_nextEvent hc951) rfl rfl lX_26 rfl (Nat.le_of_ble_eq_true rfl) (by decide) (by decide) ?_
        refine r_istore [(4, .int r950), (0, .ref (ad 26)), (2, .int l2_1), (3, .int l3_1)] dX8_arrange_37 (by decide) rfl ?_
        refine r_iload 0 dX8_arrange_39 rfl ?_
        refine r_if_ge (tgt := 46) dX8_arrange_41 (by decide) (fun hc952 => ?_) (fun hc952 => ?_)
        · have h := ip (fun z9 => (lC (f_Ve_arrange_L21 N Tap_eventCount r947 Ve_judged_c1 Ve_liarSet_c1 Ve_setCount_c1) none n1 z9)) hc952 h
          refine r_aload_n 1 dX8_arrange_46 rfl ?_
          refine r_getf (v := .ref (ad 31)) _ dX8_arrange_47 fl_X8_27 lX_26 rfl ?_
          refine r_iload_n 3 dX8_arrange_50 rfl ?_
          refine r_iload 0 dX8_arrange_51 rfl ?_
          refine c_Vv (rest := []) 0 0 _ dX8_arrange_53 kv_X8_34 (ct_Row_set lX_31 lX_32 (sX_23 _) (Nat.le_of_ble_eq_true rfl)) rfl rfl lX_31 rfl (Nat.le_of_ble_eq_true rfl) (by decide) (by decide) ?_
          refine r_iload_n 2 dX8_arrange_56 rfl ?_
          refine r_iconst (v := (1 : Int32)) dX8_arrange_57 (by decide) ?_
          refine r_iload 0 dX8_arrange_58 rfl ?_
          refine r_ishl dX8_arrange_60 ?_
          refine r_ior dX8_arrange_61 ?_
          refine r_istore_n [(2, .int (l2_1 ||| ((1 : Int32) <<< (r950 &&& 31)))), (4, .int r950), (0, .ref (ad 26)), (3, .int l3_1)] dX8_arrange_62 (by decide) rfl ?_
          refine r_iinc (v2 := (l3_1 + (1 : Int32))) 3 [(3, .int (l3_1 + (1 : Int32))), (2, .int (l2_1 ||| ((1 : Int32) <<< (r950 &&& 31)))), (4, .int r950), (0, .ref (ad 26))] dX8_arrange_63 rfl rfl (by decide) rfl ?_
          refine r_goto (tgt := 21) dX8_arrange_66 (by decide) ?_
          refine r_ls [3, 1, 0] (ls2 := [(0, .ref (ad 26)), (2, .int (l2_1 ||| ((1 : Int32) <<< (r950 &&& 31)))), (3, .int (l3_1 + (1 : Int32)))]) rfl ?_
          exact ih1 Ve_judged_c1 Ve_liarSet_c1 Ve_setCount_c1 (l2_1 ||| ((1 : Int32) <<< (r950 &&& 31))) (l3_1 + (1 : Int32)) (rset 8 Ve_order_1 l3_1 r950) h
        · have h := iq (fun z9 => (lC (f_Ve_arrange_L21 N Tap_eventCount r947 Ve_judged_c1 Ve_liarSet_c1 Ve_setCount_c1) none n1 z9)) hc952 h
          refine r_iconst (v := (0 : Int32)) dX8_arrange_44 (by decide) ?_
          refine r_zret dX8_arrange_45 rfl (by decide) ?_
          have h := Option.some.inj (show some _ = some o from h)
          subst h
          exact hq
  exact L1 _ r945.2.1 r945.2.2.1 r945.2.2.2 (0 : Int32) (0 : Int32) Ve_order h
theorem ct_Ve_arrange {g : GG} {ad : Nat → Nat} {t : va_W} {x0 x1 x11 x12 x24 x25 x26 x27 x28 x29 x30 x31 x37 x39 x40 x41 x47 x48 x54 x56 x58 x59 x60 x61 x63 x64 x65 x66 : Int32} {x2 x10 x13 x14 x15 x16 x17 x33 x34 x35 x42 x43 x44 x45 x46 x49 x50 x51 x52 x53 x62 x67 : Nat → Int32} {x32 : Int64} {x36 x38 x55 x57 : Nat → Int64} {N : Nat} {Tap_eventCount : Int32} {Tap_tellerCount : Int32} {Cl_count : Int32} {Cl_tellers : Nat → Int32} {Cl_kinds : Nat → Int32} {Cl_events : Nat → Int32} {Cl_firsts : Nat → Int32} {Ve_judged : Int32} {Ve_liarSet : Int32} {Ve_setCount : Int32} {Ve_against : Nat → Int32} {Ve_ahead : Nat → Int32} {Ve_order : Nat → Int32} {p1 : Int32} {o : Int32 × Int32 × Int32 × Int32 × (Nat → Int32) × (Nat → Int32)} (h : f_Ve_arrange N Tap_eventCount Tap_tellerCount Cl_count Cl_tellers Cl_kinds Cl_events Cl_firsts Ve_judged Ve_liarSet Ve_setCount Ve_against Ve_ahead Ve_order p1 = some o) : Ct g mX8_arrange 5 0 0 [.ref (ad 26), .int p1] (wlX g ad x0 x1 x2 Tap_eventCount Tap_tellerCount Cl_count Cl_tellers Cl_kinds Cl_events Cl_firsts x10 x11 x12 x13 x14 x15 x16 x17 Ve_judged Ve_liarSet Ve_setCount Ve_against Ve_ahead Ve_order x24 x25 x26 x27 x28 x29 x30 x31 x32 x33 x34 x35 x36 x37 x38 x39 x40 x41 x42 x43 x44 x45 x46 x47 x48 x49 x50 x51 x52 x53 x54 x55 x56 x57 x58 x59 x60 x61 x62 x63 x64 x65 x66 x67 ++ t) (Dv (some (.int o.1)) (wlX g ad x0 x1 x2 Tap_eventCount Tap_tellerCount Cl_count Cl_tellers Cl_kinds Cl_events Cl_firsts x10 x11 x12 x13 x14 x15 x16 x17 o.2.1 o.2.2.1 o.2.2.2.1 Ve_against o.2.2.2.2.1 o.2.2.2.2.2 x24 x25 x26 x27 x28 x29 x30 x31 x32 x33 x34 x35 x36 x37 x38 x39 x40 x41 x42 x43 x44 x45 x46 x47 x48 x49 x50 x51 x52 x53 x54 x55 x56 x57 x58 x59 x60 x61 x62 x63 x64 x65 x66 x67 ++ t)) := Ct.ofR (by decide +kernel) rfl (Nat.le_of_ble_eq_true rfl) (rt_Ve_arrange h ⟨rfl, rfl⟩)
set_option maxRecDepth 20000 in
set_option maxHeartbeats 4000000 in
theorem rt_Main_hasOrder {g : GG} {ad : Nat → Nat} {t : va_W} {x0 x1 x11 x12 x24 x25 x26 x27 x28 x29 x30 x31 x37 x39 x40 x41 x47 x48 x54 x56 x58 x60 x61 x63 x64 x65 x66 : Int32} {x2 x10 x13 x14 x15 x16 x17 x33 x34 x35 x42 x43 x44 x45 x46 x49 x50 x51 x52 x53 x62 x67 : Nat → Int32} {x32 : Int64} {x36 x38 x55 x57 : Nat → Int64} {N : Nat} {Tap_eventCount : Int32} {Tap_tellerCount : Int32} {Cl_count : Int32} {Cl_tellers : Nat → Int32} {Cl_kinds : Nat → Int32} {Cl_events : Nat → Int32} {Cl_firsts : Nat → Int32} {Ve_judged : Int32} {Ve_liarSet : Int32} {Ve_setCount : Int32} {Ve_against : Nat → Int32} {Ve_ahead : Nat → Int32} {Ve_order : Nat → Int32} {Co_doubted : Int32} {o : Int32 × Int32 × Int32 × Int32 × (Nat → Int32) × (Nat → Int32)} {Q : Rs → va_W → Prop} (h : f_Main_hasOrder N Tap_eventCount Tap_tellerCount Cl_count Cl_tellers Cl_kinds Cl_events Cl_firsts Ve_judged Ve_liarSet Ve_setCount Ve_against Ve_ahead Ve_order Co_doubted = some o) (hq : Q (.inl (some (.int o.1))) (wlX g ad x0 x1 x2 Tap_eventCount Tap_tellerCount Cl_count Cl_tellers Cl_kinds Cl_events Cl_firsts x10 x11 x12 x13 x14 x15 x16 x17 o.2.1 o.2.2.1 o.2.2.2.1 Ve_against o.2.2.2.2.1 o.2.2.2.2.2 x24 x25 x26 x27 x28 x29 x30 x31 x32 x33 x34 x35 x36 x37 x38 x39 x40 x41 x42 x43 x44 x45 x46 x47 x48 x49 x50 x51 x52 x53 x54 x55 x56 x57 x58 Co_doubted x60 x61 x62 x63 x64 x65 x66 x67 ++ t)) : R g mX9_hasOrder 6 0 0 0 [(0, .ref (ad 0))] [] (wlX g ad x0 x1 x2 Tap_eventCount Tap_tellerCount Cl_count Cl_tellers Cl_kinds Cl_events Cl_firsts x10 x11 x12 x13 x14 x15 x16 x17 Ve_judged Ve_liarSet Ve_setCount Ve_against Ve_ahead Ve_order x24 x25 x26 x27 x28 x29 x30 x31 x32 x33 x34 x35 x36 x37 x38 x39 x40 x41 x42 x43 x44 x45 x46 x47 x48 x49 x50 x51 x52 x53 x54 x55 x56 x57 x58 Co_doubted x60 x61 x62 x63 x64 x65 x66 x67 ++ t) Q := by
  unfold f_Main_hasOrder at h
  refine r_aload_n 0 dX9_hasOrder_0 rfl ?_
  refine r_getf (v := .ref (ad 26)) _ dX9_hasOrder_1 fl_X9_39 lX_0 rfl ?_
  refine r_aload_n 0 dX9_hasOrder_4 rfl ?_
  refine r_getf (v := .ref (ad 71)) _ dX9_hasOrder_5 fl_X9_48 lX_0 rfl ?_
  refine r_getf (v := .int Co_doubted) _ dX9_hasOrder_8 fl_X9_162 lX_71 rfl ?_
  obtain ⟨r953, hc954, h⟩ := ob (fun z9 => z9) rfl h
  refine c_V (rest := []) 0 0 _ dX9_hasOrder_11 kv_X9_207 (ct_Ve_arrange hc954) rfl rfl lX_26 rfl (Nat.le_of_ble_eq_true rfl) (by decide) (by decide) ?_
  obtain ⟨hb955, h⟩ := gd (fun z9 => z9) rfl h
  refine r_zret dX9_hasOrder_14 rfl (zB_n hb955) ?_
  have h := Option.some.inj (show some _ = some o from h)
  subst h
  exact hq
theorem ct_Main_hasOrder {g : GG} {ad : Nat → Nat} {t : va_W} {x0 x1 x11 x12 x24 x25 x26 x27 x28 x29 x30 x31 x37 x39 x40 x41 x47 x48 x54 x56 x58 x60 x61 x63 x64 x65 x66 : Int32} {x2 x10 x13 x14 x15 x16 x17 x33 x34 x35 x42 x43 x44 x45 x46 x49 x50 x51 x52 x53 x62 x67 : Nat → Int32} {x32 : Int64} {x36 x38 x55 x57 : Nat → Int64} {N : Nat} {Tap_eventCount : Int32} {Tap_tellerCount : Int32} {Cl_count : Int32} {Cl_tellers : Nat → Int32} {Cl_kinds : Nat → Int32} {Cl_events : Nat → Int32} {Cl_firsts : Nat → Int32} {Ve_judged : Int32} {Ve_liarSet : Int32} {Ve_setCount : Int32} {Ve_against : Nat → Int32} {Ve_ahead : Nat → Int32} {Ve_order : Nat → Int32} {Co_doubted : Int32} {o : Int32 × Int32 × Int32 × Int32 × (Nat → Int32) × (Nat → Int32)} (h : f_Main_hasOrder N Tap_eventCount Tap_tellerCount Cl_count Cl_tellers Cl_kinds Cl_events Cl_firsts Ve_judged Ve_liarSet Ve_setCount Ve_against Ve_ahead Ve_order Co_doubted = some o) : Ct g mX9_hasOrder 6 0 0 [.ref (ad 0)] (wlX g ad x0 x1 x2 Tap_eventCount Tap_tellerCount Cl_count Cl_tellers Cl_kinds Cl_events Cl_firsts x10 x11 x12 x13 x14 x15 x16 x17 Ve_judged Ve_liarSet Ve_setCount Ve_against Ve_ahead Ve_order x24 x25 x26 x27 x28 x29 x30 x31 x32 x33 x34 x35 x36 x37 x38 x39 x40 x41 x42 x43 x44 x45 x46 x47 x48 x49 x50 x51 x52 x53 x54 x55 x56 x57 x58 Co_doubted x60 x61 x62 x63 x64 x65 x66 x67 ++ t) (Dv (some (.int o.1)) (wlX g ad x0 x1 x2 Tap_eventCount Tap_tellerCount Cl_count Cl_tellers Cl_kinds Cl_events Cl_firsts x10 x11 x12 x13 x14 x15 x16 x17 o.2.1 o.2.2.1 o.2.2.2.1 Ve_against o.2.2.2.2.1 o.2.2.2.2.2 x24 x25 x26 x27 x28 x29 x30 x31 x32 x33 x34 x35 x36 x37 x38 x39 x40 x41 x42 x43 x44 x45 x46 x47 x48 x49 x50 x51 x52 x53 x54 x55 x56 x57 x58 Co_doubted x60 x61 x62 x63 x64 x65 x66 x67 ++ t)) := Ct.ofR (by decide +kernel) rfl (Nat.le_of_ble_eq_true rfl) (rt_Main_hasOrder h ⟨rfl, rfl⟩)
set_option maxRecDepth 20000 in
set_option maxHeartbeats 4000000 in
theorem rt_Main_eventAt {g : GG} {ad : Nat → Nat} {t : va_W} {x0 x1 x11 x12 x24 x25 x26 x27 x28 x29 x30 x31 x37 x39 x40 x41 x47 x48 x54 x56 x58 x60 x61 x63 x64 x65 x66 : Int32} {x2 x10 x13 x14 x15 x16 x17 x33 x34 x35 x42 x43 x44 x45 x46 x49 x50 x51 x52 x53 x62 x67 : Nat → Int32} {x32 : Int64} {x36 x38 x55 x57 : Nat → Int64} {N : Nat} {Tap_eventCount : Int32} {Tap_tellerCount : Int32} {Cl_count : Int32} {Cl_tellers : Nat → Int32} {Cl_kinds : Nat → Int32} {Cl_events : Nat → Int32} {Cl_firsts : Nat → Int32} {Ve_judged : Int32} {Ve_liarSet : Int32} {Ve_setCount : Int32} {Ve_against : Nat → Int32} {Ve_ahead : Nat → Int32} {Ve_order : Nat → Int32} {Co_doubted : Int32} {p1 : Int32} {o : (Int32 × Int32 × Int32 × Int32 × (Nat → Int32) × (Nat → Int32)) ⊕ (String × Int32 × Int32 × Int32 × (Nat → Int32) × (Nat → Int32))} {Q : Rs → va_W → Prop} (h : f_Main_eventAt N Tap_eventCount Tap_tellerCount Cl_count Cl_tellers Cl_kinds Cl_events Cl_firsts Ve_judged Ve_liarSet Ve_setCount Ve_against Ve_ahead Ve_order Co_doubted p1 = some o) (hq1 : ∀ q, o = .inl q → Q (.inl (some (.int q.1))) (wlX g ad x0 x1 x2 Tap_eventCount Tap_tellerCount Cl_count Cl_tellers Cl_kinds Cl_events Cl_firsts x10 x11 x12 x13 x14 x15 x16 x17 q.2.1 q.2.2.1 q.2.2.2.1 Ve_against q.2.2.2.2.1 q.2.2.2.2.2 x24 x25 x26 x27 x28 x29 x30 x31 x32 x33 x34 x35 x36 x37 x38 x39 x40 x41 x42 x43 x44 x45 x46 x47 x48 x49 x50 x51 x52 x53 x54 x55 x56 x57 x58 Co_doubted x60 x61 x62 x63 x64 x65 x66 x67 ++ t)) (hq2 : ∀ E, o = .inr E → Q (.inr E.1) (wlX g ad x0 x1 x2 Tap_eventCount Tap_tellerCount Cl_count Cl_tellers Cl_kinds Cl_events Cl_firsts x10 x11 x12 x13 x14 x15 x16 x17 E.2.1 E.2.2.1 E.2.2.2.1 Ve_against E.2.2.2.2.1 E.2.2.2.2.2 x24 x25 x26 x27 x28 x29 x30 x31 x32 x33 x34 x35 x36 x37 x38 x39 x40 x41 x42 x43 x44 x45 x46 x47 x48 x49 x50 x51 x52 x53 x54 x55 x56 x57 x58 Co_doubted x60 x61 x62 x63 x64 x65 x66 x67 ++ t)) : R g mX9_eventAt 6 1 6 0 [(0, .ref (ad 0)), (1, .int p1)] [] (wlX g ad x0 x1 x2 Tap_eventCount Tap_tellerCount Cl_count Cl_tellers Cl_kinds Cl_events Cl_firsts x10 x11 x12 x13 x14 x15 x16 x17 Ve_judged Ve_liarSet Ve_setCount Ve_against Ve_ahead Ve_order x24 x25 x26 x27 x28 x29 x30 x31 x32 x33 x34 x35 x36 x37 x38 x39 x40 x41 x42 x43 x44 x45 x46 x47 x48 x49 x50 x51 x52 x53 x54 x55 x56 x57 x58 Co_doubted x60 x61 x62 x63 x64 x65 x66 x67 ++ t) Q := by
  unfold f_Main_eventAt at h
  refine r_iload_n 1 dX9_eventAt_0 rfl ?_
  refine r_if_lt (tgt := 15) dX9_eventAt_1 (by decide) (fun hc956 => ?_) (fun hc956 => ?_)
  · have h := ip (fun z9 => z9) hc956 h
    refine r_throw (x := 0) (y := 0) dX9_eventAt_15 dX9_eventAt_18 dX9_eventAt_19 dX9_eventAt_21 dX9_eventAt_24 kx_X9_149_211_153 rfl (Nat.le_of_ble_eq_true rfl) (by decide) ?_
    have h := Option.some.inj (show some _ = some o from h)
    subst h
    exact hq2 _ rfl
  · have h := iq (fun z9 => z9) hc956 h
    refine r_iload_n 1 dX9_eventAt_4 rfl ?_
    refine r_aload_n 0 dX9_eventAt_5 rfl ?_
    refine r_getf (v := .ref (ad 3)) _ dX9_eventAt_6 fl_X9_35 lX_0 rfl ?_
    refine r_getf (v := .int Tap_eventCount) _ dX9_eventAt_9 fl_X9_98 lX_3 rfl ?_
    refine r_icmp_lt (tgt := 25) dX9_eventAt_12 (by decide) (fun hc957 => ?_) (fun hc957 => ?_)
    · have h := ip (fun z9 => z9) hc957 h
      refine r_aload_n 0 dX9_eventAt_25 rfl ?_
      refine r_getf (v := .ref (ad 26)) _ dX9_eventAt_26 fl_X9_39 lX_0 rfl ?_
      refine r_aload_n 0 dX9_eventAt_29 rfl ?_
      refine r_getf (v := .ref (ad 71)) _ dX9_eventAt_30 fl_X9_48 lX_0 rfl ?_
      refine r_getf (v := .int Co_doubted) _ dX9_eventAt_33 fl_X9_162 lX_71 rfl ?_
      obtain ⟨r958, hc959, h⟩ := ob (fun z9 => z9) rfl h
      refine c_V (rest := []) 1 6 _ dX9_eventAt_36 kv_X9_207 (ct_Ve_arrange hc959) rfl rfl lX_26 rfl (Nat.le_of_ble_eq_true rfl) (by decide) (by decide) ?_
      refine r_if_ne (tgt := 52) dX9_eventAt_39 (by decide) (fun hc960 => ?_) (fun hc960 => ?_)
      · have h := iq (fun z9 => z9) hc960 h
        refine r_aload_n 0 dX9_eventAt_52 rfl ?_
        refine r_getf (v := .ref (ad 26)) _ dX9_eventAt_53 fl_X9_39 lX_0 rfl ?_
        refine r_getf (v := .ref (ad 31)) _ dX9_eventAt_56 fl_X9_215 lX_26 rfl ?_
        refine r_iload_n 1 dX9_eventAt_59 rfl ?_
        refine c_V (rest := []) 1 6 _ dX9_eventAt_60 kv_X9_125 (ct_Row_get lX_31 lX_32 (Nat.le_of_ble_eq_true rfl)) rfl rfl lX_31 rfl (Nat.le_of_ble_eq_true rfl) (by decide) (by decide) ?_
        refine r_iret dX9_eventAt_63 rfl ?_
        have h := Option.some.inj (show some _ = some o from h)
        subst h
        exact hq1 _ rfl
      · have h := ip (fun z9 => z9) hc960 h
        refine r_throw (x := 0) (y := 0) dX9_eventAt_42 dX9_eventAt_45 dX9_eventAt_46 dX9_eventAt_48 dX9_eventAt_51 kx_X9_62_213_66 rfl (Nat.le_of_ble_eq_true rfl) (by decide) ?_
        have h := Option.some.inj (show some _ = some o from h)
        subst h
        exact hq2 _ rfl
    · have h := iq (fun z9 => z9) hc957 h
      refine r_throw (x := 0) (y := 0) dX9_eventAt_15 dX9_eventAt_18 dX9_eventAt_19 dX9_eventAt_21 dX9_eventAt_24 kx_X9_149_211_153 rfl (Nat.le_of_ble_eq_true rfl) (by decide) ?_
      have h := Option.some.inj (show some _ = some o from h)
      subst h
      exact hq2 _ rfl
theorem ct_Main_eventAt {g : GG} {ad : Nat → Nat} {t : va_W} {x0 x1 x11 x12 x24 x25 x26 x27 x28 x29 x30 x31 x37 x39 x40 x41 x47 x48 x54 x56 x58 x60 x61 x63 x64 x65 x66 : Int32} {x2 x10 x13 x14 x15 x16 x17 x33 x34 x35 x42 x43 x44 x45 x46 x49 x50 x51 x52 x53 x62 x67 : Nat → Int32} {x32 : Int64} {x36 x38 x55 x57 : Nat → Int64} {N : Nat} {Tap_eventCount : Int32} {Tap_tellerCount : Int32} {Cl_count : Int32} {Cl_tellers : Nat → Int32} {Cl_kinds : Nat → Int32} {Cl_events : Nat → Int32} {Cl_firsts : Nat → Int32} {Ve_judged : Int32} {Ve_liarSet : Int32} {Ve_setCount : Int32} {Ve_against : Nat → Int32} {Ve_ahead : Nat → Int32} {Ve_order : Nat → Int32} {Co_doubted : Int32} {p1 : Int32} {o : (Int32 × Int32 × Int32 × Int32 × (Nat → Int32) × (Nat → Int32)) ⊕ (String × Int32 × Int32 × Int32 × (Nat → Int32) × (Nat → Int32))} (h : f_Main_eventAt N Tap_eventCount Tap_tellerCount Cl_count Cl_tellers Cl_kinds Cl_events Cl_firsts Ve_judged Ve_liarSet Ve_setCount Ve_against Ve_ahead Ve_order Co_doubted p1 = some o) : Ct g mX9_eventAt 6 1 6 [.ref (ad 0), .int p1] (wlX g ad x0 x1 x2 Tap_eventCount Tap_tellerCount Cl_count Cl_tellers Cl_kinds Cl_events Cl_firsts x10 x11 x12 x13 x14 x15 x16 x17 Ve_judged Ve_liarSet Ve_setCount Ve_against Ve_ahead Ve_order x24 x25 x26 x27 x28 x29 x30 x31 x32 x33 x34 x35 x36 x37 x38 x39 x40 x41 x42 x43 x44 x45 x46 x47 x48 x49 x50 x51 x52 x53 x54 x55 x56 x57 x58 Co_doubted x60 x61 x62 x63 x64 x65 x66 x67 ++ t) (Du o (fun q => some (.int q.1)) (fun q => (wlX g ad x0 x1 x2 Tap_eventCount Tap_tellerCount Cl_count Cl_tellers Cl_kinds Cl_events Cl_firsts x10 x11 x12 x13 x14 x15 x16 x17 q.2.1 q.2.2.1 q.2.2.2.1 Ve_against q.2.2.2.2.1 q.2.2.2.2.2 x24 x25 x26 x27 x28 x29 x30 x31 x32 x33 x34 x35 x36 x37 x38 x39 x40 x41 x42 x43 x44 x45 x46 x47 x48 x49 x50 x51 x52 x53 x54 x55 x56 x57 x58 Co_doubted x60 x61 x62 x63 x64 x65 x66 x67 ++ t)) (fun E => E.1) (fun E => (wlX g ad x0 x1 x2 Tap_eventCount Tap_tellerCount Cl_count Cl_tellers Cl_kinds Cl_events Cl_firsts x10 x11 x12 x13 x14 x15 x16 x17 E.2.1 E.2.2.1 E.2.2.2.1 Ve_against E.2.2.2.2.1 E.2.2.2.2.2 x24 x25 x26 x27 x28 x29 x30 x31 x32 x33 x34 x35 x36 x37 x38 x39 x40 x41 x42 x43 x44 x45 x46 x47 x48 x49 x50 x51 x52 x53 x54 x55 x56 x57 x58 Co_doubted x60 x61 x62 x63 x64 x65 x66 x67 ++ t))) := Ct.ofR (by decide +kernel) rfl (Nat.le_of_ble_eq_true rfl) (rt_Main_eventAt h (fun q e => by subst e; exact ⟨rfl, rfl⟩) (fun E e => by subst e; exact ⟨rfl, rfl⟩))
set_option maxRecDepth 20000 in
set_option maxHeartbeats 4000000 in
theorem rt_Cl_isFull_i1 {g : GG} {ad : Nat → Nat} {t : va_W} {x0 x1 x3 x4 x11 x12 x18 x19 x20 x24 x25 x26 x27 x28 x29 x30 x31 x37 x39 x40 x41 x47 x48 x54 x56 x58 x59 x60 x61 x63 x64 x65 x66 : Int32} {x2 x6 x7 x8 x9 x10 x13 x14 x15 x16 x17 x21 x22 x23 x33 x34 x35 x42 x43 x44 x45 x46 x49 x50 x51 x52 x53 x62 x67 : Nat → Int32} {x32 : Int64} {x36 x38 x55 x57 : Nat → Int64} {Cl_count : Int32} {o : Int32} {Q : Rs → va_W → Prop} (h : f_Cl_isFull Cl_count = o) (hq : Q (.inl (some (.int o))) (wlX g ad x0 x1 x2 x3 x4 Cl_count x6 x7 x8 x9 x10 x11 x12 x13 x14 x15 x16 x17 x18 x19 x20 x21 x22 x23 x24 x25 x26 x27 x28 x29 x30 x31 x32 x33 x34 x35 x36 x37 x38 x39 x40 x41 x42 x43 x44 x45 x46 x47 x48 x49 x50 x51 x52 x53 x54 x55 x56 x57 x58 x59 x60 x61 x62 x63 x64 x65 x66 x67 ++ t)) : R g mX0_isFull 1 0 0 0 [(0, .ref (ad 4))] [] (wlX g ad x0 x1 x2 x3 x4 Cl_count x6 x7 x8 x9 x10 x11 x12 x13 x14 x15 x16 x17 x18 x19 x20 x21 x22 x23 x24 x25 x26 x27 x28 x29 x30 x31 x32 x33 x34 x35 x36 x37 x38 x39 x40 x41 x42 x43 x44 x45 x46 x47 x48 x49 x50 x51 x52 x53 x54 x55 x56 x57 x58 x59 x60 x61 x62 x63 x64 x65 x66 x67 ++ t) Q := by
  unfold f_Cl_isFull at h
  refine r_aload_n 0 dX0_isFull_0 rfl ?_
  refine r_getf (v := .int Cl_count) _ dX0_isFull_1 fl_X0_32 lX_4 rfl ?_
  refine r_bipush (v := (40 : Int32)) dX0_isFull_4 (by decide) ?_
  refine r_icmp_lt (tgt := 13) dX0_isFull_6 (by decide) (fun hc961 => ?_) (fun hc961 => ?_)
  · have h := ip (fun z9 => z9) hc961 h
    refine r_iconst (v := (0 : Int32)) dX0_isFull_13 (by decide) ?_
    refine r_zret dX0_isFull_14 rfl (by decide) ?_
    have h : _ = o := h
    subst h
    exact hq
  · have h := iq (fun z9 => z9) hc961 h
    refine r_iconst (v := (1 : Int32)) dX0_isFull_9 (by decide) ?_
    refine r_goto (tgt := 14) dX0_isFull_10 (by decide) ?_
    refine r_zret dX0_isFull_14 rfl (by decide) ?_
    have h : _ = o := h
    subst h
    exact hq
theorem ct_Cl_isFull_i1 {g : GG} {ad : Nat → Nat} {t : va_W} {x0 x1 x3 x4 x11 x12 x18 x19 x20 x24 x25 x26 x27 x28 x29 x30 x31 x37 x39 x40 x41 x47 x48 x54 x56 x58 x59 x60 x61 x63 x64 x65 x66 : Int32} {x2 x6 x7 x8 x9 x10 x13 x14 x15 x16 x17 x21 x22 x23 x33 x34 x35 x42 x43 x44 x45 x46 x49 x50 x51 x52 x53 x62 x67 : Nat → Int32} {x32 : Int64} {x36 x38 x55 x57 : Nat → Int64} {Cl_count : Int32} {o : Int32} (h : f_Cl_isFull Cl_count = o) : Ct g mX0_isFull 1 0 0 [.ref (ad 4)] (wlX g ad x0 x1 x2 x3 x4 Cl_count x6 x7 x8 x9 x10 x11 x12 x13 x14 x15 x16 x17 x18 x19 x20 x21 x22 x23 x24 x25 x26 x27 x28 x29 x30 x31 x32 x33 x34 x35 x36 x37 x38 x39 x40 x41 x42 x43 x44 x45 x46 x47 x48 x49 x50 x51 x52 x53 x54 x55 x56 x57 x58 x59 x60 x61 x62 x63 x64 x65 x66 x67 ++ t) (Dv (some (.int o)) (wlX g ad x0 x1 x2 x3 x4 Cl_count x6 x7 x8 x9 x10 x11 x12 x13 x14 x15 x16 x17 x18 x19 x20 x21 x22 x23 x24 x25 x26 x27 x28 x29 x30 x31 x32 x33 x34 x35 x36 x37 x38 x39 x40 x41 x42 x43 x44 x45 x46 x47 x48 x49 x50 x51 x52 x53 x54 x55 x56 x57 x58 x59 x60 x61 x62 x63 x64 x65 x66 x67 ++ t)) := Ct.ofR (by decide +kernel) rfl (Nat.le_of_ble_eq_true rfl) (rt_Cl_isFull_i1 h ⟨rfl, rfl⟩)
set_option maxRecDepth 20000 in
set_option maxHeartbeats 4000000 in
theorem rt_Cl_add_i1 {g : GG} {ad : Nat → Nat} {t : va_W} {x0 x1 x3 x4 x11 x12 x18 x19 x20 x24 x25 x26 x27 x28 x29 x30 x31 x37 x39 x40 x41 x47 x48 x54 x56 x58 x59 x60 x61 x63 x64 x65 x66 : Int32} {x2 x13 x14 x15 x16 x17 x21 x22 x23 x33 x34 x35 x42 x43 x44 x45 x46 x49 x50 x51 x52 x53 x62 x67 : Nat → Int32} {x32 : Int64} {x36 x38 x55 x57 : Nat → Int64} {Cl_count : Int32} {Cl_tellers : Nat → Int32} {Cl_kinds : Nat → Int32} {Cl_events : Nat → Int32} {Cl_firsts : Nat → Int32} {Cl_lasts : Nat → Int32} {p1 : Int32} {p2 : Int32} {p3 : Int32} {p4 : Int32} {p5 : Int32} {o : Int32 × (Nat → Int32) × (Nat → Int32) × (Nat → Int32) × (Nat → Int32) × (Nat → Int32)} {Q : Rs → va_W → Prop} (h : f_Cl_add Cl_count Cl_tellers Cl_kinds Cl_events Cl_firsts Cl_lasts p1 p2 p3 p4 p5 = some o) (hq : Q (.inl (none)) (wlX g ad x0 x1 x2 x3 x4 o.1 o.2.1 o.2.2.1 o.2.2.2.1 o.2.2.2.2.1 o.2.2.2.2.2 x11 x12 x13 x14 x15 x16 x17 x18 x19 x20 x21 x22 x23 x24 x25 x26 x27 x28 x29 x30 x31 x32 x33 x34 x35 x36 x37 x38 x39 x40 x41 x42 x43 x44 x45 x46 x47 x48 x49 x50 x51 x52 x53 x54 x55 x56 x57 x58 x59 x60 x61 x62 x63 x64 x65 x66 x67 ++ t)) : R g mX0_add 2 0 0 0 [(0, .ref (ad 4)), (1, .int p1), (2, .int p2), (3, .int p3), (4, .int p4), (5, .int p5)] [] (wlX g ad x0 x1 x2 x3 x4 Cl_count Cl_tellers Cl_kinds Cl_events Cl_firsts Cl_lasts x11 x12 x13 x14 x15 x16 x17 x18 x19 x20 x21 x22 x23 x24 x25 x26 x27 x28 x29 x30 x31 x32 x33 x34 x35 x36 x37 x38 x39 x40 x41 x42 x43 x44 x45 x46 x47 x48 x49 x50 x51 x52 x53 x54 x55 x56 x57 x58 x59 x60 x61 x62 x63 x64 x65 x66 x67 ++ t) Q := by
  unfold f_Cl_add at h
  refine r_aload_n 0 dX0_add_0 rfl ?_
  refine c_V (rest := []) 0 0 _ dX0_add_1 kv_X0_40 (ct_Cl_isFull_i1 rfl) rfl rfl lX_4 rfl (Nat.le_of_ble_eq_true rfl) (by decide) (by decide) ?_
  refine r_if_eq (tgt := 8) dX0_add_4 (by decide) (fun hc962 => ?_) (fun hc962 => ?_)
  · have h := ip (fun z9 => z9) hc962 h
    refine r_aload_n 0 dX0_add_8 rfl ?_
    refine r_getf (v := .ref (ad 5)) _ dX0_add_9 fl_X0_14 lX_4 rfl ?_
    refine r_aload_n 0 dX0_add_12 rfl ?_
    refine r_getf (v := .int Cl_count) _ dX0_add_13 fl_X0_32 lX_4 rfl ?_
    refine r_iload_n 1 dX0_add_16 rfl ?_
    refine c_Vv (rest := []) 0 0 _ dX0_add_17 kv_X0_44 (ct_Row_set lX_5 lX_6 (sX_6 _) (Nat.le_of_ble_eq_true rfl)) rfl rfl lX_5 rfl (Nat.le_of_ble_eq_true rfl) (by decide) (by decide) ?_
    refine r_aload_n 0 dX0_add_20 rfl ?_
    refine r_getf (v := .ref (ad 7)) _ dX0_add_21 fl_X0_20 lX_4 rfl ?_
    refine r_aload_n 0 dX0_add_24 rfl ?_
    refine r_getf (v := .int Cl_count) _ dX0_add_25 fl_X0_32 lX_4 rfl ?_
    refine r_iload_n 2 dX0_add_28 rfl ?_
    refine c_Vv (rest := []) 0 0 _ dX0_add_29 kv_X0_44 (ct_Row_set lX_7 lX_8 (sX_7 _) (Nat.le_of_ble_eq_true rfl)) rfl rfl lX_7 rfl (Nat.le_of_ble_eq_true rfl) (by decide) (by decide) ?_
    refine r_aload_n 0 dX0_add_32 rfl ?_
    refine r_getf (v := .ref (ad 9)) _ dX0_add_33 fl_X0_23 lX_4 rfl ?_
    refine r_aload_n 0 dX0_add_36 rfl ?_
    refine r_getf (v := .int Cl_count) _ dX0_add_37 fl_X0_32 lX_4 rfl ?_
    refine r_iload_n 3 dX0_add_40 rfl ?_
    refine c_Vv (rest := []) 0 0 _ dX0_add_41 kv_X0_44 (ct_Row_set lX_9 lX_10 (sX_8 _) (Nat.le_of_ble_eq_true rfl)) rfl rfl lX_9 rfl (Nat.le_of_ble_eq_true rfl) (by decide) (by decide) ?_
    refine r_aload_n 0 dX0_add_44 rfl ?_
    refine r_getf (v := .ref (ad 11)) _ dX0_add_45 fl_X0_26 lX_4 rfl ?_
    refine r_aload_n 0 dX0_add_48 rfl ?_
    refine r_getf (v := .int Cl_count) _ dX0_add_49 fl_X0_32 lX_4 rfl ?_
    refine r_iload 4 dX0_add_52 rfl ?_
    refine c_Vv (rest := []) 0 0 _ dX0_add_54 kv_X0_44 (ct_Row_set lX_11 lX_12 (sX_9 _) (Nat.le_of_ble_eq_true rfl)) rfl rfl lX_11 rfl (Nat.le_of_ble_eq_true rfl) (by decide) (by decide) ?_
    refine r_aload_n 0 dX0_add_57 rfl ?_
    refine r_getf (v := .ref (ad 13)) _ dX0_add_58 fl_X0_29 lX_4 rfl ?_
    refine r_aload_n 0 dX0_add_61 rfl ?_
    refine r_getf (v := .int Cl_count) _ dX0_add_62 fl_X0_32 lX_4 rfl ?_
    refine r_iload 5 dX0_add_65 rfl ?_
    refine c_Vv (rest := []) 0 0 _ dX0_add_67 kv_X0_44 (ct_Row_set lX_13 lX_14 (sX_10 _) (Nat.le_of_ble_eq_true rfl)) rfl rfl lX_13 rfl (Nat.le_of_ble_eq_true rfl) (by decide) (by decide) ?_
    refine r_aload_n 0 dX0_add_70 rfl ?_
    refine r_dup dX0_add_71 rfl ?_
    refine r_getf (v := .int Cl_count) _ dX0_add_72 fl_X0_32 lX_4 rfl ?_
    refine r_iconst (v := (1 : Int32)) dX0_add_75 (by decide) ?_
    refine r_iadd dX0_add_76 ?_
    refine r_putf _ dX0_add_77 fl_X0_32 lX_4 (Nat.le_of_ble_eq_true rfl) rfl rfl (sX_5 _) ?_
    refine r_vret dX0_add_80 rfl ?_
    have h := Option.some.inj (show some _ = some o from h)
    subst h
    exact hq
  · have h := iq (fun z9 => z9) hc962 h
    refine r_vret dX0_add_7 rfl ?_
    have h := Option.some.inj (show some _ = some o from h)
    subst h
    exact hq
theorem ct_Cl_add_i1 {g : GG} {ad : Nat → Nat} {t : va_W} {x0 x1 x3 x4 x11 x12 x18 x19 x20 x24 x25 x26 x27 x28 x29 x30 x31 x37 x39 x40 x41 x47 x48 x54 x56 x58 x59 x60 x61 x63 x64 x65 x66 : Int32} {x2 x13 x14 x15 x16 x17 x21 x22 x23 x33 x34 x35 x42 x43 x44 x45 x46 x49 x50 x51 x52 x53 x62 x67 : Nat → Int32} {x32 : Int64} {x36 x38 x55 x57 : Nat → Int64} {Cl_count : Int32} {Cl_tellers : Nat → Int32} {Cl_kinds : Nat → Int32} {Cl_events : Nat → Int32} {Cl_firsts : Nat → Int32} {Cl_lasts : Nat → Int32} {p1 : Int32} {p2 : Int32} {p3 : Int32} {p4 : Int32} {p5 : Int32} {o : Int32 × (Nat → Int32) × (Nat → Int32) × (Nat → Int32) × (Nat → Int32) × (Nat → Int32)} (h : f_Cl_add Cl_count Cl_tellers Cl_kinds Cl_events Cl_firsts Cl_lasts p1 p2 p3 p4 p5 = some o) : Ct g mX0_add 2 0 0 [.ref (ad 4), .int p1, .int p2, .int p3, .int p4, .int p5] (wlX g ad x0 x1 x2 x3 x4 Cl_count Cl_tellers Cl_kinds Cl_events Cl_firsts Cl_lasts x11 x12 x13 x14 x15 x16 x17 x18 x19 x20 x21 x22 x23 x24 x25 x26 x27 x28 x29 x30 x31 x32 x33 x34 x35 x36 x37 x38 x39 x40 x41 x42 x43 x44 x45 x46 x47 x48 x49 x50 x51 x52 x53 x54 x55 x56 x57 x58 x59 x60 x61 x62 x63 x64 x65 x66 x67 ++ t) (Dv (none) (wlX g ad x0 x1 x2 x3 x4 o.1 o.2.1 o.2.2.1 o.2.2.2.1 o.2.2.2.2.1 o.2.2.2.2.2 x11 x12 x13 x14 x15 x16 x17 x18 x19 x20 x21 x22 x23 x24 x25 x26 x27 x28 x29 x30 x31 x32 x33 x34 x35 x36 x37 x38 x39 x40 x41 x42 x43 x44 x45 x46 x47 x48 x49 x50 x51 x52 x53 x54 x55 x56 x57 x58 x59 x60 x61 x62 x63 x64 x65 x66 x67 ++ t)) := Ct.ofR (by decide +kernel) rfl (Nat.le_of_ble_eq_true rfl) (rt_Cl_add_i1 h ⟨rfl, rfl⟩)
set_option maxRecDepth 20000 in
set_option maxHeartbeats 4000000 in
theorem rt_Main_claimByHand {g : GG} {ad : Nat → Nat} {t : va_W} {x0 x1 x3 x4 x11 x12 x19 x20 x24 x25 x26 x27 x28 x29 x30 x31 x37 x39 x40 x41 x47 x48 x54 x56 x58 x59 x60 x61 x63 x64 x65 x66 : Int32} {x2 x13 x14 x15 x16 x17 x22 x23 x33 x34 x35 x42 x43 x44 x45 x46 x49 x50 x51 x52 x53 x62 x67 : Nat → Int32} {x32 : Int64} {x36 x38 x55 x57 : Nat → Int64} {N : Nat} {Cl_count : Int32} {Cl_tellers : Nat → Int32} {Cl_kinds : Nat → Int32} {Cl_events : Nat → Int32} {Cl_firsts : Nat → Int32} {Cl_lasts : Nat → Int32} {Ve_judged : Int32} {Ve_against : Nat → Int32} {p1 : Int32} {p2 : Int32} {p3 : Int32} {p4 : Int32} {p5 : Int32} {o : (Int32 × Int32 × (Nat → Int32) × (Nat → Int32) × (Nat → Int32) × (Nat → Int32) × (Nat → Int32) × Int32 × (Nat → Int32)) ⊕ String} {Q : Rs → va_W → Prop} (h : f_Main_claimByHand N Cl_count Cl_tellers Cl_kinds Cl_events Cl_firsts Cl_lasts Ve_judged Ve_against p1 p2 p3 p4 p5 = some o) (hq1 : ∀ q, o = .inl q → Q (.inl (some (.int q.1))) (wlX g ad x0 x1 x2 x3 x4 q.2.1 q.2.2.1 q.2.2.2.1 q.2.2.2.2.1 q.2.2.2.2.2.1 q.2.2.2.2.2.2.1 x11 x12 x13 x14 x15 x16 x17 q.2.2.2.2.2.2.2.1 x19 x20 q.2.2.2.2.2.2.2.2 x22 x23 x24 x25 x26 x27 x28 x29 x30 x31 x32 x33 x34 x35 x36 x37 x38 x39 x40 x41 x42 x43 x44 x45 x46 x47 x48 x49 x50 x51 x52 x53 x54 x55 x56 x57 x58 x59 x60 x61 x62 x63 x64 x65 x66 x67 ++ t)) (hq2 : ∀ E, o = .inr E → Q (.inr E) (wlX g ad x0 x1 x2 x3 x4 Cl_count Cl_tellers Cl_kinds Cl_events Cl_firsts Cl_lasts x11 x12 x13 x14 x15 x16 x17 Ve_judged x19 x20 Ve_against x22 x23 x24 x25 x26 x27 x28 x29 x30 x31 x32 x33 x34 x35 x36 x37 x38 x39 x40 x41 x42 x43 x44 x45 x46 x47 x48 x49 x50 x51 x52 x53 x54 x55 x56 x57 x58 x59 x60 x61 x62 x63 x64 x65 x66 x67 ++ t)) : R g mX9_claimByHand 6 1 6 0 [(0, .ref (ad 0)), (1, .int p1), (2, .int p2), (3, .int p3), (4, .int p4), (5, .int p5)] [] (wlX g ad x0 x1 x2 x3 x4 Cl_count Cl_tellers Cl_kinds Cl_events Cl_firsts Cl_lasts x11 x12 x13 x14 x15 x16 x17 Ve_judged x19 x20 Ve_against x22 x23 x24 x25 x26 x27 x28 x29 x30 x31 x32 x33 x34 x35 x36 x37 x38 x39 x40 x41 x42 x43 x44 x45 x46 x47 x48 x49 x50 x51 x52 x53 x54 x55 x56 x57 x58 x59 x60 x61 x62 x63 x64 x65 x66 x67 ++ t) Q := by
  unfold f_Main_claimByHand at h
  refine r_aload_n 0 dX9_claimByHand_0 rfl ?_
  refine r_getf (v := .ref (ad 3)) _ dX9_claimByHand_1 fl_X9_35 lX_0 rfl ?_
  refine r_getf (v := .ref (ad 4)) _ dX9_claimByHand_4 fl_X9_104 lX_3 rfl ?_
  refine c_V (rest := []) 1 6 _ dX9_claimByHand_7 kv_X9_236 (ct_Cl_isFull_i1 rfl) rfl rfl lX_4 rfl (Nat.le_of_ble_eq_true rfl) (by decide) (by decide) ?_
  refine r_if_eq (tgt := 23) dX9_claimByHand_10 (by decide) (fun hc963 => ?_) (fun hc963 => ?_)
  · have h := ip (fun z9 => z9) hc963 h
    refine r_aload_n 0 dX9_claimByHand_23 rfl ?_
    refine r_getf (v := .ref (ad 3)) _ dX9_claimByHand_24 fl_X9_35 lX_0 rfl ?_
    refine r_getf (v := .ref (ad 4)) _ dX9_claimByHand_27 fl_X9_104 lX_3 rfl ?_
    refine r_iload_n 1 dX9_claimByHand_30 rfl ?_
    refine r_iload_n 2 dX9_claimByHand_31 rfl ?_
    refine r_iload_n 3 dX9_claimByHand_32 rfl ?_
    refine r_iload 4 dX9_claimByHand_33 rfl ?_
    refine r_iload 5 dX9_claimByHand_35 rfl ?_
    obtain ⟨r964, hc965, h⟩ := ob (fun z9 => z9) rfl h
    refine c_Vv (rest := []) 1 6 _ dX9_claimByHand_37 kv_X9_242 (ct_Cl_add_i1 hc965) rfl rfl lX_4 rfl (Nat.le_of_ble_eq_true rfl) (by decide) (by decide) ?_
    refine r_aload_n 0 dX9_claimByHand_40 rfl ?_
    refine r_getf (v := .ref (ad 26)) _ dX9_claimByHand_41 fl_X9_39 lX_0 rfl ?_
    obtain ⟨r966, hc967, h⟩ := ob (fun z9 => z9) rfl h
    refine c_Vv (rest := []) 1 6 _ dX9_claimByHand_44 kv_X9_92 (ct_Ve_hearClaims hc967) rfl rfl lX_26 rfl (Nat.le_of_ble_eq_true rfl) (by decide) (by decide) ?_
    refine r_aload_n 0 dX9_claimByHand_47 rfl ?_
    refine r_getf (v := .ref (ad 3)) _ dX9_claimByHand_48 fl_X9_35 lX_0 rfl ?_
    refine r_getf (v := .ref (ad 4)) _ dX9_claimByHand_51 fl_X9_104 lX_3 rfl ?_
    refine r_getf (v := .int r964.1) _ dX9_claimByHand_54 fl_X9_108 lX_4 rfl ?_
    refine r_iconst (v := (1 : Int32)) dX9_claimByHand_57 (by decide) ?_
    refine r_isub dX9_claimByHand_58 ?_
    refine r_iret dX9_claimByHand_59 rfl ?_
    have h := Option.some.inj (show some _ = some o from h)
    subst h
    exact hq1 _ rfl
  · have h := iq (fun z9 => z9) hc963 h
    refine r_throw (x := 0) (y := 0) dX9_claimByHand_13 dX9_claimByHand_16 dX9_claimByHand_17 dX9_claimByHand_19 dX9_claimByHand_22 kx_X9_62_240_66 rfl (Nat.le_of_ble_eq_true rfl) (by decide) ?_
    have h := Option.some.inj (show some _ = some o from h)
    subst h
    exact hq2 _ rfl
theorem ct_Main_claimByHand {g : GG} {ad : Nat → Nat} {t : va_W} {x0 x1 x3 x4 x11 x12 x19 x20 x24 x25 x26 x27 x28 x29 x30 x31 x37 x39 x40 x41 x47 x48 x54 x56 x58 x59 x60 x61 x63 x64 x65 x66 : Int32} {x2 x13 x14 x15 x16 x17 x22 x23 x33 x34 x35 x42 x43 x44 x45 x46 x49 x50 x51 x52 x53 x62 x67 : Nat → Int32} {x32 : Int64} {x36 x38 x55 x57 : Nat → Int64} {N : Nat} {Cl_count : Int32} {Cl_tellers : Nat → Int32} {Cl_kinds : Nat → Int32} {Cl_events : Nat → Int32} {Cl_firsts : Nat → Int32} {Cl_lasts : Nat → Int32} {Ve_judged : Int32} {Ve_against : Nat → Int32} {p1 : Int32} {p2 : Int32} {p3 : Int32} {p4 : Int32} {p5 : Int32} {o : (Int32 × Int32 × (Nat → Int32) × (Nat → Int32) × (Nat → Int32) × (Nat → Int32) × (Nat → Int32) × Int32 × (Nat → Int32)) ⊕ String} (h : f_Main_claimByHand N Cl_count Cl_tellers Cl_kinds Cl_events Cl_firsts Cl_lasts Ve_judged Ve_against p1 p2 p3 p4 p5 = some o) : Ct g mX9_claimByHand 6 1 6 [.ref (ad 0), .int p1, .int p2, .int p3, .int p4, .int p5] (wlX g ad x0 x1 x2 x3 x4 Cl_count Cl_tellers Cl_kinds Cl_events Cl_firsts Cl_lasts x11 x12 x13 x14 x15 x16 x17 Ve_judged x19 x20 Ve_against x22 x23 x24 x25 x26 x27 x28 x29 x30 x31 x32 x33 x34 x35 x36 x37 x38 x39 x40 x41 x42 x43 x44 x45 x46 x47 x48 x49 x50 x51 x52 x53 x54 x55 x56 x57 x58 x59 x60 x61 x62 x63 x64 x65 x66 x67 ++ t) (Dt o (fun q => some (.int q.1)) (fun q => (wlX g ad x0 x1 x2 x3 x4 q.2.1 q.2.2.1 q.2.2.2.1 q.2.2.2.2.1 q.2.2.2.2.2.1 q.2.2.2.2.2.2.1 x11 x12 x13 x14 x15 x16 x17 q.2.2.2.2.2.2.2.1 x19 x20 q.2.2.2.2.2.2.2.2 x22 x23 x24 x25 x26 x27 x28 x29 x30 x31 x32 x33 x34 x35 x36 x37 x38 x39 x40 x41 x42 x43 x44 x45 x46 x47 x48 x49 x50 x51 x52 x53 x54 x55 x56 x57 x58 x59 x60 x61 x62 x63 x64 x65 x66 x67 ++ t)) (wlX g ad x0 x1 x2 x3 x4 Cl_count Cl_tellers Cl_kinds Cl_events Cl_firsts Cl_lasts x11 x12 x13 x14 x15 x16 x17 Ve_judged x19 x20 Ve_against x22 x23 x24 x25 x26 x27 x28 x29 x30 x31 x32 x33 x34 x35 x36 x37 x38 x39 x40 x41 x42 x43 x44 x45 x46 x47 x48 x49 x50 x51 x52 x53 x54 x55 x56 x57 x58 x59 x60 x61 x62 x63 x64 x65 x66 x67 ++ t)) := Ct.ofR (by decide +kernel) rfl (Nat.le_of_ble_eq_true rfl) (rt_Main_claimByHand h (fun q e => by subst e; exact ⟨rfl, rfl⟩) (fun E e => by subst e; exact ⟨rfl, rfl⟩))
