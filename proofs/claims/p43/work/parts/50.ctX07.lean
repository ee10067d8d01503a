set_option maxRecDepth 20000 in
set_option maxHeartbeats 4000000 in
theorem rt_Ve_setAgainst {g : GG} {ad : Nat → Nat} {t : va_W} {x0 x1 x3 x4 x5 x11 x12 x18 x19 x20 x24 x25 x26 x27 x28 x29 x30 x31 x37 x39 x40 x41 x47 x48 x54 x56 x58 x59 x60 x61 x63 x64 x65 x66 : Int32} {x2 x6 x7 x8 x9 x10 x13 x14 x15 x16 x17 x22 x23 x33 x34 x35 x42 x43 x44 x45 x46 x49 x50 x51 x52 x53 x62 x67 : Nat → Int32} {x32 : Int64} {x36 x38 x55 x57 : Nat → Int64} {Ve_against : Nat → Int32} {p1 : Int32} {p2 : Int32} {o : (Nat → Int32)} {Q : Rs → va_W → Prop} (h : f_Ve_setAgainst Ve_against p1 p2 = some o) (hq : Q (.inl (none)) (wlX g ad x0 x1 x2 x3 x4 x5 x6 x7 x8 x9 x10 x11 x12 x13 x14 x15 x16 x17 x18 x19 x20 o x22 x23 x24 x25 x26 x27 x28 x29 x30 x31 x32 x33 x34 x35 x36 x37 x38 x39 x40 x41 x42 x43 x44 x45 x46 x47 x48 x49 x50 x51 x52 x53 x54 x55 x56 x57 x58 x59 x60 x61 x62 x63 x64 x65 x66 x67 ++ t)) : R g mX8_setAgainst 2 0 0 0 [(0, .ref (ad 26)), (1, .int p1), (2, .int p2)] [] (wlX g ad x0 x1 x2 x3 x4 x5 x6 x7 x8 x9 x10 x11 x12 x13 x14 x15 x16 x17 x18 x19 x20 Ve_against x22 x23 x24 x25 x26 x27 x28 x29 x30 x31 x32 x33 x34 x35 x36 x37 x38 x39 x40 x41 x42 x43 x44 x45 x46 x47 x48 x49 x50 x51 x52 x53 x54 x55 x56 x57 x58 x59 x60 x61 x62 x63 x64 x65 x66 x67 ++ t) Q := by
  unfold f_Ve_setAgainst at h
  refine r_aload_n 0 dX8_setAgainst_0 rfl ?_
  refine r_getf (v := .ref (ad 27)) _ dX8_setAgainst_1 fl_X8_20 lX_26 rfl ?_
  refine r_iload_n 1 dX8_setAgainst_4 rfl ?_
  refine r_aload_n 0 dX8_setAgainst_5 rfl ?_
  refine r_getf (v := .ref (ad 27)) _ dX8_setAgainst_6 fl_X8_20 lX_26 rfl ?_
  refine r_iload_n 1 dX8_setAgainst_9 rfl ?_
  refine c_V (rest := [.int p1, .ref (ad 27)]) 0 0 _ dX8_setAgainst_10 kv_X8_56 (ct_Row_get lX_27 lX_28 (Nat.le_of_ble_eq_true rfl)) rfl rfl lX_27 rfl (Nat.le_of_ble_eq_true rfl) (by decide) (by decide) ?_
  refine r_iconst (v := (1 : Int32)) dX8_setAgainst_13 (by decide) ?_
  refine r_iload_n 2 dX8_setAgainst_14 rfl ?_
  refine r_ishl dX8_setAgainst_15 ?_
  refine r_ior dX8_setAgainst_16 ?_
  refine c_Vv (rest := []) 0 0 _ dX8_setAgainst_17 kv_X8_34 (ct_Row_set lX_27 lX_28 (sX_21 _) (Nat.le_of_ble_eq_true rfl)) rfl rfl lX_27 rfl (Nat.le_of_ble_eq_true rfl) (by decide) (by decide) ?_
  refine r_aload_n 0 dX8_setAgainst_20 rfl ?_
  refine r_getf (v := .ref (ad 27)) _ dX8_setAgainst_21 fl_X8_20 lX_26 rfl ?_
  refine r_iload_n 2 dX8_setAgainst_24 rfl ?_
  refine r_aload_n 0 dX8_setAgainst_25 rfl ?_
  refine r_getf (v := .ref (ad 27)) _ dX8_setAgainst_26 fl_X8_20 lX_26 rfl ?_
  refine r_iload_n 2 dX8_setAgainst_29 rfl ?_
  refine c_V (rest := [.int p2, .ref (ad 27)]) 0 0 _ dX8_setAgainst_30 kv_X8_56 (ct_Row_get lX_27 lX_28 (Nat.le_of_ble_eq_true rfl)) rfl rfl lX_27 rfl (Nat.le_of_ble_eq_true rfl) (by decide) (by decide) ?_
  refine r_iconst (v := (1 : Int32)) dX8_setAgainst_33 (by decide) ?_
  refine r_iload_n 1 dX8_setAgainst_34 rfl ?_
  refine r_ishl dX8_setAgainst_35 ?_
  refine r_ior dX8_setAgainst_36 ?_
  refine c_Vv (rest := []) 0 0 _ dX8_setAgainst_37 kv_X8_34 (ct_Row_set lX_27 lX_28 (sX_21 _) (Nat.le_of_ble_eq_true rfl)) rfl rfl lX_27 rfl (Nat.le_of_ble_eq_true rfl) (by decide) (by decide) ?_
  refine r_vret dX8_setAgainst_40 rfl ?_
  have h := Option.some.inj (show some _ = some o from h)
  subst h
  exact hq
theorem ct_Ve_setAgainst {g : GG} {ad : Nat → Nat} {t : va_W} {x0 x1 x3 x4 x5 x11 x12 x18 x19 x20 x24 x25 x26 x27 x28 x29 x30 x31 x37 x39 x40 x41 x47 x48 x54 x56 x58 x59 x60 x61 x63 x64 x65 x66 : Int32} {x2 x6 x7 x8 x9 x10 x13 x14 x15 x16 x17 x22 x23 x33 x34 x35 x42 x43 x44 x45 x46 x49 x50 x51 x52 x53 x62 x67 : Nat → Int32} {x32 : Int64} {x36 x38 x55 x57 : Nat → Int64} {Ve_against : Nat → Int32} {p1 : Int32} {p2 : Int32} {o : (Nat → Int32)} (h : f_Ve_setAgainst Ve_against p1 p2 = some o) : Ct g mX8_setAgainst 2 0 0 [.ref (ad 26), .int p1, .int p2] (wlX g ad x0 x1 x2 x3 x4 x5 x6 x7 x8 x9 x10 x11 x12 x13 x14 x15 x16 x17 x18 x19 x20 Ve_against x22 x23 x24 x25 x26 x27 x28 x29 x30 x31 x32 x33 x34 x35 x36 x37 x38 x39 x40 x41 x42 x43 x44 x45 x46 x47 x48 x49 x50 x51 x52 x53 x54 x55 x56 x57 x58 x59 x60 x61 x62 x63 x64 x65 x66 x67 ++ t) (Dv (none) (wlX g ad x0 x1 x2 x3 x4 x5 x6 x7 x8 x9 x10 x11 x12 x13 x14 x15 x16 x17 x18 x19 x20 o x22 x23 x24 x25 x26 x27 x28 x29 x30 x31 x32 x33 x34 x35 x36 x37 x38 x39 x40 x41 x42 x43 x44 x45 x46 x47 x48 x49 x50 x51 x52 x53 x54 x55 x56 x57 x58 x59 x60 x61 x62 x63 x64 x65 x66 x67 ++ t)) := Ct.ofR (by decide +kernel) rfl (Nat.le_of_ble_eq_true rfl) (rt_Ve_setAgainst h ⟨rfl, rfl⟩)
set_option maxRecDepth 20000 in
set_option maxHeartbeats 4000000 in
theorem rt_Ve_hearClaims {g : GG} {ad : Nat → Nat} {t : va_W} {x0 x1 x3 x4 x11 x12 x19 x20 x24 x25 x26 x27 x28 x29 x30 x31 x37 x39 x40 x41 x47 x48 x54 x56 x58 x59 x60 x61 x63 x64 x65 x66 : Int32} {x2 x13 x14 x15 x16 x17 x22 x23 x33 x34 x35 x42 x43 x44 x45 x46 x49 x50 x51 x52 x53 x62 x67 : Nat → Int32} {x32 : Int64} {x36 x38 x55 x57 : Nat → Int64} {N : Nat} {Cl_count : Int32} {Cl_tellers : Nat → Int32} {Cl_kinds : Nat → Int32} {Cl_events : Nat → Int32} {Cl_firsts : Nat → Int32} {Cl_lasts : Nat → Int32} {Ve_judged : Int32} {Ve_against : Nat → Int32} {o : Int32 × (Nat → Int32)} {Q : Rs → va_W → Prop} (h : f_Ve_hearClaims N Cl_count Cl_tellers Cl_kinds Cl_events Cl_firsts Cl_lasts Ve_judged Ve_against = some o) (hq : Q (.inl (none)) (wlX g ad x0 x1 x2 x3 x4 Cl_count Cl_tellers Cl_kinds Cl_events Cl_firsts Cl_lasts x11 x12 x13 x14 x15 x16 x17 o.1 x19 x20 o.2 x22 x23 x24 x25 x26 x27 x28 x29 x30 x31 x32 x33 x34 x35 x36 x37 x38 x39 x40 x41 x42 x43 x44 x45 x46 x47 x48 x49 x50 x51 x52 x53 x54 x55 x56 x57 x58 x59 x60 x61 x62 x63 x64 x65 x66 x67 ++ t)) : R g mX8_hearClaims 3 0 0 0 [(0, .ref (ad 26))] [] (wlX g ad x0 x1 x2 x3 x4 Cl_count Cl_tellers Cl_kinds Cl_events Cl_firsts Cl_lasts x11 x12 x13 x14 x15 x16 x17 Ve_judged x19 x20 Ve_against x22 x23 x24 x25 x26 x27 x28 x29 x30 x31 x32 x33 x34 x35 x36 x37 x38 x39 x40 x41 x42 x43 x44 x45 x46 x47 x48 x49 x50 x51 x52 x53 x54 x55 x56 x57 x58 x59 x60 x61 x62 x63 x64 x65 x66 x67 ++ t) Q := by
  unfold f_Ve_hearClaims at h
  refine r_aload_n 0 dX8_hearClaims_0 rfl ?_
  refine r_iconst (v := (-1 : Int32)) dX8_hearClaims_1 (by decide) ?_
  refine r_putf _ dX8_hearClaims_2 fl_X8_30 lX_26 (Nat.le_of_ble_eq_true rfl) rfl rfl (sX_18 _) ?_
  refine r_iconst (v := (0 : Int32)) dX8_hearClaims_5 (by decide) ?_
  refine r_istore_n [(1, .int (0 : Int32)), (0, .ref (ad 26))] dX8_hearClaims_6 (by decide) rfl ?_
  refine r_ls [1, 0] (ls2 := [(0, .ref (ad 26)), (1, .int (0 : Int32))]) rfl ?_
  have L1 : ∀ (n1 : Nat) (l1_1 : Int32) (Ve_against_1 : Nat → Int32), (fun z9 => z9) (lpS (f_Ve_hearClaims_L7 N Cl_count Cl_tellers Cl_kinds Cl_events Cl_firsts Cl_lasts) none n1 (l1_1, Ve_against_1)) = some o → R g mX8_hearClaims 3 0 0 7 [(0, .ref (ad 26)), (1, .int l1_1)] [] (wlX g ad x0 x1 x2 x3 x4 Cl_count Cl_tellers Cl_kinds Cl_events Cl_firsts Cl_lasts x11 x12 x13 x14 x15 x16 x17 (-1 : Int32) x19 x20 Ve_against_1 x22 x23 x24 x25 x26 x27 x28 x29 x30 x31 x32 x33 x34 x35 x36 x37 x38 x39 x40 x41 x42 x43 x44 x45 x46 x47 x48 x49 x50 x51 x52 x53 x54 x55 x56 x57 x58 x59 x60 x61 x62 x63 x64 x65 x66 x67 ++ t) Q := by
    intro n1
    induction n1 with
    | zero => intro l1_1 Ve_against_1 h; exact nomatch (show (none : Option _) = some _ from h)
    | succ n1 ih1 =>
      intro l1_1 Ve_against_1 h
      have h : (fun z9 => (lC (f_Ve_hearClaims_L7 N Cl_count Cl_tellers Cl_kinds Cl_events Cl_firsts Cl_lasts) none n1 z9)) (f_Ve_hearClaims_L7 N Cl_count Cl_tellers Cl_kinds Cl_events Cl_firsts Cl_lasts (l1_1, Ve_against_1)) = some o := h
      unfold f_Ve_hearClaims_L7 at h
      try dsimp only at h
      refine r_iload_n 1 dX8_hearClaims_7 rfl ?_
      refine r_bipush (v := (10 : Int32)) dX8_hearClaims_8 (by decide) ?_
      refine r_icmp_ge (tgt := 28) dX8_hearClaims_10 (by decide) (fun hc753 => ?_) (fun hc753 => ?_)
      · have h := ip (fun z9 => (lC (f_Ve_hearClaims_L7 N Cl_count Cl_tellers Cl_kinds Cl_events Cl_firsts Cl_lasts) none n1 z9)) hc753 h
        refine r_iconst (v := (0 : Int32)) dX8_hearClaims_28 (by decide) ?_
        refine r_istore_n [(1, .int (0 : Int32)), (0, .ref (ad 26))] dX8_hearClaims_29 (by decide) rfl ?_
        refine r_ls [1, 0] (ls2 := [(0, .ref (ad 26)), (1, .int (0 : Int32))]) rfl ?_
        have L2 : ∀ (n2 : Nat) (l1_2 : Int32) (Ve_against_2 : Nat → Int32), (fun z9 => (lC (f_Ve_hearClaims_L7 N Cl_count Cl_tellers Cl_kinds Cl_events Cl_firsts Cl_lasts) none n1 z9)) (lpS (f_Ve_hearClaims_L30 N Cl_count Cl_tellers Cl_kinds Cl_events Cl_firsts Cl_lasts) (.inr none) n2 (l1_2, Ve_against_2)) = some o → R g mX8_hearClaims 3 0 0 30 [(0, .ref (ad 26)), (1, .int l1_2)] [] (wlX g ad x0 x1 x2 x3 x4 Cl_count Cl_tellers Cl_kinds Cl_events Cl_firsts Cl_lasts x11 x12 x13 x14 x15 x16 x17 (-1 : Int32) x19 x20 Ve_against_2 x22 x23 x24 x25 x26 x27 x28 x29 x30 x31 x32 x33 x34 x35 x36 x37 x38 x39 x40 x41 x42 x43 x44 x45 x46 x47 x48 x49 x50 x51 x52 x53 x54 x55 x56 x57 x58 x59 x60 x61 x62 x63 x64 x65 x66 x67 ++ t) Q := by
          intro n2
          induction n2 with
          | zero => intro l1_2 Ve_against_2 h; exact nomatch (show (none : Option _) = some _ from h)
          | succ n2 ih2 =>
            intro l1_2 Ve_against_2 h
            have h : (fun z9 => (lC (f_Ve_hearClaims_L7 N Cl_count Cl_tellers Cl_kinds Cl_events Cl_firsts Cl_lasts) none n1 (lC (f_Ve_hearClaims_L30 N Cl_count Cl_tellers Cl_kinds Cl_events Cl_firsts Cl_lasts) (.inr none) n2 z9))) (f_Ve_hearClaims_L30 N Cl_count Cl_tellers Cl_kinds Cl_events Cl_firsts Cl_lasts (l1_2, Ve_against_2)) = some o := h
            unfold f_Ve_hearClaims_L30 at h
            try dsimp only at h
            refine r_iload_n 1 dX8_hearClaims_30 rfl ?_
            refine r_aload_n 0 dX8_hearClaims_31 rfl ?_
            refine r_getf (v := .ref (ad 3)) _ dX8_hearClaims_32 fl_X8_9 lX_26 rfl ?_
            refine r_getf (v := .ref (ad 4)) _ dX8_hearClaims_35 fl_X8_38 lX_3 rfl ?_
            refine r_getf (v := .int Cl_count) _ dX8_hearClaims_38 fl_X8_44 lX_4 rfl ?_
            refine r_icmp_ge (tgt := 121) dX8_hearClaims_41 (by decide) (fun hc754 => ?_) (fun hc754 => ?_)
            · have h := ip (fun z9 => (lC (f_Ve_hearClaims_L7 N Cl_count Cl_tellers Cl_kinds Cl_events Cl_firsts Cl_lasts) none n1 (lC (f_Ve_hearClaims_L30 N Cl_count Cl_tellers Cl_kinds Cl_events Cl_firsts Cl_lasts) (.inr none) n2 z9))) hc754 h
              refine r_vret dX8_hearClaims_121 rfl ?_
              have h := Option.some.inj (show some _ = some o from h)
              subst h
              exact hq
            · have h := iq (fun z9 => (lC (f_Ve_hearClaims_L7 N Cl_count Cl_tellers Cl_kinds Cl_events Cl_firsts Cl_lasts) none n1 (lC (f_Ve_hearClaims_L30 N Cl_count Cl_tellers Cl_kinds Cl_events Cl_firsts Cl_lasts) (.inr none) n2 z9))) hc754 h
              refine r_iload_n 1 dX8_hearClaims_44 rfl ?_
              refine r_iconst (v := (1 : Int32)) dX8_hearClaims_45 (by decide) ?_
              refine r_iadd dX8_hearClaims_46 ?_
              refine r_istore_n [(2, .int (l1_2 + (1 : Int32))), (0, .ref (ad 26)), (1, .int l1_2)] dX8_hearClaims_47 (by decide) rfl ?_
              refine r_ls [1, 2, 0] (ls2 := [(0, .ref (ad 26)), (1, .int l1_2), (2, .int (l1_2 + (1 : Int32)))]) rfl ?_
              have L3 : ∀ (n3 : Nat) (l2_3 : Int32) (Ve_against_3 : Nat → Int32), (fun z9 => (lC (f_Ve_hearClaims_L7 N Cl_count Cl_tellers Cl_kinds Cl_events Cl_firsts Cl_lasts) none n1 (lC (f_Ve_hearClaims_L30 N Cl_count Cl_tellers Cl_kinds Cl_events Cl_firsts Cl_lasts) (.inr none) n2 z9))) (lpS (f_Ve_hearClaims_L48 Cl_count Cl_tellers Cl_kinds Cl_events Cl_firsts Cl_lasts l1_2) (.inr (.inr none)) n3 (l2_3, Ve_against_3)) = some o → R g mX8_hearClaims 3 0 0 48 [(0, .ref (ad 26)), (1, .int l1_2), (2, .int l2_3)] [] (wlX g ad x0 x1 x2 x3 x4 Cl_count Cl_tellers Cl_kinds Cl_events Cl_firsts Cl_lasts x11 x12 x13 x14 x15 x16 x17 (-1 : Int32) x19 x20 Ve_against_3 x22 x23 x24 x25 x26 x27 x28 x29 x30 x31 x32 x33 x34 x35 x36 x37 x38 x39 x40 x41 x42 x43 x44 x45 x46 x47 x48 x49 x50 x51 x52 x53 x54 x55 x56 x57 x58 x59 x60 x61 x62 x63 x64 x65 x66 x67 ++ t) Q := by
                intro n3
                induction n3 with
                | zero => intro l2_3 Ve_against_3 h; exact nomatch (show (none : Option _) = some _ from h)
                | succ n3 ih3 =>
                  intro l2_3 Ve_against_3 h
                  have h : (fun z9 => (lC (f_Ve_hearClaims_L7 N Cl_count Cl_tellers Cl_kinds Cl_events Cl_firsts Cl_lasts) none n1 (lC (f_Ve_hearClaims_L30 N Cl_count Cl_tellers Cl_kinds Cl_events Cl_firsts Cl_lasts) (.inr none) n2 (lC (f_Ve_hearClaims_L48 Cl_count Cl_tellers Cl_kinds Cl_events Cl_firsts Cl_lasts l1_2) (.inr (.inr none)) n3 z9)))) (f_Ve_hearClaims_L48 Cl_count Cl_tellers Cl_kinds Cl_events Cl_firsts Cl_lasts l1_2 (l2_3, Ve_against_3)) = some o := h
                  unfold f_Ve_hearClaims_L48 at h
                  try dsimp only at h
                  refine r_iload_n 2 dX8_hearClaims_48 rfl ?_
                  refine r_aload_n 0 dX8_hearClaims_49 rfl ?_
                  refine r_getf (v := .ref (ad 3)) _ dX8_hearClaims_50 fl_X8_9 lX_26 rfl ?_
                  refine r_getf (v := .ref (ad 4)) _ dX8_hearClaims_53 fl_X8_38 lX_3 rfl ?_
                  refine r_getf (v := .int Cl_count) _ dX8_hearClaims_56 fl_X8_44 lX_4 rfl ?_
                  refine r_icmp_ge (tgt := 115) dX8_hearClaims_59 (by decide) (fun hc755 => ?_) (fun hc755 => ?_)
                  · have h := ip (fun z9 => (lC (f_Ve_hearClaims_L7 N Cl_count Cl_tellers Cl_kinds Cl_events Cl_firsts Cl_lasts) none n1 (lC (f_Ve_hearClaims_L30 N Cl_count Cl_tellers Cl_kinds Cl_events Cl_firsts Cl_lasts) (.inr none) n2 (lC (f_Ve_hearClaims_L48 Cl_count Cl_tellers Cl_kinds Cl_events Cl_firsts Cl_lasts l1_2) (.inr (.inr none)) n3 z9)))) hc755 h
                    refine r_iinc (v2 := (l1_2 + (1 : Int32))) 1 [(1, .int (l1_2 + (1 : Int32))), (0, .ref (ad 26)), (2, .int l2_3)] dX8_hearClaims_115 rfl rfl (by decide) rfl ?_
                    refine r_goto (tgt := 30) dX8_hearClaims_118 (by decide) ?_
                    refine r_ls [1, 0] (ls2 := [(0, .ref (ad 26)), (1, .int (l1_2 + (1 : Int32)))]) rfl ?_
                    exact ih2 (l1_2 + (1 : Int32)) Ve_against_3 h
                  · have h := iq (fun z9 => (lC (f_Ve_hearClaims_L7 N Cl_count Cl_tellers Cl_kinds Cl_events Cl_firsts Cl_lasts) none n1 (lC (f_Ve_hearClaims_L30 N Cl_count Cl_tellers Cl_kinds Cl_events Cl_firsts Cl_lasts) (.inr none) n2 (lC (f_Ve_hearClaims_L48 Cl_count Cl_tellers Cl_kinds Cl_events Cl_firsts Cl_lasts l1_2) (.inr (.inr none)) n3 z9)))) hc755 h
                    refine r_aload_n 0 dX8_hearClaims_62 rfl ?_
                    refine r_getf (v := .ref (ad 3)) _ dX8_hearClaims_63 fl_X8_9 lX_26 rfl ?_
                    refine r_getf (v := .ref (ad 4)) _ dX8_hearClaims_66 fl_X8_38 lX_3 rfl ?_
                    refine r_iload_n 1 dX8_hearClaims_69 rfl ?_
                    refine r_iload_n 2 dX8_hearClaims_70 rfl ?_
                    refine c_V (rest := []) 0 0 _ dX8_hearClaims_71 kv_X8_49 (ct_Cl_contradict rfl) rfl rfl lX_4 rfl (Nat.le_of_ble_eq_true rfl) (by decide) (by decide) ?_
                    refine r_if_eq (tgt := 109) dX8_hearClaims_74 (by decide) (fun hc756 => ?_) (fun hc756 => ?_)
                    · have h := ip (fun z9 => (lC (f_Ve_hearClaims_L7 N Cl_count Cl_tellers Cl_kinds Cl_events Cl_firsts Cl_lasts) none n1 (lC (f_Ve_hearClaims_L30 N Cl_count Cl_tellers Cl_kinds Cl_events Cl_firsts Cl_lasts) (.inr none) n2 (lC (f_Ve_hearClaims_L48 Cl_count Cl_tellers Cl_kinds Cl_events Cl_firsts Cl_lasts l1_2) (.inr (.inr none)) n3 z9)))) hc756 h
                      refine r_iinc (v2 := (l2_3 + (1 : Int32))) 2 [(2, .int (l2_3 + (1 : Int32))), (0, .ref (ad 26)), (1, .int l1_2)] dX8_hearClaims_109 rfl rfl (by decide) rfl ?_
                      refine r_goto (tgt := 48) dX8_hearClaims_112 (by decide) ?_
                      refine r_ls [1, 2, 0] (ls2 := [(0, .ref (ad 26)), (1, .int l1_2), (2, .int (l2_3 + (1 : Int32)))]) rfl ?_
                      exact ih3 (l2_3 + (1 : Int32)) Ve_against_3 h
                    · have h := iq (fun z9 => (lC (f_Ve_hearClaims_L7 N Cl_count Cl_tellers Cl_kinds Cl_events Cl_firsts Cl_lasts) none n1 (lC (f_Ve_hearClaims_L30 N Cl_count Cl_tellers Cl_kinds Cl_events Cl_firsts Cl_lasts) (.inr none) n2 (lC (f_Ve_hearClaims_L48 Cl_count Cl_tellers Cl_kinds Cl_events Cl_firsts Cl_lasts l1_2) (.inr (.inr none)) n3 z9)))) hc756 h
                      refine r_aload_n 0 dX8_hearClaims_77 rfl ?_
                      refine r_aload_n 0 dX8_hearClaims_78 rfl ?_
                      refine r_getf (v := .ref (ad 3)) _ dX8_hearClaims_79 fl_X8_9 lX_26 rfl ?_
                      refine r_getf (v := .ref (ad 4)) _ dX8_hearClaims_82 fl_X8_38 lX_3 rfl ?_
                      refine r_getf (v := .ref (ad 5)) _ dX8_hearClaims_85 fl_X8_53 lX_4 rfl ?_
                      refine r_iload_n 1 dX8_hearClaims_88 rfl ?_
                      refine c_V (rest := [.ref (ad 26)]) 0 0 _ dX8_hearClaims_89 kv_X8_56 (ct_Row_get lX_5 lX_6 (Nat.le_of_ble_eq_true rfl)) rfl rfl lX_5 rfl (Nat.le_of_ble_eq_true rfl) (by decide) (by decide) ?_
                      refine r_aload_n 0 dX8_hearClaims_92 rfl ?_
                      refine r_getf (v := .ref (ad 3)) _ dX8_hearClaims_93 fl_X8_9 lX_26 rfl ?_
                      refine r_getf (v := .ref (ad 4)) _ dX8_hearClaims_96 fl_X8_38 lX_3 rfl ?_
                      refine r_getf (v := .ref (ad 5)) _ dX8_hearClaims_99 fl_X8_53 lX_4 rfl ?_
                      refine r_iload_n 2 dX8_hearClaims_102 rfl ?_
                      refine c_V (rest := [.int (rget 40 Cl_tellers l1_2), .ref (ad 26)]) 0 0 _ dX8_hearClaims_103 kv_X8_56 (ct_Row_get lX_5 lX_6 (Nat.le_of_ble_eq_true rfl)) rfl rfl lX_5 rfl (Nat.le_of_ble_eq_true rfl) (by decide) (by decide) ?_
                      obtain ⟨r757, hc758, h⟩ := ob (fun z9 => (lC (f_Ve_hearClaims_L7 N Cl_count Cl_tellers Cl_kinds Cl_events Cl_firsts Cl_lasts) none n1 (lC (f_Ve_hearClaims_L30 N Cl_count Cl_tellers Cl_kinds Cl_events Cl_firsts Cl_lasts) (.inr none) n2 (lC (f_Ve_hearClaims_L48 Cl_count Cl_tellers Cl_kinds Cl_events Cl_firsts Cl_lasts l1_2) (.inr (.inr none)) n3 z9)))) rfl h
                      refine c_Vv (rest := []) 0 0 _ dX8_hearClaims_106 kv_X8_60 (ct_Ve_setAgainst hc758) rfl rfl lX_26 rfl (Nat.le_of_ble_eq_true rfl) (by decide) (by decide) ?_
                      refine r_iinc (v2 := (l2_3 + (1 : Int32))) 2 [(2, .int (l2_3 + (1 : Int32))), (0, .ref (ad 26)), (1, .int l1_2)] dX8_hearClaims_109 rfl rfl (by decide) rfl ?_
                      refine r_goto (tgt := 48) dX8_hearClaims_112 (by decide) ?_
                      refine r_ls [1, 2, 0] (ls2 := [(0, .ref (ad 26)), (1, .int l1_2), (2, .int (l2_3 + (1 : Int32)))]) rfl ?_
                      exact ih3 (l2_3 + (1 : Int32)) r757 h
              exact L3 _ (l1_2 + (1 : Int32)) Ve_against_2 h
        exact L2 _ (0 : Int32) Ve_against_1 h
      · have h := iq (fun z9 => (lC (f_Ve_hearClaims_L7 N Cl_count Cl_tellers Cl_kinds Cl_events Cl_firsts Cl_lasts) none n1 z9)) hc753 h
        refine r_aload_n 0 dX8_hearClaims_13 rfl ?_
        refine r_getf (v := .ref (ad 27)) _ dX8_hearClaims_14 fl_X8_20 lX_26 rfl ?_
        refine r_iload_n 1 dX8_hearClaims_17 rfl ?_
        refine r_iconst (v := (0 : Int32)) dX8_hearClaims_18 (by decide) ?_
        refine c_Vv (rest := []) 0 0 _ dX8_hearClaims_19 kv_X8_34 (ct_Row_set lX_27 lX_28 (sX_21 _) (Nat.le_of_ble_eq_true rfl)) rfl rfl lX_27 rfl (Nat.le_of_ble_eq_true rfl) (by decide) (by decide) ?_
        refine r_iinc (v2 := (l1_1 + (1 : Int32))) 1 [(1, .int (l1_1 + (1 : Int32))), (0, .ref (ad 26))] dX8_hearClaims_22 rfl rfl (by decide) rfl ?_
        refine r_goto (tgt := 7) dX8_hearClaims_25 (by decide) ?_
        refine r_ls [1, 0] (ls2 := [(0, .ref (ad 26)), (1, .int (l1_1 + (1 : Int32)))]) rfl ?_
        exact ih1 (l1_1 + (1 : Int32)) (rset 10 Ve_against_1 l1_1 (0 : Int32)) h
  exact L1 _ (0 : Int32) Ve_against h
theorem ct_Ve_hearClaims {g : GG} {ad : Nat → Nat} {t : va_W} {x0 x1 x3 x4 x11 x12 x19 x20 x24 x25 x26 x27 x28 x29 x30 x31 x37 x39 x40 x41 x47 x48 x54 x56 x58 x59 x60 x61 x63 x64 x65 x66 : Int32} {x2 x13 x14 x15 x16 x17 x22 x23 x33 x34 x35 x42 x43 x44 x45 x46 x49 x50 x51 x52 x53 x62 x67 : Nat → Int32} {x32 : Int64} {x36 x38 x55 x57 : Nat → Int64} {N : Nat} {Cl_count : Int32} {Cl_tellers : Nat → Int32} {Cl_kinds : Nat → Int32} {Cl_events : Nat → Int32} {Cl_firsts : Nat → Int32} {Cl_lasts : Nat → Int32} {Ve_judged : Int32} {Ve_against : Nat → Int32} {o : Int32 × (Nat → Int32)} (h : f_Ve_hearClaims N Cl_count Cl_tellers Cl_kinds Cl_events Cl_firsts Cl_lasts Ve_judged Ve_against = some o) : Ct g mX8_hearClaims 3 0 0 [.ref (ad 26)] (wlX g ad x0 x1 x2 x3 x4 Cl_count Cl_tellers Cl_kinds Cl_events Cl_firsts Cl_lasts x11 x12 x13 x14 x15 x16 x17 Ve_judged x19 x20 Ve_against x22 x23 x24 x25 x26 x27 x28 x29 x30 x31 x32 x33 x34 x35 x36 x37 x38 x39 x40 x41 x42 x43 x44 x45 x46 x47 x48 x49 x50 x51 x52 x53 x54 x55 x56 x57 x58 x59 x60 x61 x62 x63 x64 x65 x66 x67 ++ t) (Dv (none) (wlX g ad x0 x1 x2 x3 x4 Cl_count Cl_tellers Cl_kinds Cl_events Cl_firsts Cl_lasts x11 x12 x13 x14 x15 x16 x17 o.1 x19 x20 o.2 x22 x23 x24 x25 x26 x27 x28 x29 x30 x31 x32 x33 x34 x35 x36 x37 x38 x39 x40 x41 x42 x43 x44 x45 x46 x47 x48 x49 x50 x51 x52 x53 x54 x55 x56 x57 x58 x59 x60 x61 x62 x63 x64 x65 x66 x67 ++ t)) := Ct.ofR (by decide +kernel) rfl (Nat.le_of_ble_eq_true rfl) (rt_Ve_hearClaims h ⟨rfl, rfl⟩)
set_option maxRecDepth 20000 in
set_option maxHeartbeats 4000000 in
theorem rt_Co_restart {g : GG} {ad : Nat → Nat} {t : va_W} {x0 x1 x3 x4 x5 x11 x12 x18 x19 x20 x24 x25 x26 x27 x28 x29 x30 x31 x37 x39 x40 x41 x47 x48 x54 x56 x58 x63 x64 x65 x66 : Int32} {x2 x6 x7 x8 x9 x10 x13 x14 x15 x16 x17 x21 x22 x23 x33 x34 x35 x42 x43 x44 x45 x46 x49 x50 x51 x52 x53 x62 x67 : Nat → Int32} {x32 : Int64} {x36 x38 x55 x57 : Nat → Int64} {Co_doubted : Int32} {Co_evening : Int32} {Co_carriedOut : Int32} {o : Int32 × Int32 × Int32} {Q : Rs → va_W → Prop} (h : f_Co_restart Co_doubted Co_evening Co_carriedOut = some o) (hq : Q (.inl (none)) (wlX g ad x0 x1 x2 x3 x4 x5 x6 x7 x8 x9 x10 x11 x12 x13 x14 x15 x16 x17 x18 x19 x20 x21 x22 x23 x24 x25 x26 x27 x28 x29 x30 x31 x32 x33 x34 x35 x36 x37 x38 x39 x40 x41 x42 x43 x44 x45 x46 x47 x48 x49 x50 x51 x52 x53 x54 x55 x56 x57 x58 o.1 o.2.1 o.2.2 x62 x63 x64 x65 x66 x67 ++ t)) : R g mX1_restart 1 0 0 0 [(0, .ref (ad 71))] [] (wlX g ad x0 x1 x2 x3 x4 x5 x6 x7 x8 x9 x10 x11 x12 x13 x14 x15 x16 x17 x18 x19 x20 x21 x22 x23 x24 x25 x26 x27 x28 x29 x30 x31 x32 x33 x34 x35 x36 x37 x38 x39 x40 x41 x42 x43 x44 x45 x46 x47 x48 x49 x50 x51 x52 x53 x54 x55 x56 x57 x58 Co_doubted Co_evening Co_carriedOut x62 x63 x64 x65 x66 x67 ++ t) Q := by
  unfold f_Co_restart at h
  refine r_aload_n 0 dX1_restart_0 rfl ?_
  refine r_iconst (v := (0 : Int32)) dX1_restart_1 (by decide) ?_
  refine r_putf _ dX1_restart_2 fl_X1_28 lX_71 (Nat.le_of_ble_eq_true rfl) rfl rfl (sX_59 _) ?_
  refine r_aload_n 0 dX1_restart_5 rfl ?_
  refine r_iconst (v := (0 : Int32)) dX1_restart_6 (by decide) ?_
  refine r_putf _ dX1_restart_7 fl_X1_32 lX_71 (Nat.le_of_ble_eq_true rfl) rfl rfl (sX_60 _) ?_
  refine r_aload_n 0 dX1_restart_10 rfl ?_
  refine r_iconst (v := (0 : Int32)) dX1_restart_11 (by decide) ?_
  refine r_putf _ dX1_restart_12 fl_X1_35 lX_71 (Nat.le_of_ble_eq_true rfl) rfl rfl (sX_61 _) ?_
  refine r_vret dX1_restart_15 rfl ?_
  have h := Option.some.inj (show some _ = some o from h)
  subst h
  exact hq
theorem ct_Co_restart {g : GG} {ad : Nat → Nat} {t : va_W} {x0 x1 x3 x4 x5 x11 x12 x18 x19 x20 x24 x25 x26 x27 x28 x29 x30 x31 x37 x39 x40 x41 x47 x48 x54 x56 x58 x63 x64 x65 x66 : Int32} {x2 x6 x7 x8 x9 x10 x13 x14 x15 x16 x17 x21 x22 x23 x33 x34 x35 x42 x43 x44 x45 x46 x49 x50 x51 x52 x53 x62 x67 : Nat → Int32} {x32 : Int64} {x36 x38 x55 x57 : Nat → Int64} {Co_doubted : Int32} {Co_evening : Int32} {Co_carriedOut : Int32} {o : Int32 × Int32 × Int32} (h : f_Co_restart Co_doubted Co_evening Co_carriedOut = some o) : Ct g mX1_restart 1 0 0 [.ref (ad 71)] (wlX g ad x0 x1 x2 x3 x4 x5 x6 x7 x8 x9 x10 x11 x12 x13 x14 x15 x16 x17 x18 x19 x20 x21 x22 x23 x24 x25 x26 x27 x28 x29 x30 x31 x32 x33 x34 x35 x36 x37 x38 x39 x40 x41 x42 x43 x44 x45 x46 x47 x48 x49 x50 x51 x52 x53 x54 x55 x56 x57 x58 Co_doubted Co_evening Co_carriedOut x62 x63 x64 x65 x66 x67 ++ t) (Dv (none) (wlX g ad x0 x1 x2 x3 x4 x5 x6 x7 x8 x9 x10 x11 x12 x13 x14 x15 x16 x17 x18 x19 x20 x21 x22 x23 x24 x25 x26 x27 x28 x29 x30 x31 x32 x33 x34 x35 x36 x37 x38 x39 x40 x41 x42 x43 x44 x45 x46 x47 x48 x49 x50 x51 x52 x53 x54 x55 x56 x57 x58 o.1 o.2.1 o.2.2 x62 x63 x64 x65 x66 x67 ++ t)) := Ct.ofR (by decide +kernel) rfl (Nat.le_of_ble_eq_true rfl) (rt_Co_restart h ⟨rfl, rfl⟩)
set_option maxRecDepth 20000 in
set_option maxHeartbeats 4000000 in
theorem rt_Main_teach {g : GG} {ad : Nat → Nat} {t : va_W} {x19 x20 x58 x63 x64 x65 x66 : Int32} {x22 x23 x62 x67 : Nat → Int32} {N : Nat} {Main_tapeSize : Int32} {Main_errorPlace : Int32} {Main_tape : Nat → Int32} {Tap_eventCount : Int32} {Tap_tellerCount : Int32} {Cl_count : Int32} {Cl_tellers : Nat → Int32} {Cl_kinds : Nat → Int32} {Cl_events : Nat → Int32} {Cl_firsts : Nat → Int32} {Cl_lasts : Nat → Int32} {Or_count : Int32} {Or_stepCount : Int32} {Or_doubts : Nat → Int32} {Or_tellers : Nat → Int32} {Or_ends : Nat → Int32} {Or_stepKinds : Nat → Int32} {Or_stepParts : Nat → Int32} {Ve_judged : Int32} {Ve_against : Nat → Int32} {Re_at : Int32} {Re_kind : Int32} {Re_depth : Int32} {Re_error : Int32} {Re_errorPlace : Int32} {To_size : Int32} {To_place : Int32} {To_number : Int32} {To_word : Int64} {To_kinds : Nat → Int32} {To_starts : Nat → Int32} {To_numbers : Nat → Int32} {To_words : Nat → Int64} {Na_count : Int32} {Na_words : Nat → Int64} {Tap_eventCount_2 : Int32} {Tap_tellerCount_2 : Int32} {Cl_count_2 : Int32} {Cl_tellers_2 : Nat → Int32} {Cl_kinds_2 : Nat → Int32} {Cl_events_2 : Nat → Int32} {Cl_firsts_2 : Nat → Int32} {Cl_lasts_2 : Nat → Int32} {Or_count_2 : Int32} {Or_stepCount_2 : Int32} {Or_doubts_2 : Nat → Int32} {Or_tellers_2 : Nat → Int32} {Or_ends_2 : Nat → Int32} {Or_stepKinds_2 : Nat → Int32} {Or_stepParts_2 : Nat → Int32} {Na_count_2 : Int32} {Na_words_2 : Nat → Int64} {Na_count_3 : Int32} {Na_words_3 : Nat → Int64} {Co_doubted : Int32} {Co_evening : Int32} {Co_carriedOut : Int32} {o : Int32 × Int32 × Int32 × Int32 × Int32 × Int32 × (Nat → Int32) × (Nat → Int32) × (Nat → Int32) × (Nat → Int32) × (Nat → Int32) × Int32 × Int32 × (Nat → Int32) × (Nat → Int32) × (Nat → Int32) × (Nat → Int32) × (Nat → Int32) × Int32 × (Nat → Int32) × Int32 × Int32 × Int32 × Int32 × Int32 × Int32 × Int32 × Int32 × Int64 × (Nat → Int32) × (Nat → Int32) × (Nat → Int32) × (Nat → Int64) × Int32 × Int32 × Int32 × (Nat → Int32) × (Nat → Int32) × (Nat → Int32) × (Nat → Int32) × (Nat → Int32) × Int32 × Int32 × (Nat → Int32) × (Nat → Int32) × (Nat → Int32) × (Nat → Int32) × (Nat → Int32) × Int32 × (Nat → Int64) × Int32 × (Nat → Int64) × Int32 × Int32 × Int32} {Q : Rs → va_W → Prop} (h : f_Main_teach N Main_tapeSize Main_errorPlace Main_tape Tap_eventCount Tap_tellerCount Cl_count Cl_tellers Cl_kinds Cl_events Cl_firsts Cl_lasts Or_count Or_stepCount Or_doubts Or_tellers Or_ends Or_stepKinds Or_stepParts Ve_judged Ve_against Re_at Re_kind Re_depth Re_error Re_errorPlace To_size To_place To_number To_word To_kinds To_starts To_numbers To_words Na_count Na_words Tap_eventCount_2 Tap_tellerCount_2 Cl_count_2 Cl_tellers_2 Cl_kinds_2 Cl_events_2 Cl_firsts_2 Cl_lasts_2 Or_count_2 Or_stepCount_2 Or_doubts_2 Or_tellers_2 Or_ends_2 Or_stepKinds_2 Or_stepParts_2 Na_count_2 Na_words_2 Na_count_3 Na_words_3 Co_doubted Co_evening Co_carriedOut = some o) (hq : Q (.inl (some (.int o.1))) (wlX g ad o.2.1 o.2.2.1 Main_tape o.2.2.2.1 o.2.2.2.2.1 o.2.2.2.2.2.1 o.2.2.2.2.2.2.1 o.2.2.2.2.2.2.2.1 o.2.2.2.2.2.2.2.2.1 o.2.2.2.2.2.2.2.2.2.1 o.2.2.2.2.2.2.2.2.2.2.1 o.2.2.2.2.2.2.2.2.2.2.2.1 o.2.2.2.2.2.2.2.2.2.2.2.2.1 o.2.2.2.2.2.2.2.2.2.2.2.2.2.1 o.2.2.2.2.2.2.2.2.2.2.2.2.2.2.1 o.2.2.2.2.2.2.2.2.2.2.2.2.2.2.2.1 o.2.2.2.2.2.2.2.2.2.2.2.2.2.2.2.2.1 o.2.2.2.2.2.2.2.2.2.2.2.2.2.2.2.2.2.1 o.2.2.2.2.2.2.2.2.2.2.2.2.2.2.2.2.2.2.1 x19 x20 o.2.2.2.2.2.2.2.2.2.2.2.2.2.2.2.2.2.2.2.1 x22 x23 o.2.2.2.2.2.2.2.2.2.2.2.2.2.2.2.2.2.2.2.2.1 o.2.2.2.2.2.2.2.2.2.2.2.2.2.2.2.2.2.2.2.2.2.1 o.2.2.2.2.2.2.2.2.2.2.2.2.2.2.2.2.2.2.2.2.2.2.1 o.2.2.2.2.2.2.2.2.2.2.2.2.2.2.2.2.2.2.2.2.2.2.2.1 o.2.2.2.2.2.2.2.2.2.2.2.2.2.2.2.2.2.2.2.2.2.2.2.2.1 o.2.2.2.2.2.2.2.2.2.2.2.2.2.2.2.2.2.2.2.2.2.2.2.2.2.1 o.2.2.2.2.2.2.2.2.2.2.2.2.2.2.2.2.2.2.2.2.2.2.2.2.2.2.1 o.2.2.2.2.2.2.2.2.2.2.2.2.2.2.2.2.2.2.2.2.2.2.2.2.2.2.2.1 o.2.2.2.2.2.2.2.2.2.2.2.2.2.2.2.2.2.2.2.2.2.2.2.2.2.2.2.2.1 o.2.2.2.2.2.2.2.2.2.2.2.2.2.2.2.2.2.2.2.2.2.2.2.2.2.2.2.2.2.1 o.2.2.2.2.2.2.2.2.2.2.2.2.2.2.2.2.2.2.2.2.2.2.2.2.2.2.2.2.2.2.1 o.2.2.2.2.2.2.2.2.2.2.2.2.2.2.2.2.2.2.2.2.2.2.2.2.2.2.2.2.2.2.2.1 o.2.2.2.2.2.2.2.2.2.2.2.2.2.2.2.2.2.2.2.2.2.2.2.2.2.2.2.2.2.2.2.2.1 Na_count Na_words o.2.2.2.2.2.2.2.2.2.2.2.2.2.2.2.2.2.2.2.2.2.2.2.2.2.2.2.2.2.2.2.2.2.1 o.2.2.2.2.2.2.2.2.2.2.2.2.2.2.2.2.2.2.2.2.2.2.2.2.2.2.2.2.2.2.2.2.2.2.1 o.2.2.2.2.2.2.2.2.2.2.2.2.2.2.2.2.2.2.2.2.2.2.2.2.2.2.2.2.2.2.2.2.2.2.2.1 o.2.2.2.2.2.2.2.2.2.2.2.2.2.2.2.2.2.2.2.2.2.2.2.2.2.2.2.2.2.2.2.2.2.2.2.2.1 o.2.2.2.2.2.2.2.2.2.2.2.2.2.2.2.2.2.2.2.2.2.2.2.2.2.2.2.2.2.2.2.2.2.2.2.2.2.1 o.2.2.2.2.2.2.2.2.2.2.2.2.2.2.2.2.2.2.2.2.2.2.2.2.2.2.2.2.2.2.2.2.2.2.2.2.2.2.1 o.2.2.2.2.2.2.2.2.2.2.2.2.2.2.2.2.2.2.2.2.2.2.2.2.2.2.2.2.2.2.2.2.2.2.2.2.2.2.2.1 o.2.2.2.2.2.2.2.2.2.2.2.2.2.2.2.2.2.2.2.2.2.2.2.2.2.2.2.2.2.2.2.2.2.2.2.2.2.2.2.2.1 o.2.2.2.2.2.2.2.2.2.2.2.2.2.2.2.2.2.2.2.2.2.2.2.2.2.2.2.2.2.2.2.2.2.2.2.2.2.2.2.2.2.1 o.2.2.2.2.2.2.2.2.2.2.2.2.2.2.2.2.2.2.2.2.2.2.2.2.2.2.2.2.2.2.2.2.2.2.2.2.2.2.2.2.2.2.1 o.2.2.2.2.2.2.2.2.2.2.2.2.2.2.2.2.2.2.2.2.2.2.2.2.2.2.2.2.2.2.2.2.2.2.2.2.2.2.2.2.2.2.2.1 o.2.2.2.2.2.2.2.2.2.2.2.2.2.2.2.2.2.2.2.2.2.2.2.2.2.2.2.2.2.2.2.2.2.2.2.2.2.2.2.2.2.2.2.2.1 o.2.2.2.2.2.2.2.2.2.2.2.2.2.2.2.2.2.2.2.2.2.2.2.2.2.2.2.2.2.2.2.2.2.2.2.2.2.2.2.2.2.2.2.2.2.1 o.2.2.2.2.2.2.2.2.2.2.2.2.2.2.2.2.2.2.2.2.2.2.2.2.2.2.2.2.2.2.2.2.2.2.2.2.2.2.2.2.2.2.2.2.2.2.1 o.2.2.2.2.2.2.2.2.2.2.2.2.2.2.2.2.2.2.2.2.2.2.2.2.2.2.2.2.2.2.2.2.2.2.2.2.2.2.2.2.2.2.2.2.2.2.2.1 o.2.2.2.2.2.2.2.2.2.2.2.2.2.2.2.2.2.2.2.2.2.2.2.2.2.2.2.2.2.2.2.2.2.2.2.2.2.2.2.2.2.2.2.2.2.2.2.2.1 o.2.2.2.2.2.2.2.2.2.2.2.2.2.2.2.2.2.2.2.2.2.2.2.2.2.2.2.2.2.2.2.2.2.2.2.2.2.2.2.2.2.2.2.2.2.2.2.2.2.1 o.2.2.2.2.2.2.2.2.2.2.2.2.2.2.2.2.2.2.2.2.2.2.2.2.2.2.2.2.2.2.2.2.2.2.2.2.2.2.2.2.2.2.2.2.2.2.2.2.2.2.1 o.2.2.2.2.2.2.2.2.2.2.2.2.2.2.2.2.2.2.2.2.2.2.2.2.2.2.2.2.2.2.2.2.2.2.2.2.2.2.2.2.2.2.2.2.2.2.2.2.2.2.2.1 x58 o.2.2.2.2.2.2.2.2.2.2.2.2.2.2.2.2.2.2.2.2.2.2.2.2.2.2.2.2.2.2.2.2.2.2.2.2.2.2.2.2.2.2.2.2.2.2.2.2.2.2.2.2.1 o.2.2.2.2.2.2.2.2.2.2.2.2.2.2.2.2.2.2.2.2.2.2.2.2.2.2.2.2.2.2.2.2.2.2.2.2.2.2.2.2.2.2.2.2.2.2.2.2.2.2.2.2.2.1 o.2.2.2.2.2.2.2.2.2.2.2.2.2.2.2.2.2.2.2.2.2.2.2.2.2.2.2.2.2.2.2.2.2.2.2.2.2.2.2.2.2.2.2.2.2.2.2.2.2.2.2.2.2.2 x62 x63 x64 x65 x66 x67 ++ t)) : R g mX9_teach 74 0 0 0 [(0, .ref (ad 0))] [] (wlX g ad Main_tapeSize Main_errorPlace Main_tape Tap_eventCount Tap_tellerCount Cl_count Cl_tellers Cl_kinds Cl_events Cl_firsts Cl_lasts Or_count Or_stepCount Or_doubts Or_tellers Or_ends Or_stepKinds Or_stepParts Ve_judged x19 x20 Ve_against x22 x23 Re_at Re_kind Re_depth Re_error Re_errorPlace To_size To_place To_number To_word To_kinds To_starts To_numbers To_words Na_count Na_words Tap_eventCount_2 Tap_tellerCount_2 Cl_count_2 Cl_tellers_2 Cl_kinds_2 Cl_events_2 Cl_firsts_2 Cl_lasts_2 Or_count_2 Or_stepCount_2 Or_doubts_2 Or_tellers_2 Or_ends_2 Or_stepKinds_2 Or_stepParts_2 Na_count_2 Na_words_2 Na_count_3 Na_words_3 x58 Co_doubted Co_evening Co_carriedOut x62 x63 x64 x65 x66 x67 ++ t) Q := by
  unfold f_Main_teach at h
  refine r_aload_n 0 dX9_teach_0 rfl ?_
  refine r_getf (v := .ref (ad 33)) _ dX9_teach_1 fl_X9_31 lX_0 rfl ?_
  refine r_aload_n 0 dX9_teach_4 rfl ?_
  refine r_getf (v := .int Main_tapeSize) _ dX9_teach_5 fl_X9_55 lX_0 rfl ?_
  obtain ⟨r759, hc760, h⟩ := ob (fun z9 => z9) rfl h
  refine c_V (rest := []) 0 0 _ dX9_teach_8 kv_X9_81 (ct_Re_read hc760) rfl rfl lX_33 rfl (Nat.le_of_ble_eq_true rfl) (by decide) (by decide) ?_
  refine r_istore_n [(1, .int r759.1), (0, .ref (ad 0))] dX9_teach_11 (by decide) rfl ?_
  refine r_aload_n 1 dX9_teach_12 rfl ?_
  refine r_aload_n 1 dX9_teach_13 rfl ?_
  refine r_getf (v := .ref (ad 33)) _ dX9_teach_14 fl_X9_31 lX_0 rfl ?_
  refine r_getf (v := .int r759.2.2.2.2.2.1) _ dX9_teach_17 fl_X9_85 lX_33 rfl ?_
  refine r_putf _ dX9_teach_20 fl_X9_59 lX_0 (Nat.le_of_ble_eq_true rfl) rfl rfl (sX_1 _) ?_
  refine r_aload_n 1 dX9_teach_23 rfl ?_
  refine r_iconst (v := (0 : Int32)) dX9_teach_24 (by decide) ?_
  refine r_putf _ dX9_teach_25 fl_X9_55 lX_0 (Nat.le_of_ble_eq_true rfl) rfl rfl (sX_0 _) ?_
  refine r_iload_n 0 dX9_teach_28 rfl ?_
  refine r_if_ne (tgt := 60) dX9_teach_29 (by decide) (fun hc761 => ?_) (fun hc761 => ?_)
  · have h := iq (fun z9 => z9) hc761 h
    refine r_iload_n 0 dX9_teach_60 rfl ?_
    refine r_iret dX9_teach_61 rfl ?_
    have h := Option.some.inj (show some _ = some o from h)
    subst h
    exact hq
  · have h := ip (fun z9 => z9) hc761 h
    refine r_aload_n 1 dX9_teach_32 rfl ?_
    refine r_getf (v := .ref (ad 3)) _ dX9_teach_33 fl_X9_35 lX_0 rfl ?_
    refine r_aload_n 1 dX9_teach_36 rfl ?_
    refine r_getf (v := .ref (ad 33)) _ dX9_teach_37 fl_X9_31 lX_0 rfl ?_
    refine r_getf (v := .ref (ad 44)) _ dX9_teach_40 fl_X9_86 lX_33 rfl ?_
    obtain ⟨r762, hc763, h⟩ := ob (fun z9 => z9) rfl h
    refine c_Vv (rest := []) 0 0 _ dX9_teach_43 kv_X9_89 (ct_Tap_copyFrom hc763) rfl rfl lX_3 rfl (Nat.le_of_ble_eq_true rfl) (by decide) (by decide) ?_
    refine r_aload_n 1 dX9_teach_46 rfl ?_
    refine r_getf (v := .ref (ad 26)) _ dX9_teach_47 fl_X9_39 lX_0 rfl ?_
    obtain ⟨r764, hc765, h⟩ := ob (fun z9 => z9) rfl h
    refine c_Vv (rest := []) 0 0 _ dX9_teach_50 kv_X9_92 (ct_Ve_hearClaims hc765) rfl rfl lX_26 rfl (Nat.le_of_ble_eq_true rfl) (by decide) (by decide) ?_
    refine r_aload_n 1 dX9_teach_53 rfl ?_
    refine r_getf (v := .ref (ad 71)) _ dX9_teach_54 fl_X9_48 lX_0 rfl ?_
    obtain ⟨r766, hc767, h⟩ := ob (fun z9 => z9) rfl h
    refine c_Vv (rest := []) 0 0 _ dX9_teach_57 kv_X9_95 (ct_Co_restart hc767) rfl rfl lX_71 rfl (Nat.le_of_ble_eq_true rfl) (by decide) (by decide) ?_
    refine r_iload_n 0 dX9_teach_60 rfl ?_
    refine r_iret dX9_teach_61 rfl ?_
    have h := Option.some.inj (show some _ = some o from h)
    subst h
    exact hq
theorem ct_Main_teach {g : GG} {ad : Nat → Nat} {t : va_W} {x19 x20 x58 x63 x64 x65 x66 : Int32} {x22 x23 x62 x67 : Nat → Int32} {N : Nat} {Main_tapeSize : Int32} {Main_errorPlace : Int32} {Main_tape : Nat → Int32} {Tap_eventCount : Int32} {Tap_tellerCount : Int32} {Cl_count : Int32} {Cl_tellers : Nat → Int32} {Cl_kinds : Nat → Int32} {Cl_events : Nat → Int32} {Cl_firsts : Nat → Int32} {Cl_lasts : Nat → Int32} {Or_count : Int32} {Or_stepCount : Int32} {Or_doubts : Nat → Int32} {Or_tellers : Nat → Int32} {Or_ends : Nat → Int32} {Or_stepKinds : Nat → Int32} {Or_stepParts : Nat → Int32} {Ve_judged : Int32} {Ve_against : Nat → Int32} {Re_at : Int32} {Re_kind : Int32} {Re_depth : Int32} {Re_error : Int32} {Re_errorPlace : Int32} {To_size : Int32} {To_place : Int32} {To_number : Int32} {To_word : Int64} {To_kinds : Nat → Int32} {To_starts : Nat → Int32} {To_numbers : Nat → Int32} {To_words : Nat → Int64} {Na_count : Int32} {Na_words : Nat → Int64} {Tap_eventCount_2 : Int32} {Tap_tellerCount_2 : Int32} {Cl_count_2 : Int32} {Cl_tellers_2 : Nat → Int32} {Cl_kinds_2 : Nat → Int32} {Cl_events_2 : Nat → Int32} {Cl_firsts_2 : Nat → Int32} {Cl_lasts_2 : Nat → Int32} {Or_count_2 : Int32} {Or_stepCount_2 : Int32} {Or_doubts_2 : Nat → Int32} {Or_tellers_2 : Nat → Int32} {Or_ends_2 : Nat → Int32} {Or_stepKinds_2 : Nat → Int32} {Or_stepParts_2 : Nat → Int32} {Na_count_2 : Int32} {Na_words_2 : Nat → Int64} {Na_count_3 : Int32} {Na_words_3 : Nat → Int64} {Co_doubted : Int32} {Co_evening : Int32} {Co_carriedOut : Int32} {o : Int32 × Int32 × Int32 × Int32 × Int32 × Int32 × (Nat → Int32) × (Nat → Int32) × (Nat → Int32) × (Nat → Int32) × (Nat → Int32) × Int32 × Int32 × (Nat → Int32) × (Nat → Int32) × (Nat → Int32) × (Nat → Int32) × (Nat → Int32) × Int32 × (Nat → Int32) × Int32 × Int32 × Int32 × Int32 × Int32 × Int32 × Int32 × Int32 × Int64 × (Nat → Int32) × (Nat → Int32) × (Nat → Int32) × (Nat → Int64) × Int32 × Int32 × Int32 × (Nat → Int32) × (Nat → Int32) × (Nat → Int32) × (Nat → Int32) × (Nat → Int32) × Int32 × Int32 × (Nat → Int32) × (Nat → Int32) × (Nat → Int32) × (Nat → Int32) × (Nat → Int32) × Int32 × (Nat → Int64) × Int32 × (Nat → Int64) × Int32 × Int32 × Int32} (h : f_Main_teach N Main_tapeSize Main_errorPlace Main_tape Tap_eventCount Tap_tellerCount Cl_count Cl_tellers Cl_kinds Cl_events Cl_firsts Cl_lasts Or_count Or_stepCount Or_doubts Or_tellers Or_ends Or_stepKinds Or_stepParts Ve_judged Ve_against Re_at Re_kind Re_depth Re_error Re_errorPlace To_size To_place To_number To_word To_kinds To_starts To_numbers To_words Na_count Na_words Tap_eventCount_2 Tap_tellerCount_2 Cl_count_2 Cl_tellers_2 Cl_kinds_2 Cl_events_2 Cl_firsts_2 Cl_lasts_2 Or_count_2 Or_stepCount_2 Or_doubts_2 Or_tellers_2 Or_ends_2 Or_stepKinds_2 Or_stepParts_2 Na_count_2 Na_words_2 Na_count_3 Na_words_3 Co_doubted Co_evening Co_carriedOut = some o) : Ct g mX9_teach 74 0 0 [.ref (ad 0)] (wlX g ad Main_tapeSize Main_errorPlace Main_tape Tap_eventCount Tap_tellerCount Cl_count Cl_tellers Cl_kinds Cl_events Cl_firsts Cl_lasts Or_count Or_stepCount Or_doubts Or_tellers Or_ends Or_stepKinds Or_stepParts Ve_judged x19 x20 Ve_against x22 x23 Re_at Re_kind Re_depth Re_error Re_errorPlace To_size To_place To_number To_word To_kinds To_starts To_numbers To_words Na_count Na_words Tap_eventCount_2 Tap_tellerCount_2 Cl_count_2 Cl_tellers_2 Cl_kinds_2 Cl_events_2 Cl_firsts_2 Cl_lasts_2 Or_count_2 Or_stepCount_2 Or_doubts_2 Or_tellers_2 Or_ends_2 Or_stepKinds_2 Or_stepParts_2 Na_count_2 Na_words_2 Na_count_3 Na_words_3 x58 Co_doubted Co_evening Co_carriedOut x62 x63 x64 x65 x66 x67 ++ t) (Dv (some (.int o.1)) (wlX g ad o.2.1 o.2.2.1 Main_tape o.2.2.2.1 o.2.2.2.2.1 o.2.2.2.2.2.1 o.2.2.2.2.2.2.1 o.2.2.2.2.2.2.2.1 o.2.2.2.2.2.2.2.2.1 o.2.2.2.2.2.2.2.2.2.1 o.2.2.2.2.2.2.2.2.2.2.1 o.2.2.2.2.2.2.2.2.2.2.2.1 o.2.2.2.2.2.2.2.2.2.2.2.2.1 o.2.2.2.2.2.2.2.2.2.2.2.2.2.1 o.2.2.2.2.2.2.2.2.2.2.2.2.2.2.1 o.2.2.2.2.2.2.2.2.2.2.2.2.2.2.2.1 o.2.2.2.2.2.2.2.2.2.2.2.2.2.2.2.2.1 o.2.2.2.2.2.2.2.2.2.2.2.2.2.2.2.2.2.1 o.2.2.2.2.2.2.2.2.2.2.2.2.2.2.2.2.2.2.1 x19 x20 o.2.2.2.2.2.2.2.2.2.2.2.2.2.2.2.2.2.2.2.1 x22 x23 o.2.2.2.2.2.2.2.2.2.2.2.2.2.2.2.2.2.2.2.2.1 o.2.2.2.2.2.2.2.2.2.2.2.2.2.2.2.2.2.2.2.2.2.1 o.2.2.2.2.2.2.2.2.2.2.2.2.2.2.2.2.2.2.2.2.2.2.1 o.2.2.2.2.2.2.2.2.2.2.2.2.2.2.2.2.2.2.2.2.2.2.2.1 o.2.2.2.2.2.2.2.2.2.2.2.2.2.2.2.2.2.2.2.2.2.2.2.2.1 o.2.2.2.2.2.2.2.2.2.2.2.2.2.2.2.2.2.2.2.2.2.2.2.2.2.1 o.2.2.2.2.2.2.2.2.2.2.2.2.2.2.2.2.2.2.2.2.2.2.2.2.2.2.1 o.2.2.2.2.2.2.2.2.2.2.2.2.2.2.2.2.2.2.2.2.2.2.2.2.2.2.2.1 o.2.2.2.2.2.2.2.2.2.2.2.2.2.2.2.2.2.2.2.2.2.2.2.2.2.2.2.2.1 o.2.2.2.2.2.2.2.2.2.2.2.2.2.2.2.2.2.2.2.2.2.2.2.2.2.2.2.2.2.1 o.2.2.2.2.2.2.2.2.2.2.2.2.2.2.2.2.2.2.2.2.2.2.2.2.2.2.2.2.2.2.1 o.2.2.2.2.2.2.2.2.2.2.2.2.2.2.2.2.2.2.2.2.2.2.2.2.2.2.2.2.2.2.2.1 o.2.2.2.2.2.2.2.2.2.2.2.2.2.2.2.2.2.2.2.2.2.2.2.2.2.2.2.2.2.2.2.2.1 Na_count Na_words o.2.2.2.2.2.2.2.2.2.2.2.2.2.2.2.2.2.2.2.2.2.2.2.2.2.2.2.2.2.2.2.2.2.1 o.2.2.2.2.2.2.2.2.2.2.2.2.2.2.2.2.2.2.2.2.2.2.2.2.2.2.2.2.2.2.2.2.2.2.1 o.2.2.2.2.2.2.2.2.2.2.2.2.2.2.2.2.2.2.2.2.2.2.2.2.2.2.2.2.2.2.2.2.2.2.2.1 o.2.2.2.2.2.2.2.2.2.2.2.2.2.2.2.2.2.2.2.2.2.2.2.2.2.2.2.2.2.2.2.2.2.2.2.2.1 o.2.2.2.2.2.2.2.2.2.2.2.2.2.2.2.2.2.2.2.2.2.2.2.2.2.2.2.2.2.2.2.2.2.2.2.2.2.1 o.2.2.2.2.2.2.2.2.2.2.2.2.2.2.2.2.2.2.2.2.2.2.2.2.2.2.2.2.2.2.2.2.2.2.2.2.2.2.1 o.2.2.2.2.2.2.2.2.2.2.2.2.2.2.2.2.2.2.2.2.2.2.2.2.2.2.2.2.2.2.2.2.2.2.2.2.2.2.2.1 o.2.2.2.2.2.2.2.2.2.2.2.2.2.2.2.2.2.2.2.2.2.2.2.2.2.2.2.2.2.2.2.2.2.2.2.2.2.2.2.2.1 o.2.2.2.2.2.2.2.2.2.2.2.2.2.2.2.2.2.2.2.2.2.2.2.2.2.2.2.2.2.2.2.2.2.2.2.2.2.2.2.2.2.1 o.2.2.2.2.2.2.2.2.2.2.2.2.2.2.2.2.2.2.2.2.2.2.2.2.2.2.2.2.2.2.2.2.2.2.2.2.2.2.2.2.2.2.1 o.2.2.2.2.2.2.2.2.2.2.2.2.2.2.2.2.2.2.2.2.2.2.2.2.2.2.2.2.2.2.2.2.2.2.2.2.2.2.2.2.2.2.2.1 o.2.2.2.2.2.2.2.2.2.2.2.2.2.2.2.2.2.2.2.2.2.2.2.2.2.2.2.2.2.2.2.2.2.2.2.2.2.2.2.2.2.2.2.2.1 o.2.2.2.2.2.2.2.2.2.2.2.2.2.2.2.2.2.2.2.2.2.2.2.2.2.2.2.2.2.2.2.2.2.2.2.2.2.2.2.2.2.2.2.2.2.1 o.2.2.2.2.2.2.2.2.2.2.2.2.2.2.2.2.2.2.2.2.2.2.2.2.2.2.2.2.2.2.2.2.2.2.2.2.2.2.2.2.2.2.2.2.2.2.1 o.2.2.2.2.2.2.2.2.2.2.2.2.2.2.2.2.2.2.2.2.2.2.2.2.2.2.2.2.2.2.2.2.2.2.2.2.2.2.2.2.2.2.2.2.2.2.2.1 o.2.2.2.2.2.2.2.2.2.2.2.2.2.2.2.2.2.2.2.2.2.2.2.2.2.2.2.2.2.2.2.2.2.2.2.2.2.2.2.2.2.2.2.2.2.2.2.2.1 o.2.2.2.2.2.2.2.2.2.2.2.2.2.2.2.2.2.2.2.2.2.2.2.2.2.2.2.2.2.2.2.2.2.2.2.2.2.2.2.2.2.2.2.2.2.2.2.2.2.1 o.2.2.2.2.2.2.2.2.2.2.2.2.2.2.2.2.2.2.2.2.2.2.2.2.2.2.2.2.2.2.2.2.2.2.2.2.2.2.2.2.2.2.2.2.2.2.2.2.2.2.1 o.2.2.2.2.2.2.2.2.2.2.2.2.2.2.2.2.2.2.2.2.2.2.2.2.2.2.2.2.2.2.2.2.2.2.2.2.2.2.2.2.2.2.2.2.2.2.2.2.2.2.2.1 x58 o.2.2.2.2.2.2.2.2.2.2.2.2.2.2.2.2.2.2.2.2.2.2.2.2.2.2.2.2.2.2.2.2.2.2.2.2.2.2.2.2.2.2.2.2.2.2.2.2.2.2.2.2.1 o.2.2.2.2.2.2.2.2.2.2.2.2.2.2.2.2.2.2.2.2.2.2.2.2.2.2.2.2.2.2.2.2.2.2.2.2.2.2.2.2.2.2.2.2.2.2.2.2.2.2.2.2.2.1 o.2.2.2.2.2.2.2.2.2.2.2.2.2.2.2.2.2.2.2.2.2.2.2.2.2.2.2.2.2.2.2.2.2.2.2.2.2.2.2.2.2.2.2.2.2.2.2.2.2.2.2.2.2.2 x62 x63 x64 x65 x66 x67 ++ t)) := Ct.ofR (by decide +kernel) rfl (Nat.le_of_ble_eq_true rfl) (rt_Main_teach h ⟨rfl, rfl⟩)
set_option maxRecDepth 20000 in
set_option maxHeartbeats 4000000 in
theorem rt_Main_events {g : GG} {ad : Nat → Nat} {t : va_W} {x0 x1 x4 x5 x11 x12 x18 x19 x20 x24 x25 x26 x27 x28 x29 x30 x31 x37 x39 x40 x41 x47 x48 x54 x56 x58 x59 x60 x61 x63 x64 x65 x66 : Int32} {x2 x6 x7 x8 x9 x10 x13 x14 x15 x16 x17 x21 x22 x23 x33 x34 x35 x42 x43 x44 x45 x46 x49 x50 x51 x52 x53 x62 x67 : Nat → Int32} {x32 : Int64} {x36 x38 x55 x57 : Nat → Int64} {Tap_eventCount : Int32} {o : Int32} {Q : Rs → va_W → Prop} (h : f_Main_events Tap_eventCount = o) (hq : Q (.inl (some (.int o))) (wlX g ad x0 x1 x2 Tap_eventCount x4 x5 x6 x7 x8 x9 x10 x11 x12 x13 x14 x15 x16 x17 x18 x19 x20 x21 x22 x23 x24 x25 x26 x27 x28 x29 x30 x31 x32 x33 x34 x35 x36 x37 x38 x39 x40 x41 x42 x43 x44 x45 x46 x47 x48 x49 x50 x51 x52 x53 x54 x55 x56 x57 x58 x59 x60 x61 x62 x63 x64 x65 x66 x67 ++ t)) : R g mX9_events 1 0 0 0 [(0, .ref (ad 0))] [] (wlX g ad x0 x1 x2 Tap_eventCount x4 x5 x6 x7 x8 x9 x10 x11 x12 x13 x14 x15 x16 x17 x18 x19 x20 x21 x22 x23 x24 x25 x26 x27 x28 x29 x30 x31 x32 x33 x34 x35 x36 x37 x38 x39 x40 x41 x42 x43 x44 x45 x46 x47 x48 x49 x50 x51 x52 x53 x54 x55 x56 x57 x58 x59 x60 x61 x62 x63 x64 x65 x66 x67 ++ t) Q := by
  unfold f_Main_events at h
  refine r_aload_n 0 dX9_events_0 rfl ?_
  refine r_getf (v := .ref (ad 3)) _ dX9_events_1 fl_X9_35 lX_0 rfl ?_
  refine r_getf (v := .int Tap_eventCount) _ dX9_events_4 fl_X9_98 lX_3 rfl ?_
  refine r_iret dX9_events_7 rfl ?_
  have h : _ = o := h
  subst h
  exact hq
theorem ct_Main_events {g : GG} {ad : Nat → Nat} {t : va_W} {x0 x1 x4 x5 x11 x12 x18 x19 x20 x24 x25 x26 x27 x28 x29 x30 x31 x37 x39 x40 x41 x47 x48 x54 x56 x58 x59 x60 x61 x63 x64 x65 x66 : Int32} {x2 x6 x7 x8 x9 x10 x13 x14 x15 x16 x17 x21 x22 x23 x33 x34 x35 x42 x43 x44 x45 x46 x49 x50 x51 x52 x53 x62 x67 : Nat → Int32} {x32 : Int64} {x36 x38 x55 x57 : Nat → Int64} {Tap_eventCount : Int32} {o : Int32} (h : f_Main_events Tap_eventCount = o) : Ct g mX9_events 1 0 0 [.ref (ad 0)] (wlX g ad x0 x1 x2 Tap_eventCount x4 x5 x6 x7 x8 x9 x10 x11 x12 x13 x14 x15 x16 x17 x18 x19 x20 x21 x22 x23 x24 x25 x26 x27 x28 x29 x30 x31 x32 x33 x34 x35 x36 x37 x38 x39 x40 x41 x42 x43 x44 x45 x46 x47 x48 x49 x50 x51 x52 x53 x54 x55 x56 x57 x58 x59 x60 x61 x62 x63 x64 x65 x66 x67 ++ t) (Dv (some (.int o)) (wlX g ad x0 x1 x2 Tap_eventCount x4 x5 x6 x7 x8 x9 x10 x11 x12 x13 x14 x15 x16 x17 x18 x19 x20 x21 x22 x23 x24 x25 x26 x27 x28 x29 x30 x31 x32 x33 x34 x35 x36 x37 x38 x39 x40 x41 x42 x43 x44 x45 x46 x47 x48 x49 x50 x51 x52 x53 x54 x55 x56 x57 x58 x59 x60 x61 x62 x63 x64 x65 x66 x67 ++ t)) := Ct.ofR (by decide +kernel) rfl (Nat.le_of_ble_eq_true rfl) (rt_Main_events h ⟨rfl, rfl⟩)
set_option maxRecDepth 20000 in
set_option maxHeartbeats 4000000 in
theorem rt_Main_tellers {g : GG} {ad : Nat → Nat} {t : va_W} {x0 x1 x3 x5 x11 x12 x18 x19 x20 x24 x25 x26 x27 x28 x29 x30 x31 x37 x39 x40 x41 x47 x48 x54 x56 x58 x59 x60 x61 x63 x64 x65 x66 : Int32} {x2 x6 x7 x8 x9 x10 x13 x14 x15 x16 x17 x21 x22 x23 x33 x34 x35 x42 x43 x44 x45 x46 x49 x50 x51 x52 x53 x62 x67 : Nat → Int32} {x32 : Int64} {x36 x38 x55 x57 : Nat → Int64} {Tap_tellerCount : Int32} {o : Int32} {Q : Rs → va_W → Prop} (h : f_Main_tellers Tap_tellerCount = o) (hq : Q (.inl (some (.int o))) (wlX g ad x0 x1 x2 x3 Tap_tellerCount x5 x6 x7 x8 x9 x10 x11 x12 x13 x14 x15 x16 x17 x18 x19 x20 x21 x22 x23 x24 x25 x26 x27 x28 x29 x30 x31 x32 x33 x34 x35 x36 x37 x38 x39 x40 x41 x42 x43 x44 x45 x46 x47 x48 x49 x50 x51 x52 x53 x54 x55 x56 x57 x58 x59 x60 x61 x62 x63 x64 x65 x66 x67 ++ t)) : R g mX9_tellers 1 0 0 0 [(0, .ref (ad 0))] [] (wlX g ad x0 x1 x2 x3 Tap_tellerCount x5 x6 x7 x8 x9 x10 x11 x12 x13 x14 x15 x16 x17 x18 x19 x20 x21 x22 x23 x24 x25 x26 x27 x28 x29 x30 x31 x32 x33 x34 x35 x36 x37 x38 x39 x40 x41 x42 x43 x44 x45 x46 x47 x48 x49 x50 x51 x52 x53 x54 x55 x56 x57 x58 x59 x60 x61 x62 x63 x64 x65 x66 x67 ++ t) Q := by
  unfold f_Main_tellers at h
  refine r_aload_n 0 dX9_tellers_0 rfl ?_
  refine r_getf (v := .ref (ad 3)) _ dX9_tellers_1 fl_X9_35 lX_0 rfl ?_
  refine r_getf (v := .int Tap_tellerCount) _ dX9_tellers_4 fl_X9_101 lX_3 rfl ?_
  refine r_iret dX9_tellers_7 rfl ?_
  have h : _ = o := h
  subst h
  exact hq
theorem ct_Main_tellers {g : GG} {ad : Nat → Nat} {t : va_W} {x0 x1 x3 x5 x11 x12 x18 x19 x20 x24 x25 x26 x27 x28 x29 x30 x31 x37 x39 x40 x41 x47 x48 x54 x56 x58 x59 x60 x61 x63 x64 x65 x66 : Int32} {x2 x6 x7 x8 x9 x10 x13 x14 x15 x16 x17 x21 x22 x23 x33 x34 x35 x42 x43 x44 x45 x46 x49 x50 x51 x52 x53 x62 x67 : Nat → Int32} {x32 : Int64} {x36 x38 x55 x57 : Nat → Int64} {Tap_tellerCount : Int32} {o : Int32} (h : f_Main_tellers Tap_tellerCount = o) : Ct g mX9_tellers 1 0 0 [.ref (ad 0)] (wlX g ad x0 x1 x2 x3 Tap_tellerCount x5 x6 x7 x8 x9 x10 x11 x12 x13 x14 x15 x16 x17 x18 x19 x20 x21 x22 x23 x24 x25 x26 x27 x28 x29 x30 x31 x32 x33 x34 x35 x36 x37 x38 x39 x40 x41 x42 x43 x44 x45 x46 x47 x48 x49 x50 x51 x52 x53 x54 x55 x56 x57 x58 x59 x60 x61 x62 x63 x64 x65 x66 x67 ++ t) (Dv (some (.int o)) (wlX g ad x0 x1 x2 x3 Tap_tellerCount x5 x6 x7 x8 x9 x10 x11 x12 x13 x14 x15 x16 x17 x18 x19 x20 x21 x22 x23 x24 x25 x26 x27 x28 x29 x30 x31 x32 x33 x34 x35 x36 x37 x38 x39 x40 x41 x42 x43 x44 x45 x46 x47 x48 x49 x50 x51 x52 x53 x54 x55 x56 x57 x58 x59 x60 x61 x62 x63 x64 x65 x66 x67 ++ t)) := Ct.ofR (by decide +kernel) rfl (Nat.le_of_ble_eq_true rfl) (rt_Main_tellers h ⟨rfl, rfl⟩)
set_option maxRecDepth 20000 in
set_option maxHeartbeats 4000000 in
theorem rt_Main_claims {g : GG} {ad : Nat → Nat} {t : va_W} {x0 x1 x3 x4 x11 x12 x18 x19 x20 x24 x25 x26 x27 x28 x29 x30 x31 x37 x39 x40 x41 x47 x48 x54 x56 x58 x59 x60 x61 x63 x64 x65 x66 : Int32} {x2 x6 x7 x8 x9 x10 x13 x14 x15 x16 x17 x21 x22 x23 x33 x34 x35 x42 x43 x44 x45 x46 x49 x50 x51 x52 x53 x62 x67 : Nat → Int32} {x32 : Int64} {x36 x38 x55 x57 : Nat → Int64} {Cl_count : Int32} {o : Int32} {Q : Rs → va_W → Prop} (h : f_Main_claims Cl_count = o) (hq : Q (.inl (some (.int o))) (wlX g ad x0 x1 x2 x3 x4 Cl_count x6 x7 x8 x9 x10 x11 x12 x13 x14 x15 x16 x17 x18 x19 x20 x21 x22 x23 x24 x25 x26 x27 x28 x29 x30 x31 x32 x33 x34 x35 x36 x37 x38 x39 x40 x41 x42 x43 x44 x45 x46 x47 x48 x49 x50 x51 x52 x53 x54 x55 x56 x57 x58 x59 x60 x61 x62 x63 x64 x65 x66 x67 ++ t)) : R g mX9_claims 1 0 0 0 [(0, .ref (ad 0))] [] (wlX g ad x0 x1 x2 x3 x4 Cl_count x6 x7 x8 x9 x10 x11 x12 x13 x14 x15 x16 x17 x18 x19 x20 x21 x22 x23 x24 x25 x26 x27 x28 x29 x30 x31 x32 x33 x34 x35 x36 x37 x38 x39 x40 x41 x42 x43 x44 x45 x46 x47 x48 x49 x50 x51 x52 x53 x54 x55 x56 x57 x58 x59 x60 x61 x62 x63 x64 x65 x66 x67 ++ t) Q := by
  unfold f_Main_claims at h
  refine r_aload_n 0 dX9_claims_0 rfl ?_
  refine r_getf (v := .ref (ad 3)) _ dX9_claims_1 fl_X9_35 lX_0 rfl ?_
  refine r_getf (v := .ref (ad 4)) _ dX9_claims_4 fl_X9_104 lX_3 rfl ?_
  refine r_getf (v := .int Cl_count) _ dX9_claims_7 fl_X9_108 lX_4 rfl ?_
  refine r_iret dX9_claims_10 rfl ?_
  have h : _ = o := h
  subst h
  exact hq
theorem ct_Main_claims {g : GG} {ad : Nat → Nat} {t : va_W} {x0 x1 x3 x4 x11 x12 x18 x19 x20 x24 x25 x26 x27 x28 x29 x30 x31 x37 x39 x40 x41 x47 x48 x54 x56 x58 x59 x60 x61 x63 x64 x65 x66 : Int32} {x2 x6 x7 x8 x9 x10 x13 x14 x15 x16 x17 x21 x22 x23 x33 x34 x35 x42 x43 x44 x45 x46 x49 x50 x51 x52 x53 x62 x67 : Nat → Int32} {x32 : Int64} {x36 x38 x55 x57 : Nat → Int64} {Cl_count : Int32} {o : Int32} (h : f_Main_claims Cl_count = o) : Ct g mX9_claims 1 0 0 [.ref (ad 0)] (wlX g ad x0 x1 x2 x3 x4 Cl_count x6 x7 x8 x9 x10 x11 x12 x13 x14 x15 x16 x17 x18 x19 x20 x21 x22 x23 x24 x25 x26 x27 x28 x29 x30 x31 x32 x33 x34 x35 x36 x37 x38 x39 x40 x41 x42 x43 x44 x45 x46 x47 x48 x49 x50 x51 x52 x53 x54 x55 x56 x57 x58 x59 x60 x61 x62 x63 x64 x65 x66 x67 ++ t) (Dv (some (.int o)) (wlX g ad x0 x1 x2 x3 x4 Cl_count x6 x7 x8 x9 x10 x11 x12 x13 x14 x15 x16 x17 x18 x19 x20 x21 x22 x23 x24 x25 x26 x27 x28 x29 x30 x31 x32 x33 x34 x35 x36 x37 x38 x39 x40 x41 x42 x43 x44 x45 x46 x47 x48 x49 x50 x51 x52 x53 x54 x55 x56 x57 x58 x59 x60 x61 x62 x63 x64 x65 x66 x67 ++ t)) := Ct.ofR (by decide +kernel) rfl (Nat.le_of_ble_eq_true rfl) (rt_Main_claims h ⟨rfl, rfl⟩)
set_option maxRecDepth 20000 in
set_option maxHeartbeats 4000000 in
theorem rt_Main_evenings {g : GG} {ad : Nat → Nat} {t : va_W} {x0 x1 x3 x4 x5 x11 x12 x18 x19 x20 x24 x25 x26 x27 x28 x29 x30 x31 x37 x39 x40 x41 x47 x48 x54 x56 x58 x59 x61 x63 x64 x65 x66 : Int32} {x2 x6 x7 x8 x9 x10 x13 x14 x15 x16 x17 x21 x22 x23 x33 x34 x35 x42 x43 x44 x45 x46 x49 x50 x51 x52 x53 x62 x67 : Nat → Int32} {x32 : Int64} {x36 x38 x55 x57 : Nat → Int64} {Co_evening : Int32} {o : Int32} {Q : Rs → va_W → Prop} (h : f_Main_evenings Co_evening = o) (hq : Q (.inl (some (.int o))) (wlX g ad x0 x1 x2 x3 x4 x5 x6 x7 x8 x9 x10 x11 x12 x13 x14 x15 x16 x17 x18 x19 x20 x21 x22 x23 x24 x25 x26 x27 x28 x29 x30 x31 x32 x33 x34 x35 x36 x37 x38 x39 x40 x41 x42 x43 x44 x45 x46 x47 x48 x49 x50 x51 x52 x53 x54 x55 x56 x57 x58 x59 Co_evening x61 x62 x63 x64 x65 x66 x67 ++ t)) : R g mX9_evenings 1 0 0 0 [(0, .ref (ad 0))] [] (wlX g ad x0 x1 x2 x3 x4 x5 x6 x7 x8 x9 x10 x11 x12 x13 x14 x15 x16 x17 x18 x19 x20 x21 x22 x23 x24 x25 x26 x27 x28 x29 x30 x31 x32 x33 x34 x35 x36 x37 x38 x39 x40 x41 x42 x43 x44 x45 x46 x47 x48 x49 x50 x51 x52 x53 x54 x55 x56 x57 x58 x59 Co_evening x61 x62 x63 x64 x65 x66 x67 ++ t) Q := by
  unfold f_Main_evenings at h
  refine r_aload_n 0 dX9_evenings_0 rfl ?_
  refine r_getf (v := .ref (ad 71)) _ dX9_evenings_1 fl_X9_48 lX_0 rfl ?_
  refine r_getf (v := .int Co_evening) _ dX9_evenings_4 fl_X9_113 lX_71 rfl ?_
  refine r_iret dX9_evenings_7 rfl ?_
  have h : _ = o := h
  subst h
  exact hq
theorem ct_Main_evenings {g : GG} {ad : Nat → Nat} {t : va_W} {x0 x1 x3 x4 x5 x11 x12 x18 x19 x20 x24 x25 x26 x27 x28 x29 x30 x31 x37 x39 x40 x41 x47 x48 x54 x56 x58 x59 x61 x63 x64 x65 x66 : Int32} {x2 x6 x7 x8 x9 x10 x13 x14 x15 x16 x17 x21 x22 x23 x33 x34 x35 x42 x43 x44 x45 x46 x49 x50 x51 x52 x53 x62 x67 : Nat → Int32} {x32 : Int64} {x36 x38 x55 x57 : Nat → Int64} {Co_evening : Int32} {o : Int32} (h : f_Main_evenings Co_evening = o) : Ct g mX9_evenings 1 0 0 [.ref (ad 0)] (wlX g ad x0 x1 x2 x3 x4 x5 x6 x7 x8 x9 x10 x11 x12 x13 x14 x15 x16 x17 x18 x19 x20 x21 x22 x23 x24 x25 x26 x27 x28 x29 x30 x31 x32 x33 x34 x35 x36 x37 x38 x39 x40 x41 x42 x43 x44 x45 x46 x47 x48 x49 x50 x51 x52 x53 x54 x55 x56 x57 x58 x59 Co_evening x61 x62 x63 x64 x65 x66 x67 ++ t) (Dv (some (.int o)) (wlX g ad x0 x1 x2 x3 x4 x5 x6 x7 x8 x9 x10 x11 x12 x13 x14 x15 x16 x17 x18 x19 x20 x21 x22 x23 x24 x25 x26 x27 x28 x29 x30 x31 x32 x33 x34 x35 x36 x37 x38 x39 x40 x41 x42 x43 x44 x45 x46 x47 x48 x49 x50 x51 x52 x53 x54 x55 x56 x57 x58 x59 Co_evening x61 x62 x63 x64 x65 x66 x67 ++ t)) := Ct.ofR (by decide +kernel) rfl (Nat.le_of_ble_eq_true rfl) (rt_Main_evenings h ⟨rfl, rfl⟩)
set_option maxRecDepth 20000 in
set_option maxHeartbeats 4000000 in
theorem rt_Main_ordersCarriedOut {g : GG} {ad : Nat → Nat} {t : va_W} {x0 x1 x3 x4 x5 x11 x12 x18 x19 x20 x24 x25 x26 x27 x28 x29 x30 x31 x37 x39 x40 x41 x47 x48 x54 x56 x58 x59 x60 x63 x64 x65 x66 : Int32} {x2 x6 x7 x8 x9 x10 x13 x14 x15 x16 x17 x21 x22 x23 x33 x34 x35 x42 x43 x44 x45 x46 x49 x50 x51 x52 x53 x62 x67 : Nat → Int32} {x32 : Int64} {x36 x38 x55 x57 : Nat → Int64} {Co_carriedOut : Int32} {o : Int32} {Q : Rs → va_W → Prop} (h : f_Main_ordersCarriedOut Co_carriedOut = o) (hq : Q (.inl (some (.int o))) (wlX g ad x0 x1 x2 x3 x4 x5 x6 x7 x8 x9 x10 x11 x12 x13 x14 x15 x16 x17 x18 x19 x20 x21 x22 x23 x24 x25 x26 x27 x28 x29 x30 x31 x32 x33 x34 x35 x36 x37 x38 x39 x40 x41 x42 x43 x44 x45 x46 x47 x48 x49 x50 x51 x52 x53 x54 x55 x56 x57 x58 x59 x60 Co_carriedOut x62 x63 x64 x65 x66 x67 ++ t)) : R g mX9_ordersCarriedOut 1 0 0 0 [(0, .ref (ad 0))] [] (wlX g ad x0 x1 x2 x3 x4 x5 x6 x7 x8 x9 x10 x11 x12 x13 x14 x15 x16 x17 x18 x19 x20 x21 x22 x23 x24 x25 x26 x27 x28 x29 x30 x31 x32 x33 x34 x35 x36 x37 x38 x39 x40 x41 x42 x43 x44 x45 x46 x47 x48 x49 x50 x51 x52 x53 x54 x55 x56 x57 x58 x59 x60 Co_carriedOut x62 x63 x64 x65 x66 x67 ++ t) Q := by
  unfold f_Main_ordersCarriedOut at h
  refine r_aload_n 0 dX9_ordersCarriedOut_0 rfl ?_
  refine r_getf (v := .ref (ad 71)) _ dX9_ordersCarriedOut_1 fl_X9_48 lX_0 rfl ?_
  refine r_getf (v := .int Co_carriedOut) _ dX9_ordersCarriedOut_4 fl_X9_116 lX_71 rfl ?_
  refine r_iret dX9_ordersCarriedOut_7 rfl ?_
  have h : _ = o := h
  subst h
  exact hq
theorem ct_Main_ordersCarriedOut {g : GG} {ad : Nat → Nat} {t : va_W} {x0 x1 x3 x4 x5 x11 x12 x18 x19 x20 x24 x25 x26 x27 x28 x29 x30 x31 x37 x39 x40 x41 x47 x48 x54 x56 x58 x59 x60 x63 x64 x65 x66 : Int32} {x2 x6 x7 x8 x9 x10 x13 x14 x15 x16 x17 x21 x22 x23 x33 x34 x35 x42 x43 x44 x45 x46 x49 x50 x51 x52 x53 x62 x67 : Nat → Int32} {x32 : Int64} {x36 x38 x55 x57 : Nat → Int64} {Co_carriedOut : Int32} {o : Int32} (h : f_Main_ordersCarriedOut Co_carriedOut = o) : Ct g mX9_ordersCarriedOut 1 0 0 [.ref (ad 0)] (wlX g ad x0 x1 x2 x3 x4 x5 x6 x7 x8 x9 x10 x11 x12 x13 x14 x15 x16 x17 x18 x19 x20 x21 x22 x23 x24 x25 x26 x27 x28 x29 x30 x31 x32 x33 x34 x35 x36 x37 x38 x39 x40 x41 x42 x43 x44 x45 x46 x47 x48 x49 x50 x51 x52 x53 x54 x55 x56 x57 x58 x59 x60 Co_carriedOut x62 x63 x64 x65 x66 x67 ++ t) (Dv (some (.int o)) (wlX g ad x0 x1 x2 x3 x4 x5 x6 x7 x8 x9 x10 x11 x12 x13 x14 x15 x16 x17 x18 x19 x20 x21 x22 x23 x24 x25 x26 x27 x28 x29 x30 x31 x32 x33 x34 x35 x36 x37 x38 x39 x40 x41 x42 x43 x44 x45 x46 x47 x48 x49 x50 x51 x52 x53 x54 x55 x56 x57 x58 x59 x60 Co_carriedOut x62 x63 x64 x65 x66 x67 ++ t)) := Ct.ofR (by decide +kernel) rfl (Nat.le_of_ble_eq_true rfl) (rt_Main_ordersCarriedOut h ⟨rfl, rfl⟩)
set_option maxRecDepth 20000 in
set_option maxHeartbeats 4000000 in
theorem rt_Main_needClaim {g : GG} {ad : Nat → Nat} {t : va_W} {x0 x1 x3 x4 x11 x12 x18 x19 x20 x24 x25 x26 x27 x28 x29 x30 x31 x37 x39 x40 x41 x47 x48 x54 x56 x58 x59 x60 x61 x63 x64 x65 x66 : Int32} {x2 x6 x7 x8 x9 x10 x13 x14 x15 x16 x17 x21 x22 x23 x33 x34 x35 x42 x43 x44 x45 x46 x49 x50 x51 x52 x53 x62 x67 : Nat → Int32} {x32 : Int64} {x36 x38 x55 x57 : Nat → Int64} {Cl_count : Int32} {p1 : Int32} {o : (Unit) ⊕ String} {Q : Rs → va_W → Prop} (h : f_Main_needClaim Cl_count p1 = some o) (hq1 : ∀ q, o = .inl q → Q (.inl (none)) (wlX g ad x0 x1 x2 x3 x4 Cl_count x6 x7 x8 x9 x10 x11 x12 x13 x14 x15 x16 x17 x18 x19 x20 x21 x22 x23 x24 x25 x26 x27 x28 x29 x30 x31 x32 x33 x34 x35 x36 x37 x38 x39 x40 x41 x42 x43 x44 x45 x46 x47 x48 x49 x50 x51 x52 x53 x54 x55 x56 x57 x58 x59 x60 x61 x62 x63 x64 x65 x66 x67 ++ t)) (hq2 : ∀ E, o = .inr E → Q (.inr E) (wlX g ad x0 x1 x2 x3 x4 Cl_count x6 x7 x8 x9 x10 x11 x12 x13 x14 x15 x16 x17 x18 x19 x20 x21 x22 x23 x24 x25 x26 x27 x28 x29 x30 x31 x32 x33 x34 x35 x36 x37 x38 x39 x40 x41 x42 x43 x44 x45 x46 x47 x48 x49 x50 x51 x52 x53 x54 x55 x56 x57 x58 x59 x60 x61 x62 x63 x64 x65 x66 x67 ++ t)) : R g mX9_needClaim 6 1 6 0 [(0, .ref (ad 0)), (1, .int p1)] [] (wlX g ad x0 x1 x2 x3 x4 Cl_count x6 x7 x8 x9 x10 x11 x12 x13 x14 x15 x16 x17 x18 x19 x20 x21 x22 x23 x24 x25 x26 x27 x28 x29 x30 x31 x32 x33 x34 x35 x36 x37 x38 x39 x40 x41 x42 x43 x44 x45 x46 x47 x48 x49 x50 x51 x52 x53 x54 x55 x56 x57 x58 x59 x60 x61 x62 x63 x64 x65 x66 x67 ++ t) Q := by
  unfold f_Main_needClaim at h
  refine r_iload_n 1 dX9_needClaim_0 rfl ?_
  refine r_if_lt (tgt := 18) dX9_needClaim_1 (by decide) (fun hc768 => ?_) (fun hc768 => ?_)
  · have h := ip (fun z9 => z9) hc768 h
    refine r_throw (x := 0) (y := 0) dX9_needClaim_18 dX9_needClaim_21 dX9_needClaim_22 dX9_needClaim_24 dX9_needClaim_27 kx_X9_149_151_153 rfl (Nat.le_of_ble_eq_true rfl) (by decide) ?_
    have h := Option.some.inj (show some _ = some o from h)
    subst h
    exact hq2 _ rfl
  · have h := iq (fun z9 => z9) hc768 h
    refine r_iload_n 1 dX9_needClaim_4 rfl ?_
    refine r_aload_n 0 dX9_needClaim_5 rfl ?_
    refine r_getf (v := .ref (ad 3)) _ dX9_needClaim_6 fl_X9_35 lX_0 rfl ?_
    refine r_getf (v := .ref (ad 4)) _ dX9_needClaim_9 fl_X9_104 lX_3 rfl ?_
    refine r_getf (v := .int Cl_count) _ dX9_needClaim_12 fl_X9_108 lX_4 rfl ?_
    refine r_icmp_lt (tgt := 28) dX9_needClaim_15 (by decide) (fun hc769 => ?_) (fun hc769 => ?_)
    · have h := ip (fun z9 => z9) hc769 h
      refine r_vret dX9_needClaim_28 rfl ?_
      have h := Option.some.inj (show some _ = some o from h)
      subst h
      exact hq1 _ rfl
    · have h := iq (fun z9 => z9) hc769 h
      refine r_throw (x := 0) (y := 0) dX9_needClaim_18 dX9_needClaim_21 dX9_needClaim_22 dX9_needClaim_24 dX9_needClaim_27 kx_X9_149_151_153 rfl (Nat.le_of_ble_eq_true rfl) (by decide) ?_
      have h := Option.some.inj (show some _ = some o from h)
      subst h
      exact hq2 _ rfl
theorem ct_Main_needClaim {g : GG} {ad : Nat → Nat} {t : va_W} {x0 x1 x3 x4 x11 x12 x18 x19 x20 x24 x25 x26 x27 x28 x29 x30 x31 x37 x39 x40 x41 x47 x48 x54 x56 x58 x59 x60 x61 x63 x64 x65 x66 : Int32} {x2 x6 x7 x8 x9 x10 x13 x14 x15 x16 x17 x21 x22 x23 x33 x34 x35 x42 x43 x44 x45 x46 x49 x50 x51 x52 x53 x62 x67 : Nat → Int32} {x32 : Int64} {x36 x38 x55 x57 : Nat → Int64} {Cl_count : Int32} {p1 : Int32} {o : (Unit) ⊕ String} (h : f_Main_needClaim Cl_count p1 = some o) : Ct g mX9_needClaim 6 1 6 [.ref (ad 0), .int p1] (wlX g ad x0 x1 x2 x3 x4 Cl_count x6 x7 x8 x9 x10 x11 x12 x13 x14 x15 x16 x17 x18 x19 x20 x21 x22 x23 x24 x25 x26 x27 x28 x29 x30 x31 x32 x33 x34 x35 x36 x37 x38 x39 x40 x41 x42 x43 x44 x45 x46 x47 x48 x49 x50 x51 x52 x53 x54 x55 x56 x57 x58 x59 x60 x61 x62 x63 x64 x65 x66 x67 ++ t) (Dt o (fun q => none) (fun q => (wlX g ad x0 x1 x2 x3 x4 Cl_count x6 x7 x8 x9 x10 x11 x12 x13 x14 x15 x16 x17 x18 x19 x20 x21 x22 x23 x24 x25 x26 x27 x28 x29 x30 x31 x32 x33 x34 x35 x36 x37 x38 x39 x40 x41 x42 x43 x44 x45 x46 x47 x48 x49 x50 x51 x52 x53 x54 x55 x56 x57 x58 x59 x60 x61 x62 x63 x64 x65 x66 x67 ++ t)) (wlX g ad x0 x1 x2 x3 x4 Cl_count x6 x7 x8 x9 x10 x11 x12 x13 x14 x15 x16 x17 x18 x19 x20 x21 x22 x23 x24 x25 x26 x27 x28 x29 x30 x31 x32 x33 x34 x35 x36 x37 x38 x39 x40 x41 x42 x43 x44 x45 x46 x47 x48 x49 x50 x51 x52 x53 x54 x55 x56 x57 x58 x59 x60 x61 x62 x63 x64 x65 x66 x67 ++ t)) := Ct.ofR (by decide +kernel) rfl (Nat.le_of_ble_eq_true rfl) (rt_Main_needClaim h (fun q e => by subst e; exact ⟨rfl, rfl⟩) (fun E e => by subst e; exact ⟨rfl, rfl⟩))
set_option maxRecDepth 20000 in
set_option maxHeartbeats 4000000 in
theorem rt_Main_tellerOf {g : GG} {ad : Nat → Nat} {t : va_W} {x0 x1 x3 x4 x11 x12 x18 x19 x20 x24 x25 x26 x27 x28 x29 x30 x31 x37 x39 x40 x41 x47 x48 x54 x56 x58 x59 x60 x61 x63 x64 x65 x66 : Int32} {x2 x7 x8 x9 x10 x13 x14 x15 x16 x17 x21 x22 x23 x33 x34 x35 x42 x43 x44 x45 x46 x49 x50 x51 x52 x53 x62 x67 : Nat → Int32} {x32 : Int64} {x36 x38 x55 x57 : Nat → Int64} {Cl_count : Int32} {Cl_tellers : Nat → Int32} {p1 : Int32} {o : (Int32) ⊕ String} {Q : Rs → va_W → Prop} (h : f_Main_tellerOf Cl_count Cl_tellers p1 = some o) (hq1 : ∀ q, o = .inl q → Q (.inl (some (.int q))) (wlX g ad x0 x1 x2 x3 x4 Cl_count Cl_tellers x7 x8 x9 x10 x11 x12 x13 x14 x15 x16 x17 x18 x19 x20 x21 x22 x23 x24 x25 x26 x27 x28 x29 x30 x31 x32 x33 x34 x35 x36 x37 x38 x39 x40 x41 x42 x43 x44 x45 x46 x47 x48 x49 x50 x51 x52 x53 x54 x55 x56 x57 x58 x59 x60 x61 x62 x63 x64 x65 x66 x67 ++ t)) (hq2 : ∀ E, o = .inr E → Q (.inr E) (wlX g ad x0 x1 x2 x3 x4 Cl_count Cl_tellers x7 x8 x9 x10 x11 x12 x13 x14 x15 x16 x17 x18 x19 x20 x21 x22 x23 x24 x25 x26 x27 x28 x29 x30 x31 x32 x33 x34 x35 x36 x37 x38 x39 x40 x41 x42 x43 x44 x45 x46 x47 x48 x49 x50 x51 x52 x53 x54 x55 x56 x57 x58 x59 x60 x61 x62 x63 x64 x65 x66 x67 ++ t)) : R g mX9_tellerOf 7 1 6 0 [(0, .ref (ad 0)), (1, .int p1)] [] (wlX g ad x0 x1 x2 x3 x4 Cl_count Cl_tellers x7 x8 x9 x10 x11 x12 x13 x14 x15 x16 x17 x18 x19 x20 x21 x22 x23 x24 x25 x26 x27 x28 x29 x30 x31 x32 x33 x34 x35 x36 x37 x38 x39 x40 x41 x42 x43 x44 x45 x46 x47 x48 x49 x50 x51 x52 x53 x54 x55 x56 x57 x58 x59 x60 x61 x62 x63 x64 x65 x66 x67 ++ t) Q := by
  unfold f_Main_tellerOf at h
  refine r_aload_n 0 dX9_tellerOf_0 rfl ?_
  refine r_iload_n 1 dX9_tellerOf_1 rfl ?_
  obtain ⟨r770, hc771, h⟩ := ob (fun z9 => z9) rfl h
  rcases r770 with q772 | E773
  · refine c_Xv (rest := []) 0 0 _ dX9_tellerOf_2 kv_X9_119 (ct_Main_needClaim hc771) rfl rfl lX_0 rfl (Nat.le_of_ble_eq_true rfl) (by decide) (by decide) ?_
    try dsimp only [Sum.elim_inl, Sum.elim_inr] at h
    refine r_aload_n 0 dX9_tellerOf_5 rfl ?_
    refine r_getf (v := .ref (ad 3)) _ dX9_tellerOf_6 fl_X9_35 lX_0 rfl ?_
    refine r_getf (v := .ref (ad 4)) _ dX9_tellerOf_9 fl_X9_104 lX_3 rfl ?_
    refine r_getf (v := .ref (ad 5)) _ dX9_tellerOf_12 fl_X9_122 lX_4 rfl ?_
    refine r_iload_n 1 dX9_tellerOf_15 rfl ?_
    refine c_V (rest := []) 0 0 _ dX9_tellerOf_16 kv_X9_125 (ct_Row_get lX_5 lX_6 (Nat.le_of_ble_eq_true rfl)) rfl rfl lX_5 rfl (Nat.le_of_ble_eq_true rfl) (by decide) (by decide) ?_
    refine r_iret dX9_tellerOf_19 rfl ?_
    have h := Option.some.inj (show some _ = some o from h)
    subst h
    exact hq1 _ rfl
  · refine c_Xt (rest := []) 0 0 _ dX9_tellerOf_2 kv_X9_119 (ct_Main_needClaim hc771) rfl rfl lX_0 rfl (Nat.le_of_ble_eq_true rfl) (by decide) (by decide) ?_
    refine rx_out rfl ?_
    have h := Option.some.inj (show some _ = some o from h)
    subst h
    exact hq2 _ rfl
theorem ct_Main_tellerOf {g : GG} {ad : Nat → Nat} {t : va_W} {x0 x1 x3 x4 x11 x12 x18 x19 x20 x24 x25 x26 x27 x28 x29 x30 x31 x37 x39 x40 x41 x47 x48 x54 x56 x58 x59 x60 x61 x63 x64 x65 x66 : Int32} {x2 x7 x8 x9 x10 x13 x14 x15 x16 x17 x21 x22 x23 x33 x34 x35 x42 x43 x44 x45 x46 x49 x50 x51 x52 x53 x62 x67 : Nat → Int32} {x32 : Int64} {x36 x38 x55 x57 : Nat → Int64} {Cl_count : Int32} {Cl_tellers : Nat → Int32} {p1 : Int32} {o : (Int32) ⊕ String} (h : f_Main_tellerOf Cl_count Cl_tellers p1 = some o) : Ct g mX9_tellerOf 7 1 6 [.ref (ad 0), .int p1] (wlX g ad x0 x1 x2 x3 x4 Cl_count Cl_tellers x7 x8 x9 x10 x11 x12 x13 x14 x15 x16 x17 x18 x19 x20 x21 x22 x23 x24 x25 x26 x27 x28 x29 x30 x31 x32 x33 x34 x35 x36 x37 x38 x39 x40 x41 x42 x43 x44 x45 x46 x47 x48 x49 x50 x51 x52 x53 x54 x55 x56 x57 x58 x59 x60 x61 x62 x63 x64 x65 x66 x67 ++ t) (Dt o (fun q => some (.int q)) (fun q => (wlX g ad x0 x1 x2 x3 x4 Cl_count Cl_tellers x7 x8 x9 x10 x11 x12 x13 x14 x15 x16 x17 x18 x19 x20 x21 x22 x23 x24 x25 x26 x27 x28 x29 x30 x31 x32 x33 x34 x35 x36 x37 x38 x39 x40 x41 x42 x43 x44 x45 x46 x47 x48 x49 x50 x51 x52 x53 x54 x55 x56 x57 x58 x59 x60 x61 x62 x63 x64 x65 x66 x67 ++ t)) (wlX g ad x0 x1 x2 x3 x4 Cl_count Cl_tellers x7 x8 x9 x10 x11 x12 x13 x14 x15 x16 x17 x18 x19 x20 x21 x22 x23 x24 x25 x26 x27 x28 x29 x30 x31 x32 x33 x34 x35 x36 x37 x38 x39 x40 x41 x42 x43 x44 x45 x46 x47 x48 x49 x50 x51 x52 x53 x54 x55 x56 x57 x58 x59 x60 x61 x62 x63 x64 x65 x66 x67 ++ t)) := Ct.ofR (by decide +kernel) rfl (Nat.le_of_ble_eq_true rfl) (rt_Main_tellerOf h (fun q e => by subst e; exact ⟨rfl, rfl⟩) (fun E e => by subst e; exact ⟨rfl, rfl⟩))
set_option maxRecDepth 20000 in
set_option maxHeartbeats 4000000 in
theorem rt_Main_kindOf {g : GG} {ad : Nat → Nat} {t : va_W} {x0 x1 x3 x4 x11 x12 x18 x19 x20 x24 x25 x26 x27 x28 x29 x30 x31 x37 x39 x40 x41 x47 x48 x54 x56 x58 x59 x60 x61 x63 x64 x65 x66 : Int32} {x2 x6 x8 x9 x10 x13 x14 x15 x16 x17 x21 x22 x23 x33 x34 x35 x42 x43 x44 x45 x46 x49 x50 x51 x52 x53 x62 x67 : Nat → Int32} {x32 : Int64} {x36 x38 x55 x57 : Nat → Int64} {Cl_count : Int32} {Cl_kinds : Nat → Int32} {p1 : Int32} {o : (Int32) ⊕ String} {Q : Rs → va_W → Prop} (h : f_Main_kindOf Cl_count Cl_kinds p1 = some o) (hq1 : ∀ q, o = .inl q → Q (.inl (some (.int q))) (wlX g ad x0 x1 x2 x3 x4 Cl_count x6 Cl_kinds x8 x9 x10 x11 x12 x13 x14 x15 x16 x17 x18 x19 x20 x21 x22 x23 x24 x25 x26 x27 x28 x29 x30 x31 x32 x33 x34 x35 x36 x37 x38 x39 x40 x41 x42 x43 x44 x45 x46 x47 x48 x49 x50 x51 x52 x53 x54 x55 x56 x57 x58 x59 x60 x61 x62 x63 x64 x65 x66 x67 ++ t)) (hq2 : ∀ E, o = .inr E → Q (.inr E) (wlX g ad x0 x1 x2 x3 x4 Cl_count x6 Cl_kinds x8 x9 x10 x11 x12 x13 x14 x15 x16 x17 x18 x19 x20 x21 x22 x23 x24 x25 x26 x27 x28 x29 x30 x31 x32 x33 x34 x35 x36 x37 x38 x39 x40 x41 x42 x43 x44 x45 x46 x47 x48 x49 x50 x51 x52 x53 x54 x55 x56 x57 x58 x59 x60 x61 x62 x63 x64 x65 x66 x67 ++ t)) : R g mX9_kindOf 7 1 6 0 [(0, .ref (ad 0)), (1, .int p1)] [] (wlX g ad x0 x1 x2 x3 x4 Cl_count x6 Cl_kinds x8 x9 x10 x11 x12 x13 x14 x15 x16 x17 x18 x19 x20 x21 x22 x23 x24 x25 x26 x27 x28 x29 x30 x31 x32 x33 x34 x35 x36 x37 x38 x39 x40 x41 x42 x43 x44 x45 x46 x47 x48 x49 x50 x51 x52 x53 x54 x55 x56 x57 x58 x59 x60 x61 x62 x63 x64 x65 x66 x67 ++ t) Q := by
  unfold f_Main_kindOf at h
  refine r_aload_n 0 dX9_kindOf_0 rfl ?_
  refine r_iload_n 1 dX9_kindOf_1 rfl ?_
  obtain ⟨r774, hc775, h⟩ := ob (fun z9 => z9) rfl h
  rcases r774 with q776 | E777
  · refine c_Xv (rest := []) 0 0 _ dX9_kindOf_2 kv_X9_119 (ct_Main_needClaim hc775) rfl rfl lX_0 rfl (Nat.le_of_ble_eq_true rfl) (by decide) (by decide) ?_
    try dsimp only [Sum.elim_inl, Sum.elim_inr] at h
    refine r_aload_n 0 dX9_kindOf_5 rfl ?_
    refine r_getf (v := .ref (ad 3)) _ dX9_kindOf_6 fl_X9_35 lX_0 rfl ?_
    refine r_getf (v := .ref (ad 4)) _ dX9_kindOf_9 fl_X9_104 lX_3 rfl ?_
    refine r_getf (v := .ref (ad 7)) _ dX9_kindOf_12 fl_X9_128 lX_4 rfl ?_
    refine r_iload_n 1 dX9_kindOf_15 rfl ?_
    refine c_V (rest := []) 0 0 _ dX9_kindOf_16 kv_X9_125 (ct_Row_get lX_7 lX_8 (Nat.le_of_ble_eq_true rfl)) rfl rfl lX_7 rfl (Nat.le_of_ble_eq_true rfl) (by decide) (by decide) ?_
    refine r_iret dX9_kindOf_19 rfl ?_
    have h := Option.some.inj (show some _ = some o from h)
    subst h
    exact hq1 _ rfl
  · refine c_Xt (rest := []) 0 0 _ dX9_kindOf_2 kv_X9_119 (ct_Main_needClaim hc775) rfl rfl lX_0 rfl (Nat.le_of_ble_eq_true rfl) (by decide) (by decide) ?_
    refine rx_out rfl ?_
    have h := Option.some.inj (show some _ = some o from h)
    subst h
    exact hq2 _ rfl
theorem ct_Main_kindOf {g : GG} {ad : Nat → Nat} {t : va_W} {x0 x1 x3 x4 x11 x12 x18 x19 x20 x24 x25 x26 x27 x28 x29 x30 x31 x37 x39 x40 x41 x47 x48 x54 x56 x58 x59 x60 x61 x63 x64 x65 x66 : Int32} {x2 x6 x8 x9 x10 x13 x14 x15 x16 x17 x21 x22 x23 x33 x34 x35 x42 x43 x44 x45 x46 x49 x50 x51 x52 x53 x62 x67 : Nat → Int32} {x32 : Int64} {x36 x38 x55 x57 : Nat → Int64} {Cl_count : Int32} {Cl_kinds : Nat → Int32} {p1 : Int32} {o : (Int32) ⊕ String} (h : f_Main_kindOf Cl_count Cl_kinds p1 = some o) : Ct g mX9_kindOf 7 1 6 [.ref (ad 0), .int p1] (wlX g ad x0 x1 x2 x3 x4 Cl_count x6 Cl_kinds x8 x9 x10 x11 x12 x13 x14 x15 x16 x17 x18 x19 x20 x21 x22 x23 x24 x25 x26 x27 x28 x29 x30 x31 x32 x33 x34 x35 x36 x37 x38 x39 x40 x41 x42 x43 x44 x45 x46 x47 x48 x49 x50 x51 x52 x53 x54 x55 x56 x57 x58 x59 x60 x61 x62 x63 x64 x65 x66 x67 ++ t) (Dt o (fun q => some (.int q)) (fun q => (wlX g ad x0 x1 x2 x3 x4 Cl_count x6 Cl_kinds x8 x9 x10 x11 x12 x13 x14 x15 x16 x17 x18 x19 x20 x21 x22 x23 x24 x25 x26 x27 x28 x29 x30 x31 x32 x33 x34 x35 x36 x37 x38 x39 x40 x41 x42 x43 x44 x45 x46 x47 x48 x49 x50 x51 x52 x53 x54 x55 x56 x57 x58 x59 x60 x61 x62 x63 x64 x65 x66 x67 ++ t)) (wlX g ad x0 x1 x2 x3 x4 Cl_count x6 Cl_kinds x8 x9 x10 x11 x12 x13 x14 x15 x16 x17 x18 x19 x20 x21 x22 x23 x24 x25 x26 x27 x28 x29 x30 x31 x32 x33 x34 x35 x36 x37 x38 x39 x40 x41 x42 x43 x44 x45 x46 x47 x48 x49 x50 x51 x52 x53 x54 x55 x56 x57 x58 x59 x60 x61 x62 x63 x64 x65 x66 x67 ++ t)) := Ct.ofR (by decide +kernel) rfl (Nat.le_of_ble_eq_true rfl) (rt_Main_kindOf h (fun q e => by subst e; exact ⟨rfl, rfl⟩) (fun E e => by subst e; exact ⟨rfl, rfl⟩))
set_option maxRecDepth 20000 in
set_option maxHeartbeats 4000000 in
theorem rt_Main_eventOf {g : GG} {ad : Nat → Nat} {t : va_W} {x0 x1 x3 x4 x11 x12 x18 x19 x20 x24 x25 x26 x27 x28 x29 x30 x31 x37 x39 x40 x41 x47 x48 x54 x56 x58 x59 x60 x61 x63 x64 x65 x66 : Int32} {x2 x6 x7 x9 x10 x13 x14 x15 x16 x17 x21 x22 x23 x33 x34 x35 x42 x43 x44 x45 x46 x49 x50 x51 x52 x53 x62 x67 : Nat → Int32} {x32 : Int64} {x36 x38 x55 x57 : Nat → Int64} {Cl_count : Int32} {Cl_events : Nat → Int32} {p1 : Int32} {o : (Int32) ⊕ String} {Q : Rs → va_W → Prop} (h : f_Main_eventOf Cl_count Cl_events p1 = some o) (hq1 : ∀ q, o = .inl q → Q (.inl (some (.int q))) (wlX g ad x0 x1 x2 x3 x4 Cl_count x6 x7 Cl_events x9 x10 x11 x12 x13 x14 x15 x16 x17 x18 x19 x20 x21 x22 x23 x24 x25 x26 x27 x28 x29 x30 x31 x32 x33 x34 x35 x36 x37 x38 x39 x40 x41 x42 x43 x44 x45 x46 x47 x48 x49 x50 x51 x52 x53 x54 x55 x56 x57 x58 x59 x60 x61 x62 x63 x64 x65 x66 x67 ++ t)) (hq2 : ∀ E, o = .inr E → Q (.inr E) (wlX g ad x0 x1 x2 x3 x4 Cl_count x6 x7 Cl_events x9 x10 x11 x12 x13 x14 x15 x16 x17 x18 x19 x20 x21 x22 x23 x24 x25 x26 x27 x28 x29 x30 x31 x32 x33 x34 x35 x36 x37 x38 x39 x40 x41 x42 x43 x44 x45 x46 x47 x48 x49 x50 x51 x52 x53 x54 x55 x56 x57 x58 x59 x60 x61 x62 x63 x64 x65 x66 x67 ++ t)) : R g mX9_eventOf 7 1 6 0 [(0, .ref (ad 0)), (1, .int p1)] [] (wlX g ad x0 x1 x2 x3 x4 Cl_count x6 x7 Cl_events x9 x10 x11 x12 x13 x14 x15 x16 x17 x18 x19 x20 x21 x22 x23 x24 x25 x26 x27 x28 x29 x30 x31 x32 x33 x34 x35 x36 x37 x38 x39 x40 x41 x42 x43 x44 x45 x46 x47 x48 x49 x50 x51 x52 x53 x54 x55 x56 x57 x58 x59 x60 x61 x62 x63 x64 x65 x66 x67 ++ t) Q := by
  unfold f_Main_eventOf at h
  refine r_aload_n 0 dX9_eventOf_0 rfl ?_
  refine r_iload_n 1 dX9_eventOf_1 rfl ?_
  obtain ⟨r778, hc779, h⟩ := ob (fun z9 => z9) rfl h
  rcases r778 with q780 | E781
  · refine c_Xv (rest := []) 0 0 _ dX9_eventOf_2 kv_X9_119 (ct_Main_needClaim hc779) rfl rfl lX_0 rfl (Nat.le_of_ble_eq_true rfl) (by decide) (by decide) ?_
    try dsimp only [Sum.elim_inl, Sum.elim_inr] at h
    refine r_aload_n 0 dX9_eventOf_5 rfl ?_
    refine r_getf (v := .ref (ad 3)) _ dX9_eventOf_6 fl_X9_35 lX_0 rfl ?_
    refine r_getf (v := .ref (ad 4)) _ dX9_eventOf_9 fl_X9_104 lX_3 rfl ?_
    refine r_getf (v := .ref (ad 9)) _ dX9_eventOf_12 fl_X9_131 lX_4 rfl ?_
    refine r_iload_n 1 dX9_eventOf_15 rfl ?_
    refine c_V (rest := []) 0 0 _ dX9_eventOf_16 kv_X9_125 (ct_Row_get lX_9 lX_10 (Nat.le_of_ble_eq_true rfl)) rfl rfl lX_9 rfl (Nat.le_of_ble_eq_true rfl) (by decide) (by decide) ?_
    refine r_iret dX9_eventOf_19 rfl ?_
    have h := Option.some.inj (show some _ = some o from h)
    subst h
    exact hq1 _ rfl
  · refine c_Xt (rest := []) 0 0 _ dX9_eventOf_2 kv_X9_119 (ct_Main_needClaim hc779) rfl rfl lX_0 rfl (Nat.le_of_ble_eq_true rfl) (by decide) (by decide) ?_
    refine rx_out rfl ?_
    have h := Option.some.inj (show some _ = some o from h)
    subst h
    exact hq2 _ rfl
theorem ct_Main_eventOf {g : GG} {ad : Nat → Nat} {t : va_W} {x0 x1 x3 x4 x11 x12 x18 x19 x20 x24 x25 x26 x27 x28 x29 x30 x31 x37 x39 x40 x41 x47 x48 x54 x56 x58 x59 x60 x61 x63 x64 x65 x66 : Int32} {x2 x6 x7 x9 x10 x13 x14 x15 x16 x17 x21 x22 x23 x33 x34 x35 x42 x43 x44 x45 x46 x49 x50 x51 x52 x53 x62 x67 : Nat → Int32} {x32 : Int64} {x36 x38 x55 x57 : Nat → Int64} {Cl_count : Int32} {Cl_events : Nat → Int32} {p1 : Int32} {o : (Int32) ⊕ String} (h : f_Main_eventOf Cl_count Cl_events p1 = some o) : Ct g mX9_eventOf 7 1 6 [.ref (ad 0), .int p1] (wlX g ad x0 x1 x2 x3 x4 Cl_count x6 x7 Cl_events x9 x10 x11 x12 x13 x14 x15 x16 x17 x18 x19 x20 x21 x22 x23 x24 x25 x26 x27 x28 x29 x30 x31 x32 x33 x34 x35 x36 x37 x38 x39 x40 x41 x42 x43 x44 x45 x46 x47 x48 x49 x50 x51 x52 x53 x54 x55 x56 x57 x58 x59 x60 x61 x62 x63 x64 x65 x66 x67 ++ t) (Dt o (fun q => some (.int q)) (fun q => (wlX g ad x0 x1 x2 x3 x4 Cl_count x6 x7 Cl_events x9 x10 x11 x12 x13 x14 x15 x16 x17 x18 x19 x20 x21 x22 x23 x24 x25 x26 x27 x28 x29 x30 x31 x32 x33 x34 x35 x36 x37 x38 x39 x40 x41 x42 x43 x44 x45 x46 x47 x48 x49 x50 x51 x52 x53 x54 x55 x56 x57 x58 x59 x60 x61 x62 x63 x64 x65 x66 x67 ++ t)) (wlX g ad x0 x1 x2 x3 x4 Cl_count x6 x7 Cl_events x9 x10 x11 x12 x13 x14 x15 x16 x17 x18 x19 x20 x21 x22 x23 x24 x25 x26 x27 x28 x29 x30 x31 x32 x33 x34 x35 x36 x37 x38 x39 x40 x41 x42 x43 x44 x45 x46 x47 x48 x49 x50 x51 x52 x53 x54 x55 x56 x57 x58 x59 x60 x61 x62 x63 x64 x65 x66 x67 ++ t)) := Ct.ofR (by decide +kernel) rfl (Nat.le_of_ble_eq_true rfl) (rt_Main_eventOf h (fun q e => by subst e; exact ⟨rfl, rfl⟩) (fun E e => by subst e; exact ⟨rfl, rfl⟩))
set_option maxRecDepth 20000 in
set_option maxHeartbeats 4000000 in
theorem rt_Main_secondEventOf {g : GG} {ad : Nat → Nat} {t : va_W} {x0 x1 x3 x4 x11 x12 x18 x19 x20 x24 x25 x26 x27 x28 x29 x30 x31 x37 x39 x40 x41 x47 x48 x54 x56 x58 x59 x60 x61 x63 x64 x65 x66 : Int32} {x2 x6 x8 x10 x13 x14 x15 x16 x17 x21 x22 x23 x33 x34 x35 x42 x43 x44 x45 x46 x49 x50 x51 x52 x53 x62 x67 : Nat → Int32} {x32 : Int64} {x36 x38 x55 x57 : Nat → Int64} {Cl_count : Int32} {Cl_kinds : Nat → Int32} {Cl_firsts : Nat → Int32} {p1 : Int32} {o : (Int32) ⊕ String} {Q : Rs → va_W → Prop} (h : f_Main_secondEventOf Cl_count Cl_kinds Cl_firsts p1 = some o) (hq1 : ∀ q, o = .inl q → Q (.inl (some (.int q))) (wlX g ad x0 x1 x2 x3 x4 Cl_count x6 Cl_kinds x8 Cl_firsts x10 x11 x12 x13 x14 x15 x16 x17 x18 x19 x20 x21 x22 x23 x24 x25 x26 x27 x28 x29 x30 x31 x32 x33 x34 x35 x36 x37 x38 x39 x40 x41 x42 x43 x44 x45 x46 x47 x48 x49 x50 x51 x52 x53 x54 x55 x56 x57 x58 x59 x60 x61 x62 x63 x64 x65 x66 x67 ++ t)) (hq2 : ∀ E, o = .inr E → Q (.inr E) (wlX g ad x0 x1 x2 x3 x4 Cl_count x6 Cl_kinds x8 Cl_firsts x10 x11 x12 x13 x14 x15 x16 x17 x18 x19 x20 x21 x22 x23 x24 x25 x26 x27 x28 x29 x30 x31 x32 x33 x34 x35 x36 x37 x38 x39 x40 x41 x42 x43 x44 x45 x46 x47 x48 x49 x50 x51 x52 x53 x54 x55 x56 x57 x58 x59 x60 x61 x62 x63 x64 x65 x66 x67 ++ t)) : R g mX9_secondEventOf 7 2 12 0 [(0, .ref (ad 0)), (1, .int p1)] [] (wlX g ad x0 x1 x2 x3 x4 Cl_count x6 Cl_kinds x8 Cl_firsts x10 x11 x12 x13 x14 x15 x16 x17 x18 x19 x20 x21 x22 x23 x24 x25 x26 x27 x28 x29 x30 x31 x32 x33 x34 x35 x36 x37 x38 x39 x40 x41 x42 x43 x44 x45 x46 x47 x48 x49 x50 x51 x52 x53 x54 x55 x56 x57 x58 x59 x60 x61 x62 x63 x64 x65 x66 x67 ++ t) Q := by
  unfold f_Main_secondEventOf at h
  refine r_aload_n 0 dX9_secondEventOf_0 rfl ?_
  refine r_iload_n 1 dX9_secondEventOf_1 rfl ?_
  obtain ⟨r782, hc783, h⟩ := ob (fun z9 => z9) rfl h
  rcases r782 with q784 | E786
  · refine c_Xv (rest := []) 1 6 _ dX9_secondEventOf_2 kv_X9_119 (ct_Main_needClaim hc783) rfl rfl lX_0 rfl (Nat.le_of_ble_eq_true rfl) (by decide) (by decide) ?_
    try dsimp only [Sum.elim_inl, Sum.elim_inr] at h
    refine r_aload_n 0 dX9_secondEventOf_5 rfl ?_
    refine r_getf (v := .ref (ad 3)) _ dX9_secondEventOf_6 fl_X9_35 lX_0 rfl ?_
    refine r_getf (v := .ref (ad 4)) _ dX9_secondEventOf_9 fl_X9_104 lX_3 rfl ?_
    refine r_getf (v := .ref (ad 7)) _ dX9_secondEventOf_12 fl_X9_128 lX_4 rfl ?_
    refine r_iload_n 1 dX9_secondEventOf_15 rfl ?_
    refine c_V (rest := []) 1 6 _ dX9_secondEventOf_16 kv_X9_125 (ct_Row_get lX_7 lX_8 (Nat.le_of_ble_eq_true rfl)) rfl rfl lX_7 rfl (Nat.le_of_ble_eq_true rfl) (by decide) (by decide) ?_
    refine r_if_ne (tgt := 32) dX9_secondEventOf_19 (by decide) (fun hc785 => ?_) (fun hc785 => ?_)
    · have h := iq (fun z9 => z9) hc785 h
      refine r_aload_n 0 dX9_secondEventOf_32 rfl ?_
      refine r_getf (v := .ref (ad 3)) _ dX9_secondEventOf_33 fl_X9_35 lX_0 rfl ?_
      refine r_getf (v := .ref (ad 4)) _ dX9_secondEventOf_36 fl_X9_104 lX_3 rfl ?_
      refine r_getf (v := .ref (ad 11)) _ dX9_secondEventOf_39 fl_X9_136 lX_4 rfl ?_
      refine r_iload_n 1 dX9_secondEventOf_42 rfl ?_
      refine c_V (rest := []) 1 6 _ dX9_secondEventOf_43 kv_X9_125 (ct_Row_get lX_11 lX_12 (Nat.le_of_ble_eq_true rfl)) rfl rfl lX_11 rfl (Nat.le_of_ble_eq_true rfl) (by decide) (by decide) ?_
      refine r_iret dX9_secondEventOf_46 rfl ?_
      have h := Option.some.inj (show some _ = some o from h)
      subst h
      exact hq1 _ rfl
    · have h := ip (fun z9 => z9) hc785 h
      refine r_throw (x := 0) (y := 0) dX9_secondEventOf_22 dX9_secondEventOf_25 dX9_secondEventOf_26 dX9_secondEventOf_28 dX9_secondEventOf_31 kx_X9_62_134_66 rfl (Nat.le_of_ble_eq_true rfl) (by decide) ?_
      have h := Option.some.inj (show some _ = some o from h)
      subst h
      exact hq2 _ rfl
  · refine c_Xt (rest := []) 1 6 _ dX9_secondEventOf_2 kv_X9_119 (ct_Main_needClaim hc783) rfl rfl lX_0 rfl (Nat.le_of_ble_eq_true rfl) (by decide) (by decide) ?_
    refine rx_out rfl ?_
    have h := Option.some.inj (show some _ = some o from h)
    subst h
    exact hq2 _ rfl
theorem ct_Main_secondEventOf {g : GG} {ad : Nat → Nat} {t : va_W} {x0 x1 x3 x4 x11 x12 x18 x19 x20 x24 x25 x26 x27 x28 x29 x30 x31 x37 x39 x40 x41 x47 x48 x54 x56 x58 x59 x60 x61 x63 x64 x65 x66 : Int32} {x2 x6 x8 x10 x13 x14 x15 x16 x17 x21 x22 x23 x33 x34 x35 x42 x43 x44 x45 x46 x49 x50 x51 x52 x53 x62 x67 : Nat → Int32} {x32 : Int64} {x36 x38 x55 x57 : Nat → Int64} {Cl_count : Int32} {Cl_kinds : Nat → Int32} {Cl_firsts : Nat → Int32} {p1 : Int32} {o : (Int32) ⊕ String} (h : f_Main_secondEventOf Cl_count Cl_kinds Cl_firsts p1 = some o) : Ct g mX9_secondEventOf 7 2 12 [.ref (ad 0), .int p1] (wlX g ad x0 x1 x2 x3 x4 Cl_count x6 Cl_kinds x8 Cl_firsts x10 x11 x12 x13 x14 x15 x16 x17 x18 x19 x20 x21 x22 x23 x24 x25 x26 x27 x28 x29 x30 x31 x32 x33 x34 x35 x36 x37 x38 x39 x40 x41 x42 x43 x44 x45 x46 x47 x48 x49 x50 x51 x52 x53 x54 x55 x56 x57 x58 x59 x60 x61 x62 x63 x64 x65 x66 x67 ++ t) (Dt o (fun q => some (.int q)) (fun q => (wlX g ad x0 x1 x2 x3 x4 Cl_count x6 Cl_kinds x8 Cl_firsts x10 x11 x12 x13 x14 x15 x16 x17 x18 x19 x20 x21 x22 x23 x24 x25 x26 x27 x28 x29 x30 x31 x32 x33 x34 x35 x36 x37 x38 x39 x40 x41 x42 x43 x44 x45 x46 x47 x48 x49 x50 x51 x52 x53 x54 x55 x56 x57 x58 x59 x60 x61 x62 x63 x64 x65 x66 x67 ++ t)) (wlX g ad x0 x1 x2 x3 x4 Cl_count x6 Cl_kinds x8 Cl_firsts x10 x11 x12 x13 x14 x15 x16 x17 x18 x19 x20 x21 x22 x23 x24 x25 x26 x27 x28 x29 x30 x31 x32 x33 x34 x35 x36 x37 x38 x39 x40 x41 x42 x43 x44 x45 x46 x47 x48 x49 x50 x51 x52 x53 x54 x55 x56 x57 x58 x59 x60 x61 x62 x63 x64 x65 x66 x67 ++ t)) := Ct.ofR (by decide +kernel) rfl (Nat.le_of_ble_eq_true rfl) (rt_Main_secondEventOf h (fun q e => by subst e; exact ⟨rfl, rfl⟩) (fun E e => by subst e; exact ⟨rfl, rfl⟩))
set_option maxRecDepth 20000 in
set_option maxHeartbeats 4000000 in
theorem rt_Main_needHours {g : GG} {ad : Nat → Nat} {t : va_W} {x0 x1 x3 x4 x5 x11 x12 x18 x19 x20 x24 x25 x26 x27 x28 x29 x30 x31 x37 x39 x40 x41 x47 x48 x54 x56 x58 x59 x60 x61 x63 x64 x65 x66 : Int32} {x2 x6 x8 x9 x10 x13 x14 x15 x16 x17 x21 x22 x23 x33 x34 x35 x42 x43 x44 x45 x46 x49 x50 x51 x52 x53 x62 x67 : Nat → Int32} {x32 : Int64} {x36 x38 x55 x57 : Nat → Int64} {Cl_kinds : Nat → Int32} {p1 : Int32} {o : (Unit) ⊕ String} {Q : Rs → va_W → Prop} (h : f_Main_needHours Cl_kinds p1 = some o) (hq1 : ∀ q, o = .inl q → Q (.inl (none)) (wlX g ad x0 x1 x2 x3 x4 x5 x6 Cl_kinds x8 x9 x10 x11 x12 x13 x14 x15 x16 x17 x18 x19 x20 x21 x22 x23 x24 x25 x26 x27 x28 x29 x30 x31 x32 x33 x34 x35 x36 x37 x38 x39 x40 x41 x42 x43 x44 x45 x46 x47 x48 x49 x50 x51 x52 x53 x54 x55 x56 x57 x58 x59 x60 x61 x62 x63 x64 x65 x66 x67 ++ t)) (hq2 : ∀ E, o = .inr E → Q (.inr E) (wlX g ad x0 x1 x2 x3 x4 x5 x6 Cl_kinds x8 x9 x10 x11 x12 x13 x14 x15 x16 x17 x18 x19 x20 x21 x22 x23 x24 x25 x26 x27 x28 x29 x30 x31 x32 x33 x34 x35 x36 x37 x38 x39 x40 x41 x42 x43 x44 x45 x46 x47 x48 x49 x50 x51 x52 x53 x54 x55 x56 x57 x58 x59 x60 x61 x62 x63 x64 x65 x66 x67 ++ t)) : R g mX9_needHours 6 1 6 0 [(0, .ref (ad 0)), (1, .int p1)] [] (wlX g ad x0 x1 x2 x3 x4 x5 x6 Cl_kinds x8 x9 x10 x11 x12 x13 x14 x15 x16 x17 x18 x19 x20 x21 x22 x23 x24 x25 x26 x27 x28 x29 x30 x31 x32 x33 x34 x35 x36 x37 x38 x39 x40 x41 x42 x43 x44 x45 x46 x47 x48 x49 x50 x51 x52 x53 x54 x55 x56 x57 x58 x59 x60 x61 x62 x63 x64 x65 x66 x67 ++ t) Q := by
  unfold f_Main_needHours at h
  refine r_aload_n 0 dX9_needHours_0 rfl ?_
  refine r_getf (v := .ref (ad 3)) _ dX9_needHours_1 fl_X9_35 lX_0 rfl ?_
  refine r_getf (v := .ref (ad 4)) _ dX9_needHours_4 fl_X9_104 lX_3 rfl ?_
  refine r_getf (v := .ref (ad 7)) _ dX9_needHours_7 fl_X9_128 lX_4 rfl ?_
  refine r_iload_n 1 dX9_needHours_10 rfl ?_
  refine c_V (rest := []) 1 6 _ dX9_needHours_11 kv_X9_125 (ct_Row_get lX_7 lX_8 (Nat.le_of_ble_eq_true rfl)) rfl rfl lX_7 rfl (Nat.le_of_ble_eq_true rfl) (by decide) (by decide) ?_
  refine r_if_eq (tgt := 27) dX9_needHours_14 (by decide) (fun hc787 => ?_) (fun hc787 => ?_)
  · have h := ip (fun z9 => z9) hc787 h
    refine r_vret dX9_needHours_27 rfl ?_
    have h := Option.some.inj (show some _ = some o from h)
    subst h
    exact hq1 _ rfl
  · have h := iq (fun z9 => z9) hc787 h
    refine r_throw (x := 0) (y := 0) dX9_needHours_17 dX9_needHours_20 dX9_needHours_21 dX9_needHours_23 dX9_needHours_26 kx_X9_62_154_66 rfl (Nat.le_of_ble_eq_true rfl) (by decide) ?_
    have h := Option.some.inj (show some _ = some o from h)
    subst h
    exact hq2 _ rfl
theorem ct_Main_needHours {g : GG} {ad : Nat → Nat} {t : va_W} {x0 x1 x3 x4 x5 x11 x12 x18 x19 x20 x24 x25 x26 x27 x28 x29 x30 x31 x37 x39 x40 x41 x47 x48 x54 x56 x58 x59 x60 x61 x63 x64 x65 x66 : Int32} {x2 x6 x8 x9 x10 x13 x14 x15 x16 x17 x21 x22 x23 x33 x34 x35 x42 x43 x44 x45 x46 x49 x50 x51 x52 x53 x62 x67 : Nat → Int32} {x32 : Int64} {x36 x38 x55 x57 : Nat → Int64} {Cl_kinds : Nat → Int32} {p1 : Int32} {o : (Unit) ⊕ String} (h : f_Main_needHours Cl_kinds p1 = some o) : Ct g mX9_needHours 6 1 6 [.ref (ad 0), .int p1] (wlX g ad x0 x1 x2 x3 x4 x5 x6 Cl_kinds x8 x9 x10 x11 x12 x13 x14 x15 x16 x17 x18 x19 x20 x21 x22 x23 x24 x25 x26 x27 x28 x29 x30 x31 x32 x33 x34 x35 x36 x37 x38 x39 x40 x41 x42 x43 x44 x45 x46 x47 x48 x49 x50 x51 x52 x53 x54 x55 x56 x57 x58 x59 x60 x61 x62 x63 x64 x65 x66 x67 ++ t) (Dt o (fun q => none) (fun q => (wlX g ad x0 x1 x2 x3 x4 x5 x6 Cl_kinds x8 x9 x10 x11 x12 x13 x14 x15 x16 x17 x18 x19 x20 x21 x22 x23 x24 x25 x26 x27 x28 x29 x30 x31 x32 x33 x34 x35 x36 x37 x38 x39 x40 x41 x42 x43 x44 x45 x46 x47 x48 x49 x50 x51 x52 x53 x54 x55 x56 x57 x58 x59 x60 x61 x62 x63 x64 x65 x66 x67 ++ t)) (wlX g ad x0 x1 x2 x3 x4 x5 x6 Cl_kinds x8 x9 x10 x11 x12 x13 x14 x15 x16 x17 x18 x19 x20 x21 x22 x23 x24 x25 x26 x27 x28 x29 x30 x31 x32 x33 x34 x35 x36 x37 x38 x39 x40 x41 x42 x43 x44 x45 x46 x47 x48 x49 x50 x51 x52 x53 x54 x55 x56 x57 x58 x59 x60 x61 x62 x63 x64 x65 x66 x67 ++ t)) := Ct.ofR (by decide +kernel) rfl (Nat.le_of_ble_eq_true rfl) (rt_Main_needHours h (fun q e => by subst e; exact ⟨rfl, rfl⟩) (fun E e => by subst e; exact ⟨rfl, rfl⟩))
