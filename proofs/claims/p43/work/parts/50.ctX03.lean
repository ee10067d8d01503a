set_option maxRecDepth 20000 in
set_option maxHeartbeats 4000000 in
theorem rt_To_split {g : GG} {ad : Nat → Nat} {t : va_W} {x0 x1 x3 x4 x5 x11 x12 x18 x19 x20 x24 x25 x26 x27 x28 x39 x40 x41 x47 x48 x54 x56 x58 x59 x60 x61 x63 x64 x65 x66 : Int32} {x6 x7 x8 x9 x10 x13 x14 x15 x16 x17 x21 x22 x23 x42 x43 x44 x45 x46 x49 x50 x51 x52 x53 x62 x67 : Nat → Int32} {x55 x57 : Nat → Int64} {N : Nat} {Main_tape : Nat → Int32} {To_size : Int32} {To_place : Int32} {To_number : Int32} {To_word : Int64} {To_kinds : Nat → Int32} {To_starts : Nat → Int32} {To_numbers : Nat → Int32} {To_words : Nat → Int64} {Na_count : Int32} {Na_words : Nat → Int64} {p1 : Int32} {o : Int32 × Int32 × Int32 × Int64 × (Nat → Int32) × (Nat → Int32) × (Nat → Int32) × (Nat → Int64)} {Q : Rs → va_W → Prop} (h : f_To_split N Main_tape To_size To_place To_number To_word To_kinds To_starts To_numbers To_words Na_count Na_words p1 = some o) (hq : Q (.inl (none)) (wlX g ad x0 x1 Main_tape x3 x4 x5 x6 x7 x8 x9 x10 x11 x12 x13 x14 x15 x16 x17 x18 x19 x20 x21 x22 x23 x24 x25 x26 x27 x28 o.1 o.2.1 o.2.2.1 o.2.2.2.1 o.2.2.2.2.1 o.2.2.2.2.2.1 o.2.2.2.2.2.2.1 o.2.2.2.2.2.2.2 Na_count Na_words x39 x40 x41 x42 x43 x44 x45 x46 x47 x48 x49 x50 x51 x52 x53 x54 x55 x56 x57 x58 x59 x60 x61 x62 x63 x64 x65 x66 x67 ++ t)) : R g mX7_split 6 0 0 0 [(0, .ref (ad 34)), (1, .int p1)] [] (wlX g ad x0 x1 Main_tape x3 x4 x5 x6 x7 x8 x9 x10 x11 x12 x13 x14 x15 x16 x17 x18 x19 x20 x21 x22 x23 x24 x25 x26 x27 x28 To_size To_place To_number To_word To_kinds To_starts To_numbers To_words Na_count Na_words x39 x40 x41 x42 x43 x44 x45 x46 x47 x48 x49 x50 x51 x52 x53 x54 x55 x56 x57 x58 x59 x60 x61 x62 x63 x64 x65 x66 x67 ++ t) Q := by
  unfold f_To_split at h
  refine r_aload_n 0 dX7_split_0 rfl ?_
  refine r_iload_n 1 dX7_split_1 rfl ?_
  refine r_putf _ dX7_split_2 fl_X7_63 lX_34 (Nat.le_of_ble_eq_true rfl) rfl rfl (sX_29 _) ?_
  refine r_aload_n 0 dX7_split_5 rfl ?_
  refine r_iconst (v := (0 : Int32)) dX7_split_6 (by decide) ?_
  refine r_putf _ dX7_split_7 fl_X7_67 lX_34 (Nat.le_of_ble_eq_true rfl) rfl rfl (sX_30 _) ?_
  refine r_sipush (v := (130 : Int32)) dX7_split_10 (by decide) ?_
  refine r_istore_n [(2, .int (130 : Int32)), (0, .ref (ad 34)), (1, .int p1)] dX7_split_13 (by decide) rfl ?_
  refine r_iconst (v := (0 : Int32)) dX7_split_14 (by decide) ?_
  refine r_istore_n [(3, .int (0 : Int32)), (2, .int (130 : Int32)), (0, .ref (ad 34)), (1, .int p1)] dX7_split_15 (by decide) rfl ?_
  refine r_ls [2, 1, 0] (ls2 := [(0, .ref (ad 34)), (2, .int (130 : Int32)), (3, .int (0 : Int32))]) rfl ?_
  have L1 : ∀ (n1 : Nat) (l2_1 : Int32) (l3_1 : Int32) (To_place_1 : Int32) (To_number_1 : Int32) (To_word_1 : Int64) (To_kinds_1 : Nat → Int32) (To_starts_1 : Nat → Int32) (To_numbers_1 : Nat → Int32) (To_words_1 : Nat → Int64), (fun z9 => z9) (lpS (f_To_split_L16 N Main_tape Na_count Na_words p1) none n1 (l2_1, l3_1, To_place_1, To_number_1, To_word_1, To_kinds_1, To_starts_1, To_numbers_1, To_words_1)) = some o → R g mX7_split 6 0 0 16 [(0, .ref (ad 34)), (2, .int l2_1), (3, .int l3_1)] [] (wlX g ad x0 x1 Main_tape x3 x4 x5 x6 x7 x8 x9 x10 x11 x12 x13 x14 x15 x16 x17 x18 x19 x20 x21 x22 x23 x24 x25 x26 x27 x28 p1 To_place_1 To_number_1 To_word_1 To_kinds_1 To_starts_1 To_numbers_1 To_words_1 Na_count Na_words x39 x40 x41 x42 x43 x44 x45 x46 x47 x48 x49 x50 x51 x52 x53 x54 x55 x56 x57 x58 x59 x60 x61 x62 x63 x64 x65 x66 x67 ++ t) Q := by
    intro n1
    induction n1 with
    | zero => intro l2_1 l3_1 To_place_1 To_number_1 To_word_1 To_kinds_1 To_starts_1 To_numbers_1 To_words_1 h; exact nomatch (show (none : Option _) = some _ from h)
    | succ n1 ih1 =>
      intro l2_1 l3_1 To_place_1 To_number_1 To_word_1 To_kinds_1 To_starts_1 To_numbers_1 To_words_1 h
      have h : (fun z9 => (lC (f_To_split_L16 N Main_tape Na_count Na_words p1) none n1 z9)) (f_To_split_L16 N Main_tape Na_count Na_words p1 (l2_1, l3_1, To_place_1, To_number_1, To_word_1, To_kinds_1, To_starts_1, To_numbers_1, To_words_1)) = some o := h
      unfold f_To_split_L16 at h
      try dsimp only at h
      refine r_iload_n 2 dX7_split_16 rfl ?_
      refine r_sipush (v := (400 : Int32)) dX7_split_17 (by decide) ?_
      refine r_icmp_gt (tgt := 122) dX7_split_20 (by decide) (fun hc359 => ?_) (fun hc359 => ?_)
      · have h := ip (fun z9 => (lC (f_To_split_L16 N Main_tape Na_count Na_words p1) none n1 z9)) hc359 h
        refine r_vret dX7_split_122 rfl ?_
        have h := Option.some.inj (show some _ = some o from h)
        subst h
        exact hq
      · have h := iq (fun z9 => (lC (f_To_split_L16 N Main_tape Na_count Na_words p1) none n1 z9)) hc359 h
        refine r_iload_n 1 dX7_split_23 rfl ?_
        refine r_sipush (v := (132 : Int32)) dX7_split_24 (by decide) ?_
        refine r_icmp_eq (tgt := 122) dX7_split_27 (by decide) (fun hc360 => ?_) (fun hc360 => ?_)
        · have h := ip (fun z9 => (lC (f_To_split_L16 N Main_tape Na_count Na_words p1) none n1 z9)) hc360 h
          refine r_vret dX7_split_122 rfl ?_
          have h := Option.some.inj (show some _ = some o from h)
          subst h
          exact hq
        · have h := iq (fun z9 => (lC (f_To_split_L16 N Main_tape Na_count Na_words p1) none n1 z9)) hc360 h
          refine r_iload_n 1 dX7_split_30 rfl ?_
          refine r_sipush (v := (133 : Int32)) dX7_split_31 (by decide) ?_
          refine r_icmp_eq (tgt := 122) dX7_split_34 (by decide) (fun hc361 => ?_) (fun hc361 => ?_)
          · have h := ip (fun z9 => (lC (f_To_split_L16 N Main_tape Na_count Na_words p1) none n1 z9)) hc361 h
            refine r_vret dX7_split_122 rfl ?_
            have h := Option.some.inj (show some _ = some o from h)
            subst h
            exact hq
          · have h := iq (fun z9 => (lC (f_To_split_L16 N Main_tape Na_count Na_words p1) none n1 z9)) hc361 h
            refine r_aload_n 0 dX7_split_37 rfl ?_
            obtain ⟨r362, hc363, h⟩ := ob (fun z9 => (lC (f_To_split_L16 N Main_tape Na_count Na_words p1) none n1 z9)) rfl h
            refine c_Vv (rest := []) 0 0 _ dX7_split_38 kv_X7_70 (ct_To_skipBlanks hc363) rfl rfl lX_34 rfl (Nat.le_of_ble_eq_true rfl) (by decide) (by decide) ?_
            refine r_aload_n 0 dX7_split_41 rfl ?_
            refine r_getf (v := .ref (ad 37)) _ dX7_split_42 fl_X7_23 lX_34 rfl ?_
            refine r_iload_n 2 dX7_split_45 rfl ?_
            refine r_aload_n 0 dX7_split_46 rfl ?_
            refine r_getf (v := .int r362) _ dX7_split_47 fl_X7_67 lX_34 rfl ?_
            refine c_Vv (rest := []) 0 0 _ dX7_split_50 kv_X7_73 (ct_Row_set lX_37 lX_38 (sX_34 _) (Nat.le_of_ble_eq_true rfl)) rfl rfl lX_37 rfl (Nat.le_of_ble_eq_true rfl) (by decide) (by decide) ?_
            refine r_aload_n 0 dX7_split_53 rfl ?_
            obtain ⟨r364, hc365, h⟩ := ob (fun z9 => (lC (f_To_split_L16 N Main_tape Na_count Na_words p1) none n1 z9)) rfl h
            refine c_V (rest := []) 0 0 _ dX7_split_54 kv_X7_77 (ct_To_nextKind hc365) rfl rfl lX_34 rfl (Nat.le_of_ble_eq_true rfl) (by decide) (by decide) ?_
            refine r_istore_n [(2, .int r364.1), (0, .ref (ad 34)), (3, .int l3_1)] dX7_split_57 (by decide) rfl ?_
            refine r_iload_n 2 dX7_split_58 rfl ?_
            refine r_sipush (v := (400 : Int32)) dX7_split_59 (by decide) ?_
            refine r_icmp_ne (tgt := 76) dX7_split_62 (by decide) (fun hc366 => ?_) (fun hc366 => ?_)
            · have h := iq (fun z9 => (lC (f_To_split_L16 N Main_tape Na_count Na_words p1) none n1 z9)) hc366 h
              refine r_aload_n 1 dX7_split_76 rfl ?_
              refine r_getf (v := .ref (ad 35)) _ dX7_split_77 fl_X7_20 lX_34 rfl ?_
              refine r_iload_n 2 dX7_split_80 rfl ?_
              refine r_iload_n 0 dX7_split_81 rfl ?_
              refine c_Vv (rest := []) 0 0 _ dX7_split_82 kv_X7_73 (ct_Row_set lX_35 lX_36 (sX_33 _) (Nat.le_of_ble_eq_true rfl)) rfl rfl lX_35 rfl (Nat.le_of_ble_eq_true rfl) (by decide) (by decide) ?_
              refine r_aload_n 1 dX7_split_85 rfl ?_
              refine r_getf (v := .ref (ad 39)) _ dX7_split_86 fl_X7_26 lX_34 rfl ?_
              refine r_iload_n 2 dX7_split_89 rfl ?_
              refine r_aload_n 1 dX7_split_90 rfl ?_
              refine r_getf (v := .int r364.2.2.1) _ dX7_split_91 fl_X7_80 lX_34 rfl ?_
              refine c_Vv (rest := []) 0 0 _ dX7_split_94 kv_X7_73 (ct_Row_set lX_39 lX_40 (sX_35 _) (Nat.le_of_ble_eq_true rfl)) rfl rfl lX_39 rfl (Nat.le_of_ble_eq_true rfl) (by decide) (by decide) ?_
              refine r_iload_n 2 dX7_split_97 rfl ?_
              refine r_aload_n 1 dX7_split_98 rfl ?_
              refine r_getf (v := .ref (ad 41)) _ dX7_split_99 fl_X7_29 lX_34 rfl ?_
              refine r_alenL (v := (401 : Int32)) _ dX7_split_102 lX_41 (by decide) ?_
              refine r_icmp_ge (tgt := 116) dX7_split_103 (by decide) (fun hc367 => ?_) (fun hc367 => ?_)
              · have h := ip (fun z9 => (lC (f_To_split_L16 N Main_tape Na_count Na_words p1) none n1 z9)) hc367 h
                refine r_iinc (v2 := (l3_1 + (1 : Int32))) 2 [(3, .int (l3_1 + (1 : Int32))), (2, .int r364.1), (0, .ref (ad 34))] dX7_split_116 rfl rfl (by decide) rfl ?_
                refine r_goto (tgt := 16) dX7_split_119 (by decide) ?_
                refine r_ls [2, 1, 0] (ls2 := [(0, .ref (ad 34)), (2, .int r364.1), (3, .int (l3_1 + (1 : Int32)))]) rfl ?_
                exact ih1 r364.1 (l3_1 + (1 : Int32)) r364.2.1 r364.2.2.1 r364.2.2.2 (rset 401 To_kinds_1 l3_1 r364.1) (rset 401 To_starts_1 l3_1 r362) (rset 401 To_numbers_1 l3_1 r364.2.2.1) To_words_1 h
              · have h := iq (fun z9 => (lC (f_To_split_L16 N Main_tape Na_count Na_words p1) none n1 z9)) hc367 h
                refine r_aload_n 1 dX7_split_106 rfl ?_
                refine r_getf (v := .ref (ad 41)) _ dX7_split_107 fl_X7_29 lX_34 rfl ?_
                refine r_iload_n 2 dX7_split_110 rfl ?_
                refine r_aload_n 1 dX7_split_111 rfl ?_
                refine r_getf (v := .long r364.2.2.2) _ dX7_split_112 fl_X7_83 lX_34 rfl ?_
                obtain ⟨hb368, h⟩ := gd (fun z9 => (lC (f_To_split_L16 N Main_tape Na_count Na_words p1) none n1 z9)) rfl h
                refine r_last _ dX7_split_115 lX_41 hb368 (sX_36 _) ?_
                refine r_iinc (v2 := (l3_1 + (1 : Int32))) 2 [(3, .int (l3_1 + (1 : Int32))), (2, .int r364.1), (0, .ref (ad 34))] dX7_split_116 rfl rfl (by decide) rfl ?_
                refine r_goto (tgt := 16) dX7_split_119 (by decide) ?_
                refine r_ls [2, 1, 0] (ls2 := [(0, .ref (ad 34)), (2, .int r364.1), (3, .int (l3_1 + (1 : Int32)))]) rfl ?_
                exact ih1 r364.1 (l3_1 + (1 : Int32)) r364.2.1 r364.2.2.1 r364.2.2.2 (rset 401 To_kinds_1 l3_1 r364.1) (rset 401 To_starts_1 l3_1 r362) (rset 401 To_numbers_1 l3_1 r364.2.2.1) (vp_updL To_words_1 l3_1.toNatClampNeg r364.2.2.2) h
            · have h := ip (fun z9 => (lC (f_To_split_L16 N Main_tape Na_count Na_words p1) none n1 z9)) hc366 h
              refine r_iload_n 0 dX7_split_65 rfl ?_
              refine r_sipush (v := (132 : Int32)) dX7_split_66 (by decide) ?_
              refine r_icmp_eq (tgt := 76) dX7_split_69 (by decide) (fun hc369 => ?_) (fun hc369 => ?_)
              · have h := ip (fun z9 => (lC (f_To_split_L16 N Main_tape Na_count Na_words p1) none n1 z9)) hc369 h
                refine r_aload_n 1 dX7_split_76 rfl ?_
                refine r_getf (v := .ref (ad 35)) _ dX7_split_77 fl_X7_20 lX_34 rfl ?_
                refine r_iload_n 2 dX7_split_80 rfl ?_
                refine r_iload_n 0 dX7_split_81 rfl ?_
                refine c_Vv (rest := []) 0 0 _ dX7_split_82 kv_X7_73 (ct_Row_set lX_35 lX_36 (sX_33 _) (Nat.le_of_ble_eq_true rfl)) rfl rfl lX_35 rfl (Nat.le_of_ble_eq_true rfl) (by decide) (by decide) ?_
                refine r_aload_n 1 dX7_split_85 rfl ?_
                refine r_getf (v := .ref (ad 39)) _ dX7_split_86 fl_X7_26 lX_34 rfl ?_
                refine r_iload_n 2 dX7_split_89 rfl ?_
                refine r_aload_n 1 dX7_split_90 rfl ?_
                refine r_getf (v := .int r364.2.2.1) _ dX7_split_91 fl_X7_80 lX_34 rfl ?_
                refine c_Vv (rest := []) 0 0 _ dX7_split_94 kv_X7_73 (ct_Row_set lX_39 lX_40 (sX_35 _) (Nat.le_of_ble_eq_true rfl)) rfl rfl lX_39 rfl (Nat.le_of_ble_eq_true rfl) (by decide) (by decide) ?_
                refine r_iload_n 2 dX7_split_97 rfl ?_
                refine r_aload_n 1 dX7_split_98 rfl ?_
                refine r_getf (v := .ref (ad 41)) _ dX7_split_99 fl_X7_29 lX_34 rfl ?_
                refine r_alenL (v := (401 : Int32)) _ dX7_split_102 lX_41 (by decide) ?_
                refine r_icmp_ge (tgt := 116) dX7_split_103 (by decide) (fun hc370 => ?_) (fun hc370 => ?_)
                · have h := ip (fun z9 => (lC (f_To_split_L16 N Main_tape Na_count Na_words p1) none n1 z9)) hc370 h
                  refine r_iinc (v2 := (l3_1 + (1 : Int32))) 2 [(3, .int (l3_1 + (1 : Int32))), (2, .int r364.1), (0, .ref (ad 34))] dX7_split_116 rfl rfl (by decide) rfl ?_
                  refine r_goto (tgt := 16) dX7_split_119 (by decide) ?_
                  refine r_ls [2, 1, 0] (ls2 := [(0, .ref (ad 34)), (2, .int r364.1), (3, .int (l3_1 + (1 : Int32)))]) rfl ?_
                  exact ih1 r364.1 (l3_1 + (1 : Int32)) r364.2.1 r364.2.2.1 r364.2.2.2 (rset 401 To_kinds_1 l3_1 r364.1) (rset 401 To_starts_1 l3_1 r362) (rset 401 To_numbers_1 l3_1 r364.2.2.1) To_words_1 h
                · have h := iq (fun z9 => (lC (f_To_split_L16 N Main_tape Na_count Na_words p1) none n1 z9)) hc370 h
                  refine r_aload_n 1 dX7_split_106 rfl ?_
                  refine r_getf (v := .ref (ad 41)) _ dX7_split_107 fl_X7_29 lX_34 rfl ?_
                  refine r_iload_n 2 dX7_split_110 rfl ?_
                  refine r_aload_n 1 dX7_split_111 rfl ?_
                  refine r_getf (v := .long r364.2.2.2) _ dX7_split_112 fl_X7_83 lX_34 rfl ?_
                  obtain ⟨hb371, h⟩ := gd (fun z9 => (lC (f_To_split_L16 N Main_tape Na_count Na_words p1) none n1 z9)) rfl h
                  refine r_last _ dX7_split_115 lX_41 hb371 (sX_36 _) ?_
                  refine r_iinc (v2 := (l3_1 + (1 : Int32))) 2 [(3, .int (l3_1 + (1 : Int32))), (2, .int r364.1), (0, .ref (ad 34))] dX7_split_116 rfl rfl (by decide) rfl ?_
                  refine r_goto (tgt := 16) dX7_split_119 (by decide) ?_
                  refine r_ls [2, 1, 0] (ls2 := [(0, .ref (ad 34)), (2, .int r364.1), (3, .int (l3_1 + (1 : Int32)))]) rfl ?_
                  exact ih1 r364.1 (l3_1 + (1 : Int32)) r364.2.1 r364.2.2.1 r364.2.2.2 (rset 401 To_kinds_1 l3_1 r364.1) (rset 401 To_starts_1 l3_1 r362) (rset 401 To_numbers_1 l3_1 r364.2.2.1) (vp_updL To_words_1 l3_1.toNatClampNeg r364.2.2.2) h
              · have h := iq (fun z9 => (lC (f_To_split_L16 N Main_tape Na_count Na_words p1) none n1 z9)) hc369 h
                refine r_sipush (v := (133 : Int32)) dX7_split_72 (by decide) ?_
                refine r_istore_n [(2, .int (133 : Int32)), (0, .ref (ad 34)), (3, .int l3_1)] dX7_split_75 (by decide) rfl ?_
                refine r_aload_n 1 dX7_split_76 rfl ?_
                refine r_getf (v := .ref (ad 35)) _ dX7_split_77 fl_X7_20 lX_34 rfl ?_
                refine r_iload_n 2 dX7_split_80 rfl ?_
                refine r_iload_n 0 dX7_split_81 rfl ?_
                refine c_Vv (rest := []) 0 0 _ dX7_split_82 kv_X7_73 (ct_Row_set lX_35 lX_36 (sX_33 _) (Nat.le_of_ble_eq_true rfl)) rfl rfl lX_35 rfl (Nat.le_of_ble_eq_true rfl) (by decide) (by decide) ?_
                refine r_aload_n 1 dX7_split_85 rfl ?_
                refine r_getf (v := .ref (ad 39)) _ dX7_split_86 fl_X7_26 lX_34 rfl ?_
                refine r_iload_n 2 dX7_split_89 rfl ?_
                refine r_aload_n 1 dX7_split_90 rfl ?_
                refine r_getf (v := .int r364.2.2.1) _ dX7_split_91 fl_X7_80 lX_34 rfl ?_
                refine c_Vv (rest := []) 0 0 _ dX7_split_94 kv_X7_73 (ct_Row_set lX_39 lX_40 (sX_35 _) (Nat.le_of_ble_eq_true rfl)) rfl rfl lX_39 rfl (Nat.le_of_ble_eq_true rfl) (by decide) (by decide) ?_
                refine r_iload_n 2 dX7_split_97 rfl ?_
                refine r_aload_n 1 dX7_split_98 rfl ?_
                refine r_getf (v := .ref (ad 41)) _ dX7_split_99 fl_X7_29 lX_34 rfl ?_
                refine r_alenL (v := (401 : Int32)) _ dX7_split_102 lX_41 (by decide) ?_
                refine r_icmp_ge (tgt := 116) dX7_split_103 (by decide) (fun hc372 => ?_) (fun hc372 => ?_)
                · have h := ip (fun z9 => (lC (f_To_split_L16 N Main_tape Na_count Na_words p1) none n1 z9)) hc372 h
                  refine r_iinc (v2 := (l3_1 + (1 : Int32))) 2 [(3, .int (l3_1 + (1 : Int32))), (2, .int (133 : Int32)), (0, .ref (ad 34))] dX7_split_116 rfl rfl (by decide) rfl ?_
                  refine r_goto (tgt := 16) dX7_split_119 (by decide) ?_
                  refine r_ls [2, 1, 0] (ls2 := [(0, .ref (ad 34)), (2, .int (133 : Int32)), (3, .int (l3_1 + (1 : Int32)))]) rfl ?_
                  exact ih1 (133 : Int32) (l3_1 + (1 : Int32)) r364.2.1 r364.2.2.1 r364.2.2.2 (rset 401 To_kinds_1 l3_1 (133 : Int32)) (rset 401 To_starts_1 l3_1 r362) (rset 401 To_numbers_1 l3_1 r364.2.2.1) To_words_1 h
                · have h := iq (fun z9 => (lC (f_To_split_L16 N Main_tape Na_count Na_words p1) none n1 z9)) hc372 h
                  refine r_aload_n 1 dX7_split_106 rfl ?_
                  refine r_getf (v := .ref (ad 41)) _ dX7_split_107 fl_X7_29 lX_34 rfl ?_
                  refine r_iload_n 2 dX7_split_110 rfl ?_
                  refine r_aload_n 1 dX7_split_111 rfl ?_
                  refine r_getf (v := .long r364.2.2.2) _ dX7_split_112 fl_X7_83 lX_34 rfl ?_
                  obtain ⟨hb373, h⟩ := gd (fun z9 => (lC (f_To_split_L16 N Main_tape Na_count Na_words p1) none n1 z9)) rfl h
                  refine r_last _ dX7_split_115 lX_41 hb373 (sX_36 _) ?_
                  refine r_iinc (v2 := (l3_1 + (1 : Int32))) 2 [(3, .int (l3_1 + (1 : Int32))), (2, .int (133 : Int32)), (0, .ref (ad 34))] dX7_split_116 rfl rfl (by decide) rfl ?_
                  refine r_goto (tgt := 16) dX7_split_119 (by decide) ?_
                  refine r_ls [2, 1, 0] (ls2 := [(0, .ref (ad 34)), (2, .int (133 : Int32)), (3, .int (l3_1 + (1 : Int32)))]) rfl ?_
                  exact ih1 (133 : Int32) (l3_1 + (1 : Int32)) r364.2.1 r364.2.2.1 r364.2.2.2 (rset 401 To_kinds_1 l3_1 (133 : Int32)) (rset 401 To_starts_1 l3_1 r362) (rset 401 To_numbers_1 l3_1 r364.2.2.1) (vp_updL To_words_1 l3_1.toNatClampNeg r364.2.2.2) h
  exact L1 _ (130 : Int32) (0 : Int32) (0 : Int32) To_number To_word To_kinds To_starts To_numbers To_words h
theorem ct_To_split {g : GG} {ad : Nat → Nat} {t : va_W} {x0 x1 x3 x4 x5 x11 x12 x18 x19 x20 x24 x25 x26 x27 x28 x39 x40 x41 x47 x48 x54 x56 x58 x59 x60 x61 x63 x64 x65 x66 : Int32} {x6 x7 x8 x9 x10 x13 x14 x15 x16 x17 x21 x22 x23 x42 x43 x44 x45 x46 x49 x50 x51 x52 x53 x62 x67 : Nat → Int32} {x55 x57 : Nat → Int64} {N : Nat} {Main_tape : Nat → Int32} {To_size : Int32} {To_place : Int32} {To_number : Int32} {To_word : Int64} {To_kinds : Nat → Int32} {To_starts : Nat → Int32} {To_numbers : Nat → Int32} {To_words : Nat → Int64} {Na_count : Int32} {Na_words : Nat → Int64} {p1 : Int32} {o : Int32 × Int32 × Int32 × Int64 × (Nat → Int32) × (Nat → Int32) × (Nat → Int32) × (Nat → Int64)} (h : f_To_split N Main_tape To_size To_place To_number To_word To_kinds To_starts To_numbers To_words Na_count Na_words p1 = some o) : Ct g mX7_split 6 0 0 [.ref (ad 34), .int p1] (wlX g ad x0 x1 Main_tape x3 x4 x5 x6 x7 x8 x9 x10 x11 x12 x13 x14 x15 x16 x17 x18 x19 x20 x21 x22 x23 x24 x25 x26 x27 x28 To_size To_place To_number To_word To_kinds To_starts To_numbers To_words Na_count Na_words x39 x40 x41 x42 x43 x44 x45 x46 x47 x48 x49 x50 x51 x52 x53 x54 x55 x56 x57 x58 x59 x60 x61 x62 x63 x64 x65 x66 x67 ++ t) (Dv (none) (wlX g ad x0 x1 Main_tape x3 x4 x5 x6 x7 x8 x9 x10 x11 x12 x13 x14 x15 x16 x17 x18 x19 x20 x21 x22 x23 x24 x25 x26 x27 x28 o.1 o.2.1 o.2.2.1 o.2.2.2.1 o.2.2.2.2.1 o.2.2.2.2.2.1 o.2.2.2.2.2.2.1 o.2.2.2.2.2.2.2 Na_count Na_words x39 x40 x41 x42 x43 x44 x45 x46 x47 x48 x49 x50 x51 x52 x53 x54 x55 x56 x57 x58 x59 x60 x61 x62 x63 x64 x65 x66 x67 ++ t)) := Ct.ofR (by decide +kernel) rfl (Nat.le_of_ble_eq_true rfl) (rt_To_split h ⟨rfl, rfl⟩)
set_option maxRecDepth 20000 in
set_option maxHeartbeats 4000000 in
theorem rt_Tap_clear {g : GG} {ad : Nat → Nat} {t : va_W} {x0 x1 x3 x4 x5 x11 x12 x18 x19 x20 x24 x25 x26 x27 x28 x29 x30 x31 x37 x54 x56 x58 x59 x60 x61 x63 x64 x65 x66 : Int32} {x2 x6 x7 x8 x9 x10 x13 x14 x15 x16 x17 x21 x22 x23 x33 x34 x35 x42 x43 x44 x45 x46 x49 x50 x51 x52 x53 x62 x67 : Nat → Int32} {x32 : Int64} {x36 x38 x55 x57 : Nat → Int64} {Tap_eventCount : Int32} {Tap_tellerCount : Int32} {Cl_count : Int32} {Or_count : Int32} {Or_stepCount : Int32} {o : Int32 × Int32 × Int32 × Int32 × Int32} {Q : Rs → va_W → Prop} (h : f_Tap_clear Tap_eventCount Tap_tellerCount Cl_count Or_count Or_stepCount = some o) (hq : Q (.inl (none)) (wlX g ad x0 x1 x2 x3 x4 x5 x6 x7 x8 x9 x10 x11 x12 x13 x14 x15 x16 x17 x18 x19 x20 x21 x22 x23 x24 x25 x26 x27 x28 x29 x30 x31 x32 x33 x34 x35 x36 x37 x38 o.1 o.2.1 o.2.2.1 x42 x43 x44 x45 x46 o.2.2.2.1 o.2.2.2.2 x49 x50 x51 x52 x53 x54 x55 x56 x57 x58 x59 x60 x61 x62 x63 x64 x65 x66 x67 ++ t)) : R g mX6_clear 1 0 0 0 [(0, .ref (ad 44))] [] (wlX g ad x0 x1 x2 x3 x4 x5 x6 x7 x8 x9 x10 x11 x12 x13 x14 x15 x16 x17 x18 x19 x20 x21 x22 x23 x24 x25 x26 x27 x28 x29 x30 x31 x32 x33 x34 x35 x36 x37 x38 Tap_eventCount Tap_tellerCount Cl_count x42 x43 x44 x45 x46 Or_count Or_stepCount x49 x50 x51 x52 x53 x54 x55 x56 x57 x58 x59 x60 x61 x62 x63 x64 x65 x66 x67 ++ t) Q := by
  unfold f_Tap_clear at h
  refine r_aload_n 0 dX6_clear_0 rfl ?_
  refine r_getf (v := .ref (ad 45)) _ dX6_clear_1 fl_X6_10 lX_44 rfl ?_
  refine r_iconst (v := (0 : Int32)) dX6_clear_4 (by decide) ?_
  refine r_putf _ dX6_clear_5 fl_X6_23 lX_45 (Nat.le_of_ble_eq_true rfl) rfl rfl (sX_41 _) ?_
  refine r_aload_n 0 dX6_clear_8 rfl ?_
  refine r_getf (v := .ref (ad 56)) _ dX6_clear_9 fl_X6_19 lX_44 rfl ?_
  refine r_iconst (v := (0 : Int32)) dX6_clear_12 (by decide) ?_
  refine r_putf _ dX6_clear_13 fl_X6_27 lX_56 (Nat.le_of_ble_eq_true rfl) rfl rfl (sX_47 _) ?_
  refine r_aload_n 0 dX6_clear_16 rfl ?_
  refine r_getf (v := .ref (ad 56)) _ dX6_clear_17 fl_X6_19 lX_44 rfl ?_
  refine r_iconst (v := (0 : Int32)) dX6_clear_20 (by decide) ?_
  refine r_putf _ dX6_clear_21 fl_X6_28 lX_56 (Nat.le_of_ble_eq_true rfl) rfl rfl (sX_48 _) ?_
  refine r_aload_n 0 dX6_clear_24 rfl ?_
  refine r_iconst (v := (0 : Int32)) dX6_clear_25 (by decide) ?_
  refine r_putf _ dX6_clear_26 fl_X6_31 lX_44 (Nat.le_of_ble_eq_true rfl) rfl rfl (sX_39 _) ?_
  refine r_aload_n 0 dX6_clear_29 rfl ?_
  refine r_iconst (v := (0 : Int32)) dX6_clear_30 (by decide) ?_
  refine r_putf _ dX6_clear_31 fl_X6_34 lX_44 (Nat.le_of_ble_eq_true rfl) rfl rfl (sX_40 _) ?_
  refine r_vret dX6_clear_34 rfl ?_
  have h := Option.some.inj (show some _ = some o from h)
  subst h
  exact hq
theorem ct_Tap_clear {g : GG} {ad : Nat → Nat} {t : va_W} {x0 x1 x3 x4 x5 x11 x12 x18 x19 x20 x24 x25 x26 x27 x28 x29 x30 x31 x37 x54 x56 x58 x59 x60 x61 x63 x64 x65 x66 : Int32} {x2 x6 x7 x8 x9 x10 x13 x14 x15 x16 x17 x21 x22 x23 x33 x34 x35 x42 x43 x44 x45 x46 x49 x50 x51 x52 x53 x62 x67 : Nat → Int32} {x32 : Int64} {x36 x38 x55 x57 : Nat → Int64} {Tap_eventCount : Int32} {Tap_tellerCount : Int32} {Cl_count : Int32} {Or_count : Int32} {Or_stepCount : Int32} {o : Int32 × Int32 × Int32 × Int32 × Int32} (h : f_Tap_clear Tap_eventCount Tap_tellerCount Cl_count Or_count Or_stepCount = some o) : Ct g mX6_clear 1 0 0 [.ref (ad 44)] (wlX g ad x0 x1 x2 x3 x4 x5 x6 x7 x8 x9 x10 x11 x12 x13 x14 x15 x16 x17 x18 x19 x20 x21 x22 x23 x24 x25 x26 x27 x28 x29 x30 x31 x32 x33 x34 x35 x36 x37 x38 Tap_eventCount Tap_tellerCount Cl_count x42 x43 x44 x45 x46 Or_count Or_stepCount x49 x50 x51 x52 x53 x54 x55 x56 x57 x58 x59 x60 x61 x62 x63 x64 x65 x66 x67 ++ t) (Dv (none) (wlX g ad x0 x1 x2 x3 x4 x5 x6 x7 x8 x9 x10 x11 x12 x13 x14 x15 x16 x17 x18 x19 x20 x21 x22 x23 x24 x25 x26 x27 x28 x29 x30 x31 x32 x33 x34 x35 x36 x37 x38 o.1 o.2.1 o.2.2.1 x42 x43 x44 x45 x46 o.2.2.2.1 o.2.2.2.2 x49 x50 x51 x52 x53 x54 x55 x56 x57 x58 x59 x60 x61 x62 x63 x64 x65 x66 x67 ++ t)) := Ct.ofR (by decide +kernel) rfl (Nat.le_of_ble_eq_true rfl) (rt_Tap_clear h ⟨rfl, rfl⟩)
set_option maxRecDepth 20000 in
set_option maxHeartbeats 4000000 in
theorem rt_Re_restart {g : GG} {ad : Nat → Nat} {t : va_W} {x0 x1 x3 x4 x5 x11 x12 x18 x19 x20 x58 x59 x60 x61 x63 x64 x65 x66 : Int32} {x6 x7 x8 x9 x10 x13 x14 x15 x16 x17 x21 x22 x23 x42 x43 x44 x45 x46 x49 x50 x51 x52 x53 x62 x67 : Nat → Int32} {x55 x57 : Nat → Int64} {N : Nat} {Main_tape : Nat → Int32} {Re_at : Int32} {Re_kind : Int32} {Re_depth : Int32} {Re_error : Int32} {Re_errorPlace : Int32} {To_size : Int32} {To_place : Int32} {To_number : Int32} {To_word : Int64} {To_kinds : Nat → Int32} {To_starts : Nat → Int32} {To_numbers : Nat → Int32} {To_words : Nat → Int64} {Na_count : Int32} {Na_words : Nat → Int64} {Tap_eventCount : Int32} {Tap_tellerCount : Int32} {Cl_count : Int32} {Or_count : Int32} {Or_stepCount : Int32} {Na_count_2 : Int32} {Na_count_3 : Int32} {p1 : Int32} {o : Int32 × Int32 × Int32 × Int32 × Int32 × Int32 × Int32 × Int32 × Int64 × (Nat → Int32) × (Nat → Int32) × (Nat → Int32) × (Nat → Int64) × Int32 × Int32 × Int32 × Int32 × Int32 × Int32 × Int32} {Q : Rs → va_W → Prop} (h : f_Re_restart N Main_tape Re_at Re_kind Re_depth Re_error Re_errorPlace To_size To_place To_number To_word To_kinds To_starts To_numbers To_words Na_count Na_words Tap_eventCount Tap_tellerCount Cl_count Or_count Or_stepCount Na_count_2 Na_count_3 p1 = some o) (hq : Q (.inl (none)) (wlX g ad x0 x1 Main_tape x3 x4 x5 x6 x7 x8 x9 x10 x11 x12 x13 x14 x15 x16 x17 x18 x19 x20 x21 x22 x23 o.1 o.2.1 o.2.2.1 o.2.2.2.1 o.2.2.2.2.1 o.2.2.2.2.2.1 o.2.2.2.2.2.2.1 o.2.2.2.2.2.2.2.1 o.2.2.2.2.2.2.2.2.1 o.2.2.2.2.2.2.2.2.2.1 o.2.2.2.2.2.2.2.2.2.2.1 o.2.2.2.2.2.2.2.2.2.2.2.1 o.2.2.2.2.2.2.2.2.2.2.2.2.1 Na_count Na_words o.2.2.2.2.2.2.2.2.2.2.2.2.2.1 o.2.2.2.2.2.2.2.2.2.2.2.2.2.2.1 o.2.2.2.2.2.2.2.2.2.2.2.2.2.2.2.1 x42 x43 x44 x45 x46 o.2.2.2.2.2.2.2.2.2.2.2.2.2.2.2.2.1 o.2.2.2.2.2.2.2.2.2.2.2.2.2.2.2.2.2.1 x49 x50 x51 x52 x53 o.2.2.2.2.2.2.2.2.2.2.2.2.2.2.2.2.2.2.1 x55 o.2.2.2.2.2.2.2.2.2.2.2.2.2.2.2.2.2.2.2 x57 x58 x59 x60 x61 x62 x63 x64 x65 x66 x67 ++ t)) : R g mX4_restart 7 0 0 0 [(0, .ref (ad 33)), (1, .int p1)] [] (wlX g ad x0 x1 Main_tape x3 x4 x5 x6 x7 x8 x9 x10 x11 x12 x13 x14 x15 x16 x17 x18 x19 x20 x21 x22 x23 Re_at Re_kind Re_depth Re_error Re_errorPlace To_size To_place To_number To_word To_kinds To_starts To_numbers To_words Na_count Na_words Tap_eventCount Tap_tellerCount Cl_count x42 x43 x44 x45 x46 Or_count Or_stepCount x49 x50 x51 x52 x53 Na_count_2 x55 Na_count_3 x57 x58 x59 x60 x61 x62 x63 x64 x65 x66 x67 ++ t) Q := by
  unfold f_Re_restart at h
  refine r_aload_n 0 dX4_restart_0 rfl ?_
  refine r_getf (v := .ref (ad 34)) _ dX4_restart_1 fl_X4_14 lX_33 rfl ?_
  refine r_iload_n 1 dX4_restart_4 rfl ?_
  obtain ⟨r374, hc375, h⟩ := ob (fun z9 => z9) rfl h
  refine c_Vv (rest := []) 0 0 _ dX4_restart_5 kv_X4_74 (ct_To_split hc375) rfl rfl lX_34 rfl (Nat.le_of_ble_eq_true rfl) (by decide) (by decide) ?_
  refine r_aload_n 0 dX4_restart_8 rfl ?_
  refine r_getf (v := .ref (ad 44)) _ dX4_restart_9 fl_X4_23 lX_33 rfl ?_
  obtain ⟨r376, hc377, h⟩ := ob (fun z9 => z9) rfl h
  refine c_Vv (rest := []) 0 0 _ dX4_restart_12 kv_X4_77 (ct_Tap_clear hc377) rfl rfl lX_44 rfl (Nat.le_of_ble_eq_true rfl) (by decide) (by decide) ?_
  refine r_aload_n 0 dX4_restart_15 rfl ?_
  refine r_getf (v := .ref (ad 67)) _ dX4_restart_16 fl_X4_32 lX_33 rfl ?_
  refine r_iconst (v := (0 : Int32)) dX4_restart_19 (by decide) ?_
  refine r_putf _ dX4_restart_20 fl_X4_65 lX_67 (Nat.le_of_ble_eq_true rfl) rfl rfl (sX_54 _) ?_
  refine r_aload_n 0 dX4_restart_23 rfl ?_
  refine r_getf (v := .ref (ad 69)) _ dX4_restart_24 fl_X4_36 lX_33 rfl ?_
  refine r_iconst (v := (0 : Int32)) dX4_restart_27 (by decide) ?_
  refine r_putf _ dX4_restart_28 fl_X4_65 lX_69 (Nat.le_of_ble_eq_true rfl) rfl rfl (sX_56 _) ?_
  refine r_aload_n 0 dX4_restart_31 rfl ?_
  refine r_iconst (v := (0 : Int32)) dX4_restart_32 (by decide) ?_
  refine r_putf _ dX4_restart_33 fl_X4_80 lX_33 (Nat.le_of_ble_eq_true rfl) rfl rfl (sX_24 _) ?_
  refine r_aload_n 0 dX4_restart_36 rfl ?_
  refine r_aload_n 0 dX4_restart_37 rfl ?_
  refine r_getf (v := .ref (ad 34)) _ dX4_restart_38 fl_X4_14 lX_33 rfl ?_
  refine r_getf (v := .ref (ad 35)) _ dX4_restart_41 fl_X4_83 lX_34 rfl ?_
  refine r_iconst (v := (0 : Int32)) dX4_restart_44 (by decide) ?_
  refine c_V (rest := [.ref (ad 33)]) 0 0 _ dX4_restart_45 kv_X4_87 (ct_Row_get lX_35 lX_36 (Nat.le_of_ble_eq_true rfl)) rfl rfl lX_35 rfl (Nat.le_of_ble_eq_true rfl) (by decide) (by decide) ?_
  refine r_putf _ dX4_restart_48 fl_X4_42 lX_33 (Nat.le_of_ble_eq_true rfl) rfl rfl (sX_25 _) ?_
  refine r_aload_n 0 dX4_restart_51 rfl ?_
  refine r_iconst (v := (0 : Int32)) dX4_restart_52 (by decide) ?_
  refine r_putf _ dX4_restart_53 fl_X4_93 lX_33 (Nat.le_of_ble_eq_true rfl) rfl rfl (sX_26 _) ?_
  refine r_aload_n 0 dX4_restart_56 rfl ?_
  refine r_iconst (v := (0 : Int32)) dX4_restart_57 (by decide) ?_
  refine r_putf _ dX4_restart_58 fl_X4_46 lX_33 (Nat.le_of_ble_eq_true rfl) rfl rfl (sX_27 _) ?_
  refine r_aload_n 0 dX4_restart_61 rfl ?_
  refine r_iconst (v := (-1 : Int32)) dX4_restart_62 (by decide) ?_
  refine r_putf _ dX4_restart_63 fl_X4_96 lX_33 (Nat.le_of_ble_eq_true rfl) rfl rfl (sX_28 _) ?_
  refine r_vret dX4_restart_66 rfl ?_
  have h := Option.some.inj (show some _ = some o from h)
  subst h
  exact hq
theorem ct_Re_restart {g : GG} {ad : Nat → Nat} {t : va_W} {x0 x1 x3 x4 x5 x11 x12 x18 x19 x20 x58 x59 x60 x61 x63 x64 x65 x66 : Int32} {x6 x7 x8 x9 x10 x13 x14 x15 x16 x17 x21 x22 x23 x42 x43 x44 x45 x46 x49 x50 x51 x52 x53 x62 x67 : Nat → Int32} {x55 x57 : Nat → Int64} {N : Nat} {Main_tape : Nat → Int32} {Re_at : Int32} {Re_kind : Int32} {Re_depth : Int32} {Re_error : Int32} {Re_errorPlace : Int32} {To_size : Int32} {To_place : Int32} {To_number : Int32} {To_word : Int64} {To_kinds : Nat → Int32} {To_starts : Nat → Int32} {To_numbers : Nat → Int32} {To_words : Nat → Int64} {Na_count : Int32} {Na_words : Nat → Int64} {Tap_eventCount : Int32} {Tap_tellerCount : Int32} {Cl_count : Int32} {Or_count : Int32} {Or_stepCount : Int32} {Na_count_2 : Int32} {Na_count_3 : Int32} {p1 : Int32} {o : Int32 × Int32 × Int32 × Int32 × Int32 × Int32 × Int32 × Int32 × Int64 × (Nat → Int32) × (Nat → Int32) × (Nat → Int32) × (Nat → Int64) × Int32 × Int32 × Int32 × Int32 × Int32 × Int32 × Int32} (h : f_Re_restart N Main_tape Re_at Re_kind Re_depth Re_error Re_errorPlace To_size To_place To_number To_word To_kinds To_starts To_numbers To_words Na_count Na_words Tap_eventCount Tap_tellerCount Cl_count Or_count Or_stepCount Na_count_2 Na_count_3 p1 = some o) : Ct g mX4_restart 7 0 0 [.ref (ad 33), .int p1] (wlX g ad x0 x1 Main_tape x3 x4 x5 x6 x7 x8 x9 x10 x11 x12 x13 x14 x15 x16 x17 x18 x19 x20 x21 x22 x23 Re_at Re_kind Re_depth Re_error Re_errorPlace To_size To_place To_number To_word To_kinds To_starts To_numbers To_words Na_count Na_words Tap_eventCount Tap_tellerCount Cl_count x42 x43 x44 x45 x46 Or_count Or_stepCount x49 x50 x51 x52 x53 Na_count_2 x55 Na_count_3 x57 x58 x59 x60 x61 x62 x63 x64 x65 x66 x67 ++ t) (Dv (none) (wlX g ad x0 x1 Main_tape x3 x4 x5 x6 x7 x8 x9 x10 x11 x12 x13 x14 x15 x16 x17 x18 x19 x20 x21 x22 x23 o.1 o.2.1 o.2.2.1 o.2.2.2.1 o.2.2.2.2.1 o.2.2.2.2.2.1 o.2.2.2.2.2.2.1 o.2.2.2.2.2.2.2.1 o.2.2.2.2.2.2.2.2.1 o.2.2.2.2.2.2.2.2.2.1 o.2.2.2.2.2.2.2.2.2.2.1 o.2.2.2.2.2.2.2.2.2.2.2.1 o.2.2.2.2.2.2.2.2.2.2.2.2.1 Na_count Na_words o.2.2.2.2.2.2.2.2.2.2.2.2.2.1 o.2.2.2.2.2.2.2.2.2.2.2.2.2.2.1 o.2.2.2.2.2.2.2.2.2.2.2.2.2.2.2.1 x42 x43 x44 x45 x46 o.2.2.2.2.2.2.2.2.2.2.2.2.2.2.2.2.1 o.2.2.2.2.2.2.2.2.2.2.2.2.2.2.2.2.2.1 x49 x50 x51 x52 x53 o.2.2.2.2.2.2.2.2.2.2.2.2.2.2.2.2.2.2.1 x55 o.2.2.2.2.2.2.2.2.2.2.2.2.2.2.2.2.2.2.2 x57 x58 x59 x60 x61 x62 x63 x64 x65 x66 x67 ++ t)) := Ct.ofR (by decide +kernel) rfl (Nat.le_of_ble_eq_true rfl) (rt_Re_restart h ⟨rfl, rfl⟩)
set_option maxRecDepth 20000 in
set_option maxHeartbeats 4000000 in
theorem rt_Or_isFull {g : GG} {ad : Nat → Nat} {t : va_W} {x0 x1 x3 x4 x5 x11 x12 x18 x19 x20 x24 x25 x26 x27 x28 x29 x30 x31 x37 x39 x40 x41 x48 x54 x56 x58 x59 x60 x61 x63 x64 x65 x66 : Int32} {x2 x6 x7 x8 x9 x10 x13 x14 x15 x16 x17 x21 x22 x23 x33 x34 x35 x42 x43 x44 x45 x46 x49 x50 x51 x52 x53 x62 x67 : Nat → Int32} {x32 : Int64} {x36 x38 x55 x57 : Nat → Int64} {Or_count : Int32} {o : Int32} {Q : Rs → va_W → Prop} (h : f_Or_isFull Or_count = o) (hq : Q (.inl (some (.int o))) (wlX g ad x0 x1 x2 x3 x4 x5 x6 x7 x8 x9 x10 x11 x12 x13 x14 x15 x16 x17 x18 x19 x20 x21 x22 x23 x24 x25 x26 x27 x28 x29 x30 x31 x32 x33 x34 x35 x36 x37 x38 x39 x40 x41 x42 x43 x44 x45 x46 Or_count x48 x49 x50 x51 x52 x53 x54 x55 x56 x57 x58 x59 x60 x61 x62 x63 x64 x65 x66 x67 ++ t)) : R g mX3_isFull 1 0 0 0 [(0, .ref (ad 56))] [] (wlX g ad x0 x1 x2 x3 x4 x5 x6 x7 x8 x9 x10 x11 x12 x13 x14 x15 x16 x17 x18 x19 x20 x21 x22 x23 x24 x25 x26 x27 x28 x29 x30 x31 x32 x33 x34 x35 x36 x37 x38 x39 x40 x41 x42 x43 x44 x45 x46 Or_count x48 x49 x50 x51 x52 x53 x54 x55 x56 x57 x58 x59 x60 x61 x62 x63 x64 x65 x66 x67 ++ t) Q := by
  unfold f_Or_isFull at h
  refine r_aload_n 0 dX3_isFull_0 rfl ?_
  refine r_getf (v := .int Or_count) _ dX3_isFull_1 fl_X3_32 lX_56 rfl ?_
  refine r_bipush (v := (16 : Int32)) dX3_isFull_4 (by decide) ?_
  refine r_icmp_lt (tgt := 13) dX3_isFull_6 (by decide) (fun hc378 => ?_) (fun hc378 => ?_)
  · have h := ip (fun z9 => z9) hc378 h
    refine r_iconst (v := (0 : Int32)) dX3_isFull_13 (by decide) ?_
    refine r_zret dX3_isFull_14 rfl (by decide) ?_
    have h : _ = o := h
    subst h
    exact hq
  · have h := iq (fun z9 => z9) hc378 h
    refine r_iconst (v := (1 : Int32)) dX3_isFull_9 (by decide) ?_
    refine r_goto (tgt := 14) dX3_isFull_10 (by decide) ?_
    refine r_zret dX3_isFull_14 rfl (by decide) ?_
    have h : _ = o := h
    subst h
    exact hq
theorem ct_Or_isFull {g : GG} {ad : Nat → Nat} {t : va_W} {x0 x1 x3 x4 x5 x11 x12 x18 x19 x20 x24 x25 x26 x27 x28 x29 x30 x31 x37 x39 x40 x41 x48 x54 x56 x58 x59 x60 x61 x63 x64 x65 x66 : Int32} {x2 x6 x7 x8 x9 x10 x13 x14 x15 x16 x17 x21 x22 x23 x33 x34 x35 x42 x43 x44 x45 x46 x49 x50 x51 x52 x53 x62 x67 : Nat → Int32} {x32 : Int64} {x36 x38 x55 x57 : Nat → Int64} {Or_count : Int32} {o : Int32} (h : f_Or_isFull Or_count = o) : Ct g mX3_isFull 1 0 0 [.ref (ad 56)] (wlX g ad x0 x1 x2 x3 x4 x5 x6 x7 x8 x9 x10 x11 x12 x13 x14 x15 x16 x17 x18 x19 x20 x21 x22 x23 x24 x25 x26 x27 x28 x29 x30 x31 x32 x33 x34 x35 x36 x37 x38 x39 x40 x41 x42 x43 x44 x45 x46 Or_count x48 x49 x50 x51 x52 x53 x54 x55 x56 x57 x58 x59 x60 x61 x62 x63 x64 x65 x66 x67 ++ t) (Dv (some (.int o)) (wlX g ad x0 x1 x2 x3 x4 x5 x6 x7 x8 x9 x10 x11 x12 x13 x14 x15 x16 x17 x18 x19 x20 x21 x22 x23 x24 x25 x26 x27 x28 x29 x30 x31 x32 x33 x34 x35 x36 x37 x38 x39 x40 x41 x42 x43 x44 x45 x46 Or_count x48 x49 x50 x51 x52 x53 x54 x55 x56 x57 x58 x59 x60 x61 x62 x63 x64 x65 x66 x67 ++ t)) := Ct.ofR (by decide +kernel) rfl (Nat.le_of_ble_eq_true rfl) (rt_Or_isFull h ⟨rfl, rfl⟩)
set_option maxRecDepth 20000 in
set_option maxHeartbeats 4000000 in
theorem rt_Main_one {g : GG}  {t : va_W}  {p0 : Int32} {o : Int32} {Q : Rs → va_W → Prop} (h : f_Main_one p0 = o) (hq : Q (.inl (some (.int o))) t) : R g mX9_one 1 0 0 0 [(0, .int p0)] [] t Q := by
  unfold f_Main_one at h
  refine r_iload_n 0 dX9_one_0 rfl ?_
  refine r_if_eq (tgt := 8) dX9_one_1 (by decide) (fun hc379 => ?_) (fun hc379 => ?_)
  · have h := ip (fun z9 => z9) hc379 h
    refine r_iconst (v := (0 : Int32)) dX9_one_8 (by decide) ?_
    refine r_iret dX9_one_9 rfl ?_
    have h : _ = o := h
    subst h
    exact hq
  · have h := iq (fun z9 => z9) hc379 h
    refine r_iconst (v := (1 : Int32)) dX9_one_4 (by decide) ?_
    refine r_goto (tgt := 9) dX9_one_5 (by decide) ?_
    refine r_iret dX9_one_9 rfl ?_
    have h : _ = o := h
    subst h
    exact hq
theorem ct_Main_one {g : GG}  {t : va_W}  {p0 : Int32} {o : Int32} (h : f_Main_one p0 = o) : Ct g mX9_one 1 0 0 [.int p0] t (Dv (some (.int o)) t) := Ct.ofR (by decide +kernel) rfl (Nat.le_of_ble_eq_true rfl) (rt_Main_one h ⟨rfl, rfl⟩)
set_option maxRecDepth 20000 in
set_option maxHeartbeats 4000000 in
theorem rt_Or_add {g : GG} {ad : Nat → Nat} {t : va_W} {x0 x1 x3 x4 x5 x11 x12 x18 x19 x20 x24 x25 x26 x27 x28 x29 x30 x31 x37 x39 x40 x41 x54 x56 x58 x59 x60 x61 x63 x64 x65 x66 : Int32} {x2 x6 x7 x8 x9 x10 x13 x14 x15 x16 x17 x21 x22 x23 x33 x34 x35 x42 x43 x44 x45 x46 x52 x53 x62 x67 : Nat → Int32} {x32 : Int64} {x36 x38 x55 x57 : Nat → Int64} {Or_count : Int32} {Or_stepCount : Int32} {Or_doubts : Nat → Int32} {Or_tellers : Nat → Int32} {Or_ends : Nat → Int32} {p1 : Int32} {p2 : Int32} {o : Int32 × (Nat → Int32) × (Nat → Int32) × (Nat → Int32)} {Q : Rs → va_W → Prop} (h : f_Or_add Or_count Or_stepCount Or_doubts Or_tellers Or_ends p1 p2 = some o) (hq : Q (.inl (none)) (wlX g ad x0 x1 x2 x3 x4 x5 x6 x7 x8 x9 x10 x11 x12 x13 x14 x15 x16 x17 x18 x19 x20 x21 x22 x23 x24 x25 x26 x27 x28 x29 x30 x31 x32 x33 x34 x35 x36 x37 x38 x39 x40 x41 x42 x43 x44 x45 x46 o.1 Or_stepCount o.2.1 o.2.2.1 o.2.2.2 x52 x53 x54 x55 x56 x57 x58 x59 x60 x61 x62 x63 x64 x65 x66 x67 ++ t)) : R g mX3_add 2 0 0 0 [(0, .ref (ad 56)), (1, .int p1), (2, .int p2)] [] (wlX g ad x0 x1 x2 x3 x4 x5 x6 x7 x8 x9 x10 x11 x12 x13 x14 x15 x16 x17 x18 x19 x20 x21 x22 x23 x24 x25 x26 x27 x28 x29 x30 x31 x32 x33 x34 x35 x36 x37 x38 x39 x40 x41 x42 x43 x44 x45 x46 Or_count Or_stepCount Or_doubts Or_tellers Or_ends x52 x53 x54 x55 x56 x57 x58 x59 x60 x61 x62 x63 x64 x65 x66 x67 ++ t) Q := by
  unfold f_Or_add at h
  refine r_aload_n 0 dX3_add_0 rfl ?_
  refine c_V (rest := []) 0 0 _ dX3_add_1 kv_X3_47 (ct_Or_isFull rfl) rfl rfl lX_56 rfl (Nat.le_of_ble_eq_true rfl) (by decide) (by decide) ?_
  refine r_if_eq (tgt := 8) dX3_add_4 (by decide) (fun hc380 => ?_) (fun hc380 => ?_)
  · have h := ip (fun z9 => z9) hc380 h
    refine r_aload_n 0 dX3_add_8 rfl ?_
    refine r_getf (v := .ref (ad 57)) _ dX3_add_9 fl_X3_14 lX_56 rfl ?_
    refine r_aload_n 0 dX3_add_12 rfl ?_
    refine r_getf (v := .int Or_count) _ dX3_add_13 fl_X3_32 lX_56 rfl ?_
    refine r_iload_n 1 dX3_add_16 rfl ?_
    refine c_SN (rest := [.int Or_count, .ref (ad 57)]) 0 0 dX3_add_17 kq_X3_51 (ct_Main_one rfl) rfl rfl (Nat.le_of_ble_eq_true rfl) (by decide) (by decide) ?_
    refine c_Vv (rest := []) 0 0 _ dX3_add_20 kv_X3_43 (ct_Row_set lX_57 lX_58 (sX_49 _) (Nat.le_of_ble_eq_true rfl)) rfl rfl lX_57 rfl (Nat.le_of_ble_eq_true rfl) (by decide) (by decide) ?_
    refine r_aload_n 0 dX3_add_23 rfl ?_
    refine r_getf (v := .ref (ad 59)) _ dX3_add_24 fl_X3_20 lX_56 rfl ?_
    refine r_aload_n 0 dX3_add_27 rfl ?_
    refine r_getf (v := .int Or_count) _ dX3_add_28 fl_X3_32 lX_56 rfl ?_
    refine r_iload_n 2 dX3_add_31 rfl ?_
    refine c_Vv (rest := []) 0 0 _ dX3_add_32 kv_X3_43 (ct_Row_set lX_59 lX_60 (sX_50 _) (Nat.le_of_ble_eq_true rfl)) rfl rfl lX_59 rfl (Nat.le_of_ble_eq_true rfl) (by decide) (by decide) ?_
    refine r_aload_n 0 dX3_add_35 rfl ?_
    refine r_getf (v := .ref (ad 61)) _ dX3_add_36 fl_X3_23 lX_56 rfl ?_
    refine r_aload_n 0 dX3_add_39 rfl ?_
    refine r_getf (v := .int Or_count) _ dX3_add_40 fl_X3_32 lX_56 rfl ?_
    refine r_aload_n 0 dX3_add_43 rfl ?_
    refine r_getf (v := .int Or_stepCount) _ dX3_add_44 fl_X3_36 lX_56 rfl ?_
    refine c_Vv (rest := []) 0 0 _ dX3_add_47 kv_X3_43 (ct_Row_set lX_61 lX_62 (sX_51 _) (Nat.le_of_ble_eq_true rfl)) rfl rfl lX_61 rfl (Nat.le_of_ble_eq_true rfl) (by decide) (by decide) ?_
    refine r_aload_n 0 dX3_add_50 rfl ?_
    refine r_dup dX3_add_51 rfl ?_
    refine r_getf (v := .int Or_count) _ dX3_add_52 fl_X3_32 lX_56 rfl ?_
    refine r_iconst (v := (1 : Int32)) dX3_add_55 (by decide) ?_
    refine r_iadd dX3_add_56 ?_
    refine r_putf _ dX3_add_57 fl_X3_32 lX_56 (Nat.le_of_ble_eq_true rfl) rfl rfl (sX_47 _) ?_
    refine r_vret dX3_add_60 rfl ?_
    have h := Option.some.inj (show some _ = some o from h)
    subst h
    exact hq
  · have h := iq (fun z9 => z9) hc380 h
    refine r_vret dX3_add_7 rfl ?_
    have h := Option.some.inj (show some _ = some o from h)
    subst h
    exact hq
theorem ct_Or_add {g : GG} {ad : Nat → Nat} {t : va_W} {x0 x1 x3 x4 x5 x11 x12 x18 x19 x20 x24 x25 x26 x27 x28 x29 x30 x31 x37 x39 x40 x41 x54 x56 x58 x59 x60 x61 x63 x64 x65 x66 : Int32} {x2 x6 x7 x8 x9 x10 x13 x14 x15 x16 x17 x21 x22 x23 x33 x34 x35 x42 x43 x44 x45 x46 x52 x53 x62 x67 : Nat → Int32} {x32 : Int64} {x36 x38 x55 x57 : Nat → Int64} {Or_count : Int32} {Or_stepCount : Int32} {Or_doubts : Nat → Int32} {Or_tellers : Nat → Int32} {Or_ends : Nat → Int32} {p1 : Int32} {p2 : Int32} {o : Int32 × (Nat → Int32) × (Nat → Int32) × (Nat → Int32)} (h : f_Or_add Or_count Or_stepCount Or_doubts Or_tellers Or_ends p1 p2 = some o) : Ct g mX3_add 2 0 0 [.ref (ad 56), .int p1, .int p2] (wlX g ad x0 x1 x2 x3 x4 x5 x6 x7 x8 x9 x10 x11 x12 x13 x14 x15 x16 x17 x18 x19 x20 x21 x22 x23 x24 x25 x26 x27 x28 x29 x30 x31 x32 x33 x34 x35 x36 x37 x38 x39 x40 x41 x42 x43 x44 x45 x46 Or_count Or_stepCount Or_doubts Or_tellers Or_ends x52 x53 x54 x55 x56 x57 x58 x59 x60 x61 x62 x63 x64 x65 x66 x67 ++ t) (Dv (none) (wlX g ad x0 x1 x2 x3 x4 x5 x6 x7 x8 x9 x10 x11 x12 x13 x14 x15 x16 x17 x18 x19 x20 x21 x22 x23 x24 x25 x26 x27 x28 x29 x30 x31 x32 x33 x34 x35 x36 x37 x38 x39 x40 x41 x42 x43 x44 x45 x46 o.1 Or_stepCount o.2.1 o.2.2.1 o.2.2.2 x52 x53 x54 x55 x56 x57 x58 x59 x60 x61 x62 x63 x64 x65 x66 x67 ++ t)) := Ct.ofR (by decide +kernel) rfl (Nat.le_of_ble_eq_true rfl) (rt_Or_add h ⟨rfl, rfl⟩)
set_option maxRecDepth 20000 in
set_option maxHeartbeats 4000000 in
theorem rt_Re_readOrder {g : GG} {ad : Nat → Nat} {t : va_W} {x0 x1 x3 x4 x5 x11 x12 x18 x19 x20 x29 x30 x31 x37 x39 x40 x41 x58 x59 x60 x61 x63 x64 x65 x66 : Int32} {x2 x6 x7 x8 x9 x10 x13 x14 x15 x16 x17 x21 x22 x23 x42 x43 x44 x45 x46 x62 x67 : Nat → Int32} {x32 : Int64} {x38 : Nat → Int64} {N : Nat} {Re_at : Int32} {Re_kind : Int32} {Re_depth : Int32} {Re_error : Int32} {Re_errorPlace : Int32} {To_kinds : Nat → Int32} {To_starts : Nat → Int32} {To_numbers : Nat → Int32} {To_words : Nat → Int64} {Or_count : Int32} {Or_stepCount : Int32} {Or_doubts : Nat → Int32} {Or_tellers : Nat → Int32} {Or_ends : Nat → Int32} {Or_stepKinds : Nat → Int32} {Or_stepParts : Nat → Int32} {Na_count : Int32} {Na_words : Nat → Int64} {Na_count_2 : Int32} {Na_words_2 : Nat → Int64} {o : Int32 × Int32 × Int32 × Int32 × Int32 × Int32 × Int32 × (Nat → Int32) × (Nat → Int32) × (Nat → Int32) × (Nat → Int32) × (Nat → Int32)} {Q : Rs → va_W → Prop} (h : f_Re_readOrder N Re_at Re_kind Re_depth Re_error Re_errorPlace To_kinds To_starts To_numbers To_words Or_count Or_stepCount Or_doubts Or_tellers Or_ends Or_stepKinds Or_stepParts Na_count Na_words Na_count_2 Na_words_2 = some o) (hq : Q (.inl (none)) (wlX g ad x0 x1 x2 x3 x4 x5 x6 x7 x8 x9 x10 x11 x12 x13 x14 x15 x16 x17 x18 x19 x20 x21 x22 x23 o.1 o.2.1 o.2.2.1 o.2.2.2.1 o.2.2.2.2.1 x29 x30 x31 x32 To_kinds To_starts To_numbers To_words x37 x38 x39 x40 x41 x42 x43 x44 x45 x46 o.2.2.2.2.2.1 o.2.2.2.2.2.2.1 o.2.2.2.2.2.2.2.1 o.2.2.2.2.2.2.2.2.1 o.2.2.2.2.2.2.2.2.2.1 o.2.2.2.2.2.2.2.2.2.2.1 o.2.2.2.2.2.2.2.2.2.2.2 Na_count Na_words Na_count_2 Na_words_2 x58 x59 x60 x61 x62 x63 x64 x65 x66 x67 ++ t)) : R g mX4_readOrder 72 0 0 0 [(0, .ref (ad 33))] [] (wlX g ad x0 x1 x2 x3 x4 x5 x6 x7 x8 x9 x10 x11 x12 x13 x14 x15 x16 x17 x18 x19 x20 x21 x22 x23 Re_at Re_kind Re_depth Re_error Re_errorPlace x29 x30 x31 x32 To_kinds To_starts To_numbers To_words x37 x38 x39 x40 x41 x42 x43 x44 x45 x46 Or_count Or_stepCount Or_doubts Or_tellers Or_ends Or_stepKinds Or_stepParts Na_count Na_words Na_count_2 Na_words_2 x58 x59 x60 x61 x62 x63 x64 x65 x66 x67 ++ t) Q := by
  unfold f_Re_readOrder at h
  refine r_aload_n 0 dX4_readOrder_0 rfl ?_
  refine r_getf (v := .int Re_kind) _ dX4_readOrder_1 fl_X4_42 lX_33 rfl ?_
  refine r_sipush (v := (207 : Int32)) dX4_readOrder_4 (by decide) ?_
  refine r_icmp_ne (tgt := 14) dX4_readOrder_7 (by decide) (fun hc381 => ?_) (fun hc381 => ?_)
  · have h := iq (fun z9 => z9) hc381 h
    refine r_iconst (v := (0 : Int32)) dX4_readOrder_14 (by decide) ?_
    refine r_istore_n [(1, .int (0 : Int32)), (0, .ref (ad 33))] dX4_readOrder_15 (by decide) rfl ?_
    refine r_aload_n 1 dX4_readOrder_16 rfl ?_
    refine r_getf (v := .ref (ad 44)) _ dX4_readOrder_17 fl_X4_23 lX_33 rfl ?_
    refine r_getf (v := .ref (ad 56)) _ dX4_readOrder_20 fl_X4_151 lX_44 rfl ?_
    refine c_V (rest := []) 0 0 _ dX4_readOrder_23 kv_X4_155 (ct_Or_isFull rfl) rfl rfl lX_56 rfl (Nat.le_of_ble_eq_true rfl) (by decide) (by decide) ?_
    refine r_if_eq (tgt := 34) dX4_readOrder_26 (by decide) (fun hc382 => ?_) (fun hc382 => ?_)
    · have h := ip (fun z9 => z9) hc382 h
      refine r_aload_n 1 dX4_readOrder_34 rfl ?_
      obtain ⟨r383, hc384, h⟩ := ob (fun z9 => z9) rfl h
      refine c_Vv (rest := []) 0 0 _ dX4_readOrder_35 kv_X4_105 (ct_Re_advance hc384) rfl rfl lX_33 rfl (Nat.le_of_ble_eq_true rfl) (by decide) (by decide) ?_
      refine r_aload_n 1 dX4_readOrder_38 rfl ?_
      refine r_aload_n 1 dX4_readOrder_39 rfl ?_
      refine r_getf (v := .ref (ad 69)) _ dX4_readOrder_40 fl_X4_36 lX_33 rfl ?_
      obtain ⟨r385, hc386, h⟩ := ob (fun z9 => z9) rfl h
      refine c_V (rest := []) 0 0 _ dX4_readOrder_43 kv_X4_131 (ct_Re_readKnown_v1 hc386) rfl rfl lX_33 rfl (Nat.le_of_ble_eq_true rfl) (by decide) (by decide) ?_
      refine r_istore_n [(2, .int r385.1), (1, .int (0 : Int32)), (0, .ref (ad 33))] dX4_readOrder_46 (by decide) rfl ?_
      refine r_aload_n 2 dX4_readOrder_47 rfl ?_
      refine r_getf (v := .int r385.2.2.1) _ dX4_readOrder_48 fl_X4_42 lX_33 rfl ?_
      refine r_sipush (v := (209 : Int32)) dX4_readOrder_51 (by decide) ?_
      refine r_icmp_ne (tgt := 65) dX4_readOrder_54 (by decide) (fun hc387 => ?_) (fun hc387 => ?_)
      · have h := iq (fun z9 => z9) hc387 h
        refine r_aload_n 2 dX4_readOrder_65 rfl ?_
        refine r_getf (v := .int r385.2.2.2.1) _ dX4_readOrder_66 fl_X4_46 lX_33 rfl ?_
        refine r_if_ne (tgt := 84) dX4_readOrder_69 (by decide) (fun hc388 => ?_) (fun hc388 => ?_)
        · have h := iq (fun z9 => z9) hc388 h
          refine r_vret dX4_readOrder_84 rfl ?_
          have h := Option.some.inj (show some _ = some o from h)
          subst h
          exact hq
        · have h := ip (fun z9 => z9) hc388 h
          refine r_aload_n 2 dX4_readOrder_72 rfl ?_
          refine r_getf (v := .ref (ad 44)) _ dX4_readOrder_73 fl_X4_23 lX_33 rfl ?_
          refine r_getf (v := .ref (ad 56)) _ dX4_readOrder_76 fl_X4_151 lX_44 rfl ?_
          refine r_iload_n 1 dX4_readOrder_79 rfl ?_
          refine r_iload_n 0 dX4_readOrder_80 rfl ?_
          obtain ⟨r389, hc390, h⟩ := ob (fun z9 => z9) rfl h
          refine c_Vv (rest := []) 0 0 _ dX4_readOrder_81 kv_X4_161 (ct_Or_add hc390) rfl rfl lX_56 rfl (Nat.le_of_ble_eq_true rfl) (by decide) (by decide) ?_
          refine r_vret dX4_readOrder_84 rfl ?_
          have h := Option.some.inj (show some _ = some o from h)
          subst h
          exact hq
      · have h := ip (fun z9 => z9) hc387 h
        refine r_aload_n 2 dX4_readOrder_57 rfl ?_
        obtain ⟨r391, hc392, h⟩ := ob (fun z9 => z9) rfl h
        refine c_Vv (rest := []) 0 0 _ dX4_readOrder_58 kv_X4_105 (ct_Re_advance hc392) rfl rfl lX_33 rfl (Nat.le_of_ble_eq_true rfl) (by decide) (by decide) ?_
        refine r_aload_n 2 dX4_readOrder_61 rfl ?_
        obtain ⟨r393, hc394, h⟩ := ob (fun z9 => z9) rfl h
        refine c_Vv (rest := []) 0 0 _ dX4_readOrder_62 kv_X4_158 (ct_Re_parse_0 hc394) rfl rfl lX_33 rfl (Nat.le_of_ble_eq_true rfl) (by decide) (by decide) ?_
        refine r_aload_n 2 dX4_readOrder_65 rfl ?_
        refine r_getf (v := .int r393.2.2.2.1) _ dX4_readOrder_66 fl_X4_46 lX_33 rfl ?_
        refine r_if_ne (tgt := 84) dX4_readOrder_69 (by decide) (fun hc395 => ?_) (fun hc395 => ?_)
        · have h := iq (fun z9 => z9) hc395 h
          refine r_vret dX4_readOrder_84 rfl ?_
          have h := Option.some.inj (show some _ = some o from h)
          subst h
          exact hq
        · have h := ip (fun z9 => z9) hc395 h
          refine r_aload_n 2 dX4_readOrder_72 rfl ?_
          refine r_getf (v := .ref (ad 44)) _ dX4_readOrder_73 fl_X4_23 lX_33 rfl ?_
          refine r_getf (v := .ref (ad 56)) _ dX4_readOrder_76 fl_X4_151 lX_44 rfl ?_
          refine r_iload_n 1 dX4_readOrder_79 rfl ?_
          refine r_iload_n 0 dX4_readOrder_80 rfl ?_
          obtain ⟨r396, hc397, h⟩ := ob (fun z9 => z9) rfl h
          refine c_Vv (rest := []) 0 0 _ dX4_readOrder_81 kv_X4_161 (ct_Or_add hc397) rfl rfl lX_56 rfl (Nat.le_of_ble_eq_true rfl) (by decide) (by decide) ?_
          refine r_vret dX4_readOrder_84 rfl ?_
          have h := Option.some.inj (show some _ = some o from h)
          subst h
          exact hq
    · have h := iq (fun z9 => z9) hc382 h
      refine r_aload_n 1 dX4_readOrder_29 rfl ?_
      refine r_iconst (v := (4 : Int32)) dX4_readOrder_30 (by decide) ?_
      obtain ⟨r398, hc399, h⟩ := ob (fun z9 => z9) rfl h
      refine c_Vv (rest := []) 0 0 _ dX4_readOrder_31 kv_X4_102 (ct_Re_note hc399) rfl rfl lX_33 rfl (Nat.le_of_ble_eq_true rfl) (by decide) (by decide) ?_
      refine r_aload_n 1 dX4_readOrder_34 rfl ?_
      obtain ⟨r400, hc401, h⟩ := ob (fun z9 => z9) rfl h
      refine c_Vv (rest := []) 0 0 _ dX4_readOrder_35 kv_X4_105 (ct_Re_advance hc401) rfl rfl lX_33 rfl (Nat.le_of_ble_eq_true rfl) (by decide) (by decide) ?_
      refine r_aload_n 1 dX4_readOrder_38 rfl ?_
      refine r_aload_n 1 dX4_readOrder_39 rfl ?_
      refine r_getf (v := .ref (ad 69)) _ dX4_readOrder_40 fl_X4_36 lX_33 rfl ?_
      obtain ⟨r402, hc403, h⟩ := ob (fun z9 => z9) rfl h
      refine c_V (rest := []) 0 0 _ dX4_readOrder_43 kv_X4_131 (ct_Re_readKnown_v1 hc403) rfl rfl lX_33 rfl (Nat.le_of_ble_eq_true rfl) (by decide) (by decide) ?_
      refine r_istore_n [(2, .int r402.1), (1, .int (0 : Int32)), (0, .ref (ad 33))] dX4_readOrder_46 (by decide) rfl ?_
      refine r_aload_n 2 dX4_readOrder_47 rfl ?_
      refine r_getf (v := .int r402.2.2.1) _ dX4_readOrder_48 fl_X4_42 lX_33 rfl ?_
      refine r_sipush (v := (209 : Int32)) dX4_readOrder_51 (by decide) ?_
      refine r_icmp_ne (tgt := 65) dX4_readOrder_54 (by decide) (fun hc404 => ?_) (fun hc404 => ?_)
      · have h := iq (fun z9 => z9) hc404 h
        refine r_aload_n 2 dX4_readOrder_65 rfl ?_
        refine r_getf (v := .int r402.2.2.2.1) _ dX4_readOrder_66 fl_X4_46 lX_33 rfl ?_
        refine r_if_ne (tgt := 84) dX4_readOrder_69 (by decide) (fun hc405 => ?_) (fun hc405 => ?_)
        · have h := iq (fun z9 => z9) hc405 h
          refine r_vret dX4_readOrder_84 rfl ?_
          have h := Option.some.inj (show some _ = some o from h)
          subst h
          exact hq
        · have h := ip (fun z9 => z9) hc405 h
          refine r_aload_n 2 dX4_readOrder_72 rfl ?_
          refine r_getf (v := .ref (ad 44)) _ dX4_readOrder_73 fl_X4_23 lX_33 rfl ?_
          refine r_getf (v := .ref (ad 56)) _ dX4_readOrder_76 fl_X4_151 lX_44 rfl ?_
          refine r_iload_n 1 dX4_readOrder_79 rfl ?_
          refine r_iload_n 0 dX4_readOrder_80 rfl ?_
          obtain ⟨r406, hc407, h⟩ := ob (fun z9 => z9) rfl h
          refine c_Vv (rest := []) 0 0 _ dX4_readOrder_81 kv_X4_161 (ct_Or_add hc407) rfl rfl lX_56 rfl (Nat.le_of_ble_eq_true rfl) (by decide) (by decide) ?_
          refine r_vret dX4_readOrder_84 rfl ?_
          have h := Option.some.inj (show some _ = some o from h)
          subst h
          exact hq
      · have h := ip (fun z9 => z9) hc404 h
        refine r_aload_n 2 dX4_readOrder_57 rfl ?_
        obtain ⟨r408, hc409, h⟩ := ob (fun z9 => z9) rfl h
        refine c_Vv (rest := []) 0 0 _ dX4_readOrder_58 kv_X4_105 (ct_Re_advance hc409) rfl rfl lX_33 rfl (Nat.le_of_ble_eq_true rfl) (by decide) (by decide) ?_
        refine r_aload_n 2 dX4_readOrder_61 rfl ?_
        obtain ⟨r410, hc411, h⟩ := ob (fun z9 => z9) rfl h
        refine c_Vv (rest := []) 0 0 _ dX4_readOrder_62 kv_X4_158 (ct_Re_parse_0 hc411) rfl rfl lX_33 rfl (Nat.le_of_ble_eq_true rfl) (by decide) (by decide) ?_
        refine r_aload_n 2 dX4_readOrder_65 rfl ?_
        refine r_getf (v := .int r410.2.2.2.1) _ dX4_readOrder_66 fl_X4_46 lX_33 rfl ?_
        refine r_if_ne (tgt := 84) dX4_readOrder_69 (by decide) (fun hc412 => ?_) (fun hc412 => ?_)
        · have h := iq (fun z9 => z9) hc412 h
          refine r_vret dX4_readOrder_84 rfl ?_
          have h := Option.some.inj (show some _ = some o from h)
          subst h
          exact hq
        · have h := ip (fun z9 => z9) hc412 h
          refine r_aload_n 2 dX4_readOrder_72 rfl ?_
          refine r_getf (v := .ref (ad 44)) _ dX4_readOrder_73 fl_X4_23 lX_33 rfl ?_
          refine r_getf (v := .ref (ad 56)) _ dX4_readOrder_76 fl_X4_151 lX_44 rfl ?_
          refine r_iload_n 1 dX4_readOrder_79 rfl ?_
          refine r_iload_n 0 dX4_readOrder_80 rfl ?_
          obtain ⟨r413, hc414, h⟩ := ob (fun z9 => z9) rfl h
          refine c_Vv (rest := []) 0 0 _ dX4_readOrder_81 kv_X4_161 (ct_Or_add hc414) rfl rfl lX_56 rfl (Nat.le_of_ble_eq_true rfl) (by decide) (by decide) ?_
          refine r_vret dX4_readOrder_84 rfl ?_
          have h := Option.some.inj (show some _ = some o from h)
          subst h
          exact hq
  · have h := ip (fun z9 => z9) hc381 h
    refine r_iconst (v := (1 : Int32)) dX4_readOrder_10 (by decide) ?_
    refine r_goto (tgt := 15) dX4_readOrder_11 (by decide) ?_
    refine r_istore_n [(1, .int (1 : Int32)), (0, .ref (ad 33))] dX4_readOrder_15 (by decide) rfl ?_
    refine r_aload_n 1 dX4_readOrder_16 rfl ?_
    refine r_getf (v := .ref (ad 44)) _ dX4_readOrder_17 fl_X4_23 lX_33 rfl ?_
    refine r_getf (v := .ref (ad 56)) _ dX4_readOrder_20 fl_X4_151 lX_44 rfl ?_
    refine c_V (rest := []) 0 0 _ dX4_readOrder_23 kv_X4_155 (ct_Or_isFull rfl) rfl rfl lX_56 rfl (Nat.le_of_ble_eq_true rfl) (by decide) (by decide) ?_
    refine r_if_eq (tgt := 34) dX4_readOrder_26 (by decide) (fun hc415 => ?_) (fun hc415 => ?_)
    · have h := ip (fun z9 => z9) hc415 h
      refine r_aload_n 1 dX4_readOrder_34 rfl ?_
      obtain ⟨r416, hc417, h⟩ := ob (fun z9 => z9) rfl h
      refine c_Vv (rest := []) 0 0 _ dX4_readOrder_35 kv_X4_105 (ct_Re_advance hc417) rfl rfl lX_33 rfl (Nat.le_of_ble_eq_true rfl) (by decide) (by decide) ?_
      refine r_aload_n 1 dX4_readOrder_38 rfl ?_
      refine r_aload_n 1 dX4_readOrder_39 rfl ?_
      refine r_getf (v := .ref (ad 69)) _ dX4_readOrder_40 fl_X4_36 lX_33 rfl ?_
      obtain ⟨r418, hc419, h⟩ := ob (fun z9 => z9) rfl h
      refine c_V (rest := []) 0 0 _ dX4_readOrder_43 kv_X4_131 (ct_Re_readKnown_v1 hc419) rfl rfl lX_33 rfl (Nat.le_of_ble_eq_true rfl) (by decide) (by decide) ?_
      refine r_istore_n [(2, .int r418.1), (1, .int (1 : Int32)), (0, .ref (ad 33))] dX4_readOrder_46 (by decide) rfl ?_
      refine r_aload_n 2 dX4_readOrder_47 rfl ?_
      refine r_getf (v := .int r418.2.2.1) _ dX4_readOrder_48 fl_X4_42 lX_33 rfl ?_
      refine r_sipush (v := (209 : Int32)) dX4_readOrder_51 (by decide) ?_
      refine r_icmp_ne (tgt := 65) dX4_readOrder_54 (by decide) (fun hc420 => ?_) (fun hc420 => ?_)
      · have h := iq (fun z9 => z9) hc420 h
        refine r_aload_n 2 dX4_readOrder_65 rfl ?_
        refine r_getf (v := .int r418.2.2.2.1) _ dX4_readOrder_66 fl_X4_46 lX_33 rfl ?_
        refine r_if_ne (tgt := 84) dX4_readOrder_69 (by decide) (fun hc421 => ?_) (fun hc421 => ?_)
        · have h := iq (fun z9 => z9) hc421 h
          refine r_vret dX4_readOrder_84 rfl ?_
          have h := Option.some.inj (show some _ = some o from h)
          subst h
          exact hq
        · have h := ip (fun z9 => z9) hc421 h
          refine r_aload_n 2 dX4_readOrder_72 rfl ?_
          refine r_getf (v := .ref (ad 44)) _ dX4_readOrder_73 fl_X4_23 lX_33 rfl ?_
          refine r_getf (v := .ref (ad 56)) _ dX4_readOrder_76 fl_X4_151 lX_44 rfl ?_
          refine r_iload_n 1 dX4_readOrder_79 rfl ?_
          refine r_iload_n 0 dX4_readOrder_80 rfl ?_
          obtain ⟨r422, hc423, h⟩ := ob (fun z9 => z9) rfl h
          refine c_Vv (rest := []) 0 0 _ dX4_readOrder_81 kv_X4_161 (ct_Or_add hc423) rfl rfl lX_56 rfl (Nat.le_of_ble_eq_true rfl) (by decide) (by decide) ?_
          refine r_vret dX4_readOrder_84 rfl ?_
          have h := Option.some.inj (show some _ = some o from h)
          subst h
          exact hq
      · have h := ip (fun z9 => z9) hc420 h
        refine r_aload_n 2 dX4_readOrder_57 rfl ?_
        obtain ⟨r424, hc425, h⟩ := ob (fun z9 => z9) rfl h
        refine c_Vv (rest := []) 0 0 _ dX4_readOrder_58 kv_X4_105 (ct_Re_advance hc425) rfl rfl lX_33 rfl (Nat.le_of_ble_eq_true rfl) (by decide) (by decide) ?_
        refine r_aload_n 2 dX4_readOrder_61 rfl ?_
        obtain ⟨r426, hc427, h⟩ := ob (fun z9 => z9) rfl h
        refine c_Vv (rest := []) 0 0 _ dX4_readOrder_62 kv_X4_158 (ct_Re_parse_0 hc427) rfl rfl lX_33 rfl (Nat.le_of_ble_eq_true rfl) (by decide) (by decide) ?_
        refine r_aload_n 2 dX4_readOrder_65 rfl ?_
        refine r_getf (v := .int r426.2.2.2.1) _ dX4_readOrder_66 fl_X4_46 lX_33 rfl ?_
        refine r_if_ne (tgt := 84) dX4_readOrder_69 (by decide) (fun hc428 => ?_) (fun hc428 => ?_)
        · have h := iq (fun z9 => z9) hc428 h
          refine r_vret dX4_readOrder_84 rfl ?_
          have h := Option.some.inj (show some _ = some o from h)
          subst h
          exact hq
        · have h := ip (fun z9 => z9) hc428 h
          refine r_aload_n 2 dX4_readOrder_72 rfl ?_
          refine r_getf (v := .ref (ad 44)) _ dX4_readOrder_73 fl_X4_23 lX_33 rfl ?_
          refine r_getf (v := .ref (ad 56)) _ dX4_readOrder_76 fl_X4_151 lX_44 rfl ?_
          refine r_iload_n 1 dX4_readOrder_79 rfl ?_
          refine r_iload_n 0 dX4_readOrder_80 rfl ?_
          obtain ⟨r429, hc430, h⟩ := ob (fun z9 => z9) rfl h
          refine c_Vv (rest := []) 0 0 _ dX4_readOrder_81 kv_X4_161 (ct_Or_add hc430) rfl rfl lX_56 rfl (Nat.le_of_ble_eq_true rfl) (by decide) (by decide) ?_
          refine r_vret dX4_readOrder_84 rfl ?_
          have h := Option.some.inj (show some _ = some o from h)
          subst h
          exact hq
    · have h := iq (fun z9 => z9) hc415 h
      refine r_aload_n 1 dX4_readOrder_29 rfl ?_
      refine r_iconst (v := (4 : Int32)) dX4_readOrder_30 (by decide) ?_
      obtain ⟨r431, hc432, h⟩ := ob (fun z9 => z9) rfl h
      refine c_Vv (rest := []) 0 0 _ dX4_readOrder_31 kv_X4_102 (ct_Re_note hc432) rfl rfl lX_33 rfl (Nat.le_of_ble_eq_true rfl) (by decide) (by decide) ?_
      refine r_aload_n 1 dX4_readOrder_34 rfl ?_
      obtain ⟨r433, hc434, h⟩ := ob (fun z9 => z9) rfl h
      refine c_Vv (rest := []) 0 0 _ dX4_readOrder_35 kv_X4_105 (ct_Re_advance hc434) rfl rfl lX_33 rfl (Nat.le_of_ble_eq_true rfl) (by decide) (by decide) ?_
      refine r_aload_n 1 dX4_readOrder_38 rfl ?_
      refine r_aload_n 1 dX4_readOrder_39 rfl ?_
      refine r_getf (v := .ref (ad 69)) _ dX4_readOrder_40 fl_X4_36 lX_33 rfl ?_
      obtain ⟨r435, hc436, h⟩ := ob (fun z9 => z9) rfl h
      refine c_V (rest := []) 0 0 _ dX4_readOrder_43 kv_X4_131 (ct_Re_readKnown_v1 hc436) rfl rfl lX_33 rfl (Nat.le_of_ble_eq_true rfl) (by decide) (by decide) ?_
      refine r_istore_n [(2, .int r435.1), (1, .int (1 : Int32)), (0, .ref (ad 33))] dX4_readOrder_46 (by decide) rfl ?_
      refine r_aload_n 2 dX4_readOrder_47 rfl ?_
      refine r_getf (v := .int r435.2.2.1) _ dX4_readOrder_48 fl_X4_42 lX_33 rfl ?_
      refine r_sipush (v := (209 : Int32)) dX4_readOrder_51 (by decide) ?_
      refine r_icmp_ne (tgt := 65) dX4_readOrder_54 (by decide) (fun hc437 => ?_) (fun hc437 => ?_)
      · have h := iq (fun z9 => z9) hc437 h
        refine r_aload_n 2 dX4_readOrder_65 rfl ?_
        refine r_getf (v := .int r435.2.2.2.1) _ dX4_readOrder_66 fl_X4_46 lX_33 rfl ?_
        refine r_if_ne (tgt := 84) dX4_readOrder_69 (by decide) (fun hc438 => ?_) (fun hc438 => ?_)
        · have h := iq (fun z9 => z9) hc438 h
          refine r_vret dX4_readOrder_84 rfl ?_
          have h := Option.some.inj (show some _ = some o from h)
          subst h
          exact hq
        · have h := ip (fun z9 => z9) hc438 h
          refine r_aload_n 2 dX4_readOrder_72 rfl ?_
          refine r_getf (v := .ref (ad 44)) _ dX4_readOrder_73 fl_X4_23 lX_33 rfl ?_
          refine r_getf (v := .ref (ad 56)) _ dX4_readOrder_76 fl_X4_151 lX_44 rfl ?_
          refine r_iload_n 1 dX4_readOrder_79 rfl ?_
          refine r_iload_n 0 dX4_readOrder_80 rfl ?_
          obtain ⟨r439, hc440, h⟩ := ob (fun z9 => z9) rfl h
          refine c_Vv (rest := []) 0 0 _ dX4_readOrder_81 kv_X4_161 (ct_Or_add hc440) rfl rfl lX_56 rfl (Nat.le_of_ble_eq_true rfl) (by decide) (by decide) ?_
          refine r_vret dX4_readOrder_84 rfl ?_
          have h := Option.some.inj (show some _ = some o from h)
          subst h
          exact hq
      · have h := ip (fun z9 => z9) hc437 h
        refine r_aload_n 2 dX4_readOrder_57 rfl ?_
        obtain ⟨r441, hc442, h⟩ := ob (fun z9 => z9) rfl h
        refine c_Vv (rest := []) 0 0 _ dX4_readOrder_58 kv_X4_105 (ct_Re_advance hc442) rfl rfl lX_33 rfl (Nat.le_of_ble_eq_true rfl) (by decide) (by decide) ?_
        refine r_aload_n 2 dX4_readOrder_61 rfl ?_
        obtain ⟨r443, hc444, h⟩ := ob (fun z9 => z9) rfl h
        refine c_Vv (rest := []) 0 0 _ dX4_readOrder_62 kv_X4_158 (ct_Re_parse_0 hc444) rfl rfl lX_33 rfl (Nat.le_of_ble_eq_true rfl) (by decide) (by decide) ?_
        refine r_aload_n 2 dX4_readOrder_65 rfl ?_
        refine r_getf (v := .int r443.2.2.2.1) _ dX4_readOrder_66 fl_X4_46 lX_33 rfl ?_
        refine r_if_ne (tgt := 84) dX4_readOrder_69 (by decide) (fun hc445 => ?_) (fun hc445 => ?_)
        · have h := iq (fun z9 => z9) hc445 h
          refine r_vret dX4_readOrder_84 rfl ?_
          have h := Option.some.inj (show some _ = some o from h)
          subst h
          exact hq
        · have h := ip (fun z9 => z9) hc445 h
          refine r_aload_n 2 dX4_readOrder_72 rfl ?_
          refine r_getf (v := .ref (ad 44)) _ dX4_readOrder_73 fl_X4_23 lX_33 rfl ?_
          refine r_getf (v := .ref (ad 56)) _ dX4_readOrder_76 fl_X4_151 lX_44 rfl ?_
          refine r_iload_n 1 dX4_readOrder_79 rfl ?_
          refine r_iload_n 0 dX4_readOrder_80 rfl ?_
          obtain ⟨r446, hc447, h⟩ := ob (fun z9 => z9) rfl h
          refine c_Vv (rest := []) 0 0 _ dX4_readOrder_81 kv_X4_161 (ct_Or_add hc447) rfl rfl lX_56 rfl (Nat.le_of_ble_eq_true rfl) (by decide) (by decide) ?_
          refine r_vret dX4_readOrder_84 rfl ?_
          have h := Option.some.inj (show some _ = some o from h)
          subst h
          exact hq
theorem ct_Re_readOrder {g : GG} {ad : Nat → Nat} {t : va_W} {x0 x1 x3 x4 x5 x11 x12 x18 x19 x20 x29 x30 x31 x37 x39 x40 x41 x58 x59 x60 x61 x63 x64 x65 x66 : Int32} {x2 x6 x7 x8 x9 x10 x13 x14 x15 x16 x17 x21 x22 x23 x42 x43 x44 x45 x46 x62 x67 : Nat → Int32} {x32 : Int64} {x38 : Nat → Int64} {N : Nat} {Re_at : Int32} {Re_kind : Int32} {Re_depth : Int32} {Re_error : Int32} {Re_errorPlace : Int32} {To_kinds : Nat → Int32} {To_starts : Nat → Int32} {To_numbers : Nat → Int32} {To_words : Nat → Int64} {Or_count : Int32} {Or_stepCount : Int32} {Or_doubts : Nat → Int32} {Or_tellers : Nat → Int32} {Or_ends : Nat → Int32} {Or_stepKinds : Nat → Int32} {Or_stepParts : Nat → Int32} {Na_count : Int32} {Na_words : Nat → Int64} {Na_count_2 : Int32} {Na_words_2 : Nat → Int64} {o : Int32 × Int32 × Int32 × Int32 × Int32 × Int32 × Int32 × (Nat → Int32) × (Nat → Int32) × (Nat → Int32) × (Nat → Int32) × (Nat → Int32)} (h : f_Re_readOrder N Re_at Re_kind Re_depth Re_error Re_errorPlace To_kinds To_starts To_numbers To_words Or_count Or_stepCount Or_doubts Or_tellers Or_ends Or_stepKinds Or_stepParts Na_count Na_words Na_count_2 Na_words_2 = some o) : Ct g mX4_readOrder 72 0 0 [.ref (ad 33)] (wlX g ad x0 x1 x2 x3 x4 x5 x6 x7 x8 x9 x10 x11 x12 x13 x14 x15 x16 x17 x18 x19 x20 x21 x22 x23 Re_at Re_kind Re_depth Re_error Re_errorPlace x29 x30 x31 x32 To_kinds To_starts To_numbers To_words x37 x38 x39 x40 x41 x42 x43 x44 x45 x46 Or_count Or_stepCount Or_doubts Or_tellers Or_ends Or_stepKinds Or_stepParts Na_count Na_words Na_count_2 Na_words_2 x58 x59 x60 x61 x62 x63 x64 x65 x66 x67 ++ t) (Dv (none) (wlX g ad x0 x1 x2 x3 x4 x5 x6 x7 x8 x9 x10 x11 x12 x13 x14 x15 x16 x17 x18 x19 x20 x21 x22 x23 o.1 o.2.1 o.2.2.1 o.2.2.2.1 o.2.2.2.2.1 x29 x30 x31 x32 To_kinds To_starts To_numbers To_words x37 x38 x39 x40 x41 x42 x43 x44 x45 x46 o.2.2.2.2.2.1 o.2.2.2.2.2.2.1 o.2.2.2.2.2.2.2.1 o.2.2.2.2.2.2.2.2.1 o.2.2.2.2.2.2.2.2.2.1 o.2.2.2.2.2.2.2.2.2.2.1 o.2.2.2.2.2.2.2.2.2.2.2 Na_count Na_words Na_count_2 Na_words_2 x58 x59 x60 x61 x62 x63 x64 x65 x66 x67 ++ t)) := Ct.ofR (by decide +kernel) rfl (Nat.le_of_ble_eq_true rfl) (rt_Re_readOrder h ⟨rfl, rfl⟩)
