set_option maxRecDepth 20000 in
set_option maxHeartbeats 4000000 in
theorem rt_J0_indexOf_0f7a4 {g : GG}  {t : va_W}  {N : Nat} {i : Nat} {p1 : Int32} {o : Int32} {Q : Rs → va_W → Prop} (h : f_J0_indexOf_0f7a4 N i p1 = some o) (hi0 : i < 61) (hq : Q (.inl (some (.int o))) t) : R g mJ0_indexOf_0f7a4 4 0 0 0 [(0, .ref (gK g i)), (1, .int p1)] [] t Q := by
  unfold f_J0_indexOf_0f7a4 at h
  refine r_aload_n 0 dJ0_indexOf_0f7a4_0 rfl ?_
  refine r_iload_n 1 dJ0_indexOf_0f7a4_1 rfl ?_
  refine r_iconst (v := (0 : Int32)) dJ0_indexOf_0f7a4_2 (by decide) ?_
  obtain ⟨r315, hc316, h⟩ := ob (fun z9 => z9) rfl h
  refine c_K (rest := []) 0 0 dJ0_indexOf_0f7a4_3 kv_J0_633 rfl hi0 (ct_J0_indexOf_7cf53 hc316 hi0) rfl rfl (Nat.le_of_ble_eq_true rfl) (by decide) (by decide) ?_
  refine r_iret dJ0_indexOf_0f7a4_6 rfl ?_
  have h := Option.some.inj (show some _ = some o from h)
  subst h
  exact hq
theorem ct_J0_indexOf_0f7a4 {g : GG}  {t : va_W}  {N : Nat} {i : Nat} {p1 : Int32} {o : Int32} (h : f_J0_indexOf_0f7a4 N i p1 = some o) (hi0 : i < 61) : Ct g mJ0_indexOf_0f7a4 4 0 0 [.ref (gK g i), .int p1] t (Dv (some (.int o)) t) := Ct.ofR (by decide +kernel) rfl (Nat.le_of_ble_eq_true rfl) (rt_J0_indexOf_0f7a4 h hi0 ⟨rfl, rfl⟩)
set_option maxRecDepth 20000 in
set_option maxHeartbeats 4000000 in
theorem rt_To_numberKind {g : GG} {ad : Nat → Nat} {t : va_W} {x0 x1 x3 x4 x5 x11 x12 x18 x19 x20 x24 x25 x26 x27 x28 x37 x39 x40 x41 x47 x48 x54 x56 x58 x59 x60 x61 x63 x64 x65 x66 : Int32} {x6 x7 x8 x9 x10 x13 x14 x15 x16 x17 x21 x22 x23 x33 x34 x35 x42 x43 x44 x45 x46 x49 x50 x51 x52 x53 x62 x67 : Nat → Int32} {x32 : Int64} {x36 x38 x55 x57 : Nat → Int64} {N : Nat} {Main_tape : Nat → Int32} {To_size : Int32} {To_place : Int32} {To_number : Int32} {o : Int32 × Int32 × Int32} {Q : Rs → va_W → Prop} (h : f_To_numberKind N Main_tape To_size To_place To_number = some o) (hq : Q (.inl (some (.int o.1))) (wlX g ad x0 x1 Main_tape x3 x4 x5 x6 x7 x8 x9 x10 x11 x12 x13 x14 x15 x16 x17 x18 x19 x20 x21 x22 x23 x24 x25 x26 x27 x28 To_size o.2.1 o.2.2 x32 x33 x34 x35 x36 x37 x38 x39 x40 x41 x42 x43 x44 x45 x46 x47 x48 x49 x50 x51 x52 x53 x54 x55 x56 x57 x58 x59 x60 x61 x62 x63 x64 x65 x66 x67 ++ t)) : R g mX7_numberKind 2 0 0 0 [(0, .ref (ad 34))] [] (wlX g ad x0 x1 Main_tape x3 x4 x5 x6 x7 x8 x9 x10 x11 x12 x13 x14 x15 x16 x17 x18 x19 x20 x21 x22 x23 x24 x25 x26 x27 x28 To_size To_place To_number x32 x33 x34 x35 x36 x37 x38 x39 x40 x41 x42 x43 x44 x45 x46 x47 x48 x49 x50 x51 x52 x53 x54 x55 x56 x57 x58 x59 x60 x61 x62 x63 x64 x65 x66 x67 ++ t) Q := by
  unfold f_To_numberKind at h
  refine r_aload_n 0 dX7_numberKind_0 rfl ?_
  refine r_getf (v := .int To_place) _ dX7_numberKind_1 fl_X7_67 lX_34 rfl ?_
  refine r_istore_n [(1, .int To_place), (0, .ref (ad 34))] dX7_numberKind_4 (by decide) rfl ?_
  refine r_aload_n 1 dX7_numberKind_5 rfl ?_
  refine r_iconst (v := (0 : Int32)) dX7_numberKind_6 (by decide) ?_
  refine r_putf _ dX7_numberKind_7 fl_X7_80 lX_34 (Nat.le_of_ble_eq_true rfl) rfl rfl (sX_31 _) ?_
  refine r_ls [1, 0] (ls2 := [(0, .ref (ad 34)), (1, .int To_place)]) rfl ?_
  have L1 : ∀ (n1 : Nat) (To_place_1 : Int32) (To_number_1 : Int32), (fun z9 => z9) (lpS (f_To_numberKind_L10 Main_tape To_size To_place) none n1 (To_place_1, To_number_1)) = some o → R g mX7_numberKind 2 0 0 10 [(0, .ref (ad 34)), (1, .int To_place)] [] (wlX g ad x0 x1 Main_tape x3 x4 x5 x6 x7 x8 x9 x10 x11 x12 x13 x14 x15 x16 x17 x18 x19 x20 x21 x22 x23 x24 x25 x26 x27 x28 To_size To_place_1 To_number_1 x32 x33 x34 x35 x36 x37 x38 x39 x40 x41 x42 x43 x44 x45 x46 x47 x48 x49 x50 x51 x52 x53 x54 x55 x56 x57 x58 x59 x60 x61 x62 x63 x64 x65 x66 x67 ++ t) Q := by
    intro n1
    induction n1 with
    | zero => intro To_place_1 To_number_1 h; exact nomatch (show (none : Option _) = some _ from h)
    | succ n1 ih1 =>
      intro To_place_1 To_number_1 h
      have h : (fun z9 => (lC (f_To_numberKind_L10 Main_tape To_size To_place) none n1 z9)) (f_To_numberKind_L10 Main_tape To_size To_place (To_place_1, To_number_1)) = some o := h
      unfold f_To_numberKind_L10 at h
      try dsimp only at h
      refine r_aload_n 0 dX7_numberKind_10 rfl ?_
      refine r_getf (v := .int To_place_1) _ dX7_numberKind_11 fl_X7_67 lX_34 rfl ?_
      refine r_aload_n 0 dX7_numberKind_14 rfl ?_
      refine r_getf (v := .int To_size) _ dX7_numberKind_15 fl_X7_63 lX_34 rfl ?_
      refine r_icmp_ge (tgt := 77) dX7_numberKind_18 (by decide) (fun hc317 => ?_) (fun hc317 => ?_)
      · have h := ip (fun z9 => (lC (f_To_numberKind_L10 Main_tape To_size To_place) none n1 z9)) hc317 h
        refine r_aload_n 0 dX7_numberKind_77 rfl ?_
        refine r_getf (v := .int To_place_1) _ dX7_numberKind_78 fl_X7_67 lX_34 rfl ?_
        refine r_iload_n 1 dX7_numberKind_81 rfl ?_
        refine r_isub dX7_numberKind_82 ?_
        refine r_bipush (v := (6 : Int32)) dX7_numberKind_83 (by decide) ?_
        refine r_icmp_le (tgt := 94) dX7_numberKind_85 (by decide) (fun hc318 => ?_) (fun hc318 => ?_)
        · have h := ip (fun z9 => (lC (f_To_numberKind_L10 Main_tape To_size To_place) none n1 z9)) hc318 h
          refine r_sipush (v := (131 : Int32)) dX7_numberKind_94 (by decide) ?_
          refine r_iret dX7_numberKind_97 rfl ?_
          have h := Option.some.inj (show some _ = some o from h)
          subst h
          exact hq
        · have h := iq (fun z9 => (lC (f_To_numberKind_L10 Main_tape To_size To_place) none n1 z9)) hc318 h
          refine r_sipush (v := (133 : Int32)) dX7_numberKind_88 (by decide) ?_
          refine r_goto (tgt := 97) dX7_numberKind_91 (by decide) ?_
          refine r_iret dX7_numberKind_97 rfl ?_
          have h := Option.some.inj (show some _ = some o from h)
          subst h
          exact hq
      · have h := iq (fun z9 => (lC (f_To_numberKind_L10 Main_tape To_size To_place) none n1 z9)) hc317 h
        refine r_aload_n 0 dX7_numberKind_21 rfl ?_
        refine r_getf (v := .ref (ad 1)) _ dX7_numberKind_22 fl_X7_9 lX_34 rfl ?_
        refine r_aload_n 0 dX7_numberKind_25 rfl ?_
        refine r_getf (v := .int To_place_1) _ dX7_numberKind_26 fl_X7_67 lX_34 rfl ?_
        refine c_V (rest := []) 0 0 _ dX7_numberKind_29 kv_X7_87 (ct_Row_get lX_1 lX_2 (Nat.le_of_ble_eq_true rfl)) rfl rfl lX_1 rfl (Nat.le_of_ble_eq_true rfl) (by decide) (by decide) ?_
        refine c_S (rest := []) 0 0 dX7_numberKind_32 ks_X7_98 (ct_To_isDigit rfl) rfl rfl (Nat.le_of_ble_eq_true rfl) (by decide) (by decide) ?_
        refine r_if_eq (tgt := 77) dX7_numberKind_35 (by decide) (fun hc319 => ?_) (fun hc319 => ?_)
        · have h := ip (fun z9 => (lC (f_To_numberKind_L10 Main_tape To_size To_place) none n1 z9)) hc319 h
          refine r_aload_n 0 dX7_numberKind_77 rfl ?_
          refine r_getf (v := .int To_place_1) _ dX7_numberKind_78 fl_X7_67 lX_34 rfl ?_
          refine r_iload_n 1 dX7_numberKind_81 rfl ?_
          refine r_isub dX7_numberKind_82 ?_
          refine r_bipush (v := (6 : Int32)) dX7_numberKind_83 (by decide) ?_
          refine r_icmp_le (tgt := 94) dX7_numberKind_85 (by decide) (fun hc320 => ?_) (fun hc320 => ?_)
          · have h := ip (fun z9 => (lC (f_To_numberKind_L10 Main_tape To_size To_place) none n1 z9)) hc320 h
            refine r_sipush (v := (131 : Int32)) dX7_numberKind_94 (by decide) ?_
            refine r_iret dX7_numberKind_97 rfl ?_
            have h := Option.some.inj (show some _ = some o from h)
            subst h
            exact hq
          · have h := iq (fun z9 => (lC (f_To_numberKind_L10 Main_tape To_size To_place) none n1 z9)) hc320 h
            refine r_sipush (v := (133 : Int32)) dX7_numberKind_88 (by decide) ?_
            refine r_goto (tgt := 97) dX7_numberKind_91 (by decide) ?_
            refine r_iret dX7_numberKind_97 rfl ?_
            have h := Option.some.inj (show some _ = some o from h)
            subst h
            exact hq
        · have h := iq (fun z9 => (lC (f_To_numberKind_L10 Main_tape To_size To_place) none n1 z9)) hc319 h
          refine r_aload_n 0 dX7_numberKind_38 rfl ?_
          refine r_aload_n 0 dX7_numberKind_39 rfl ?_
          refine r_getf (v := .int To_number_1) _ dX7_numberKind_40 fl_X7_80 lX_34 rfl ?_
          refine r_bipush (v := (10 : Int32)) dX7_numberKind_43 (by decide) ?_
          refine r_imul dX7_numberKind_45 ?_
          refine r_aload_n 0 dX7_numberKind_46 rfl ?_
          refine r_getf (v := .ref (ad 1)) _ dX7_numberKind_47 fl_X7_9 lX_34 rfl ?_
          refine r_aload_n 0 dX7_numberKind_50 rfl ?_
          refine r_getf (v := .int To_place_1) _ dX7_numberKind_51 fl_X7_67 lX_34 rfl ?_
          refine c_V (rest := [.int (To_number_1 * (10 : Int32)), .ref (ad 34)]) 0 0 _ dX7_numberKind_54 kv_X7_87 (ct_Row_get lX_1 lX_2 (Nat.le_of_ble_eq_true rfl)) rfl rfl lX_1 rfl (Nat.le_of_ble_eq_true rfl) (by decide) (by decide) ?_
          refine r_bipush (v := (48 : Int32)) dX7_numberKind_57 (by decide) ?_
          refine r_isub dX7_numberKind_59 ?_
          refine r_iadd dX7_numberKind_60 ?_
          refine r_putf _ dX7_numberKind_61 fl_X7_80 lX_34 (Nat.le_of_ble_eq_true rfl) rfl rfl (sX_31 _) ?_
          refine r_aload_n 0 dX7_numberKind_64 rfl ?_
          refine r_dup dX7_numberKind_65 rfl ?_
          refine r_getf (v := .int To_place_1) _ dX7_numberKind_66 fl_X7_67 lX_34 rfl ?_
          refine r_iconst (v := (1 : Int32)) dX7_numberKind_69 (by decide) ?_
          refine r_iadd dX7_numberKind_70 ?_
          refine r_putf _ dX7_numberKind_71 fl_X7_67 lX_34 (Nat.le_of_ble_eq_true rfl) rfl rfl (sX_30 _) ?_
          refine r_goto (tgt := 10) dX7_numberKind_74 (by decide) ?_
          refine r_ls [0, 1] (ls2 := [(0, .ref (ad 34)), (1, .int To_place)]) rfl ?_
          exact ih1 (To_place_1 + (1 : Int32)) ((To_number_1 * (10 : Int32)) + ((rget 2000 Main_tape To_place_1) - (48 : Int32))) h
  exact L1 _ To_place (0 : Int32) h
theorem ct_To_numberKind {g : GG} {ad : Nat → Nat} {t : va_W} {x0 x1 x3 x4 x5 x11 x12 x18 x19 x20 x24 x25 x26 x27 x28 x37 x39 x40 x41 x47 x48 x54 x56 x58 x59 x60 x61 x63 x64 x65 x66 : Int32} {x6 x7 x8 x9 x10 x13 x14 x15 x16 x17 x21 x22 x23 x33 x34 x35 x42 x43 x44 x45 x46 x49 x50 x51 x52 x53 x62 x67 : Nat → Int32} {x32 : Int64} {x36 x38 x55 x57 : Nat → Int64} {N : Nat} {Main_tape : Nat → Int32} {To_size : Int32} {To_place : Int32} {To_number : Int32} {o : Int32 × Int32 × Int32} (h : f_To_numberKind N Main_tape To_size To_place To_number = some o) : Ct g mX7_numberKind 2 0 0 [.ref (ad 34)] (wlX g ad x0 x1 Main_tape x3 x4 x5 x6 x7 x8 x9 x10 x11 x12 x13 x14 x15 x16 x17 x18 x19 x20 x21 x22 x23 x24 x25 x26 x27 x28 To_size To_place To_number x32 x33 x34 x35 x36 x37 x38 x39 x40 x41 x42 x43 x44 x45 x46 x47 x48 x49 x50 x51 x52 x53 x54 x55 x56 x57 x58 x59 x60 x61 x62 x63 x64 x65 x66 x67 ++ t) (Dv (some (.int o.1)) (wlX g ad x0 x1 Main_tape x3 x4 x5 x6 x7 x8 x9 x10 x11 x12 x13 x14 x15 x16 x17 x18 x19 x20 x21 x22 x23 x24 x25 x26 x27 x28 To_size o.2.1 o.2.2 x32 x33 x34 x35 x36 x37 x38 x39 x40 x41 x42 x43 x44 x45 x46 x47 x48 x49 x50 x51 x52 x53 x54 x55 x56 x57 x58 x59 x60 x61 x62 x63 x64 x65 x66 x67 ++ t)) := Ct.ofR (by decide +kernel) rfl (Nat.le_of_ble_eq_true rfl) (rt_To_numberKind h ⟨rfl, rfl⟩)
set_option maxRecDepth 20000 in
set_option maxHeartbeats 4000000 in
theorem rt_To_pack {g : GG}  {t : va_W}  {p0 : Int64} {p2 : Int32} {o : Int64} {Q : Rs → va_W → Prop} (h : f_To_pack p0 p2 = o) (hq : Q (.inl (some (.long o))) t) : R g mX7_pack 2 0 0 0 [(0, .long p0), (2, .int p2)] [] t Q := by
  unfold f_To_pack at h
  refine r_lload_n 0 dX7_pack_0 rfl ?_
  refine r_ldc2 dX7_pack_1 kk_335 ?_
  refine r_lmul dX7_pack_4 ?_
  refine r_iload_n 1 dX7_pack_5 rfl ?_
  refine c_S (rest := [.long (p0 * (37 : Int64))]) 0 0 dX7_pack_6 ks_X7_98 (ct_To_isDigit rfl) rfl rfl (Nat.le_of_ble_eq_true rfl) (by decide) (by decide) ?_
  refine r_if_eq (tgt := 22) dX7_pack_9 (by decide) (fun hc321 => ?_) (fun hc321 => ?_)
  · have h := ip (fun z9 => z9) hc321 h
    refine r_iload_n 1 dX7_pack_22 rfl ?_
    refine r_bipush (v := (97 : Int32)) dX7_pack_23 (by decide) ?_
    refine r_isub dX7_pack_25 ?_
    refine r_iconst (v := (1 : Int32)) dX7_pack_26 (by decide) ?_
    refine r_iadd dX7_pack_27 ?_
    refine r_i2l dX7_pack_28 ?_
    refine r_ladd dX7_pack_29 ?_
    refine r_lret dX7_pack_30 rfl ?_
    have h : _ = o := h
    subst h
    exact hq
  · have h := iq (fun z9 => z9) hc321 h
    refine r_iload_n 1 dX7_pack_12 rfl ?_
    refine r_bipush (v := (48 : Int32)) dX7_pack_13 (by decide) ?_
    refine r_isub dX7_pack_15 ?_
    refine r_bipush (v := (27 : Int32)) dX7_pack_16 (by decide) ?_
    refine r_iadd dX7_pack_18 ?_
    refine r_goto (tgt := 28) dX7_pack_19 (by decide) ?_
    refine r_i2l dX7_pack_28 ?_
    refine r_ladd dX7_pack_29 ?_
    refine r_lret dX7_pack_30 rfl ?_
    have h : _ = o := h
    subst h
    exact hq
theorem ct_To_pack {g : GG}  {t : va_W}  {p0 : Int64} {p2 : Int32} {o : Int64} (h : f_To_pack p0 p2 = o) : Ct g mX7_pack 2 0 0 [.long p0, .int p2] t (Dv (some (.long o)) t) := Ct.ofR (by decide +kernel) rfl (Nat.le_of_ble_eq_true rfl) (rt_To_pack h ⟨rfl, rfl⟩)
set_option maxRecDepth 20000 in
set_option maxHeartbeats 4000000 in
theorem rt_To_wordKind {g : GG} {ad : Nat → Nat} {t : va_W} {x0 x1 x3 x4 x5 x11 x12 x18 x19 x20 x24 x25 x26 x27 x28 x31 x39 x40 x41 x47 x48 x54 x56 x58 x59 x60 x61 x63 x64 x65 x66 : Int32} {x6 x7 x8 x9 x10 x13 x14 x15 x16 x17 x21 x22 x23 x33 x34 x35 x42 x43 x44 x45 x46 x49 x50 x51 x52 x53 x62 x67 : Nat → Int32} {x36 x55 x57 : Nat → Int64} {N : Nat} {Main_tape : Nat → Int32} {To_size : Int32} {To_place : Int32} {To_word : Int64} {Na_count : Int32} {Na_words : Nat → Int64} {o : Int32 × Int32 × Int64} {Q : Rs → va_W → Prop} (h : f_To_wordKind N Main_tape To_size To_place To_word Na_count Na_words = some o) (hq : Q (.inl (some (.int o.1))) (wlX g ad x0 x1 Main_tape x3 x4 x5 x6 x7 x8 x9 x10 x11 x12 x13 x14 x15 x16 x17 x18 x19 x20 x21 x22 x23 x24 x25 x26 x27 x28 To_size o.2.1 x31 o.2.2 x33 x34 x35 x36 Na_count Na_words x39 x40 x41 x42 x43 x44 x45 x46 x47 x48 x49 x50 x51 x52 x53 x54 x55 x56 x57 x58 x59 x60 x61 x62 x63 x64 x65 x66 x67 ++ t)) : R g mX7_wordKind 3 0 0 0 [(0, .ref (ad 34))] [] (wlX g ad x0 x1 Main_tape x3 x4 x5 x6 x7 x8 x9 x10 x11 x12 x13 x14 x15 x16 x17 x18 x19 x20 x21 x22 x23 x24 x25 x26 x27 x28 To_size To_place x31 To_word x33 x34 x35 x36 Na_count Na_words x39 x40 x41 x42 x43 x44 x45 x46 x47 x48 x49 x50 x51 x52 x53 x54 x55 x56 x57 x58 x59 x60 x61 x62 x63 x64 x65 x66 x67 ++ t) Q := by
  unfold f_To_wordKind at h
  refine r_aload_n 0 dX7_wordKind_0 rfl ?_
  refine r_getf (v := .int To_place) _ dX7_wordKind_1 fl_X7_67 lX_34 rfl ?_
  refine r_istore_n [(1, .int To_place), (0, .ref (ad 34))] dX7_wordKind_4 (by decide) rfl ?_
  refine r_aload_n 1 dX7_wordKind_5 rfl ?_
  refine r_lconst (v := (0 : Int64)) dX7_wordKind_6 (by decide) ?_
  refine r_putf _ dX7_wordKind_7 fl_X7_83 lX_34 (Nat.le_of_ble_eq_true rfl) rfl rfl (sX_32 _) ?_
  refine r_ls [1, 0] (ls2 := [(0, .ref (ad 34)), (1, .int To_place)]) rfl ?_
  have L1 : ∀ (n1 : Nat) (To_place_1 : Int32) (To_word_1 : Int64), (fun z9 => z9) (lpS (f_To_wordKind_L10 Main_tape To_size To_place Na_count Na_words) none n1 (To_place_1, To_word_1)) = some o → R g mX7_wordKind 3 0 0 10 [(0, .ref (ad 34)), (1, .int To_place)] [] (wlX g ad x0 x1 Main_tape x3 x4 x5 x6 x7 x8 x9 x10 x11 x12 x13 x14 x15 x16 x17 x18 x19 x20 x21 x22 x23 x24 x25 x26 x27 x28 To_size To_place_1 x31 To_word_1 x33 x34 x35 x36 Na_count Na_words x39 x40 x41 x42 x43 x44 x45 x46 x47 x48 x49 x50 x51 x52 x53 x54 x55 x56 x57 x58 x59 x60 x61 x62 x63 x64 x65 x66 x67 ++ t) Q := by
    intro n1
    induction n1 with
    | zero => intro To_place_1 To_word_1 h; exact nomatch (show (none : Option _) = some _ from h)
    | succ n1 ih1 =>
      intro To_place_1 To_word_1 h
      have h : (fun z9 => (lC (f_To_wordKind_L10 Main_tape To_size To_place Na_count Na_words) none n1 z9)) (f_To_wordKind_L10 Main_tape To_size To_place Na_count Na_words (To_place_1, To_word_1)) = some o := h
      unfold f_To_wordKind_L10 at h
      try dsimp only at h
      refine r_aload_n 0 dX7_wordKind_10 rfl ?_
      refine r_getf (v := .int To_place_1) _ dX7_wordKind_11 fl_X7_67 lX_34 rfl ?_
      refine r_aload_n 0 dX7_wordKind_14 rfl ?_
      refine r_getf (v := .int To_size) _ dX7_wordKind_15 fl_X7_63 lX_34 rfl ?_
      refine r_icmp_ge (tgt := 90) dX7_wordKind_18 (by decide) (fun hc322 => ?_) (fun hc322 => ?_)
      · have h := ip (fun z9 => (lC (f_To_wordKind_L10 Main_tape To_size To_place Na_count Na_words) none n1 z9)) hc322 h
        refine r_aload_n 0 dX7_wordKind_90 rfl ?_
        refine r_getf (v := .int To_place_1) _ dX7_wordKind_91 fl_X7_67 lX_34 rfl ?_
        refine r_iload_n 1 dX7_wordKind_94 rfl ?_
        refine r_isub dX7_wordKind_95 ?_
        refine r_bipush (v := (10 : Int32)) dX7_wordKind_96 (by decide) ?_
        refine r_icmp_le (tgt := 105) dX7_wordKind_98 (by decide) (fun hc323 => ?_) (fun hc323 => ?_)
        · have h := ip (fun z9 => (lC (f_To_wordKind_L10 Main_tape To_size To_place Na_count Na_words) none n1 z9)) hc323 h
          refine r_aload_n 0 dX7_wordKind_105 rfl ?_
          refine r_getf (v := .ref (ad 42)) _ dX7_wordKind_106 fl_X7_36 lX_34 rfl ?_
          refine r_aload_n 0 dX7_wordKind_109 rfl ?_
          refine r_getf (v := .long To_word_1) _ dX7_wordKind_110 fl_X7_83 lX_34 rfl ?_
          refine c_V (rest := []) 0 0 _ dX7_wordKind_113 kv_X7_109 (ct_Na_find lX_42 lX_43 (Nat.le_of_ble_eq_true rfl)) rfl rfl lX_42 rfl (Nat.le_of_ble_eq_true rfl) (by decide) (by decide) ?_
          refine r_istore_n [(2, .int (nfind 25 Na_words Na_count To_word_1)), (0, .ref (ad 34)), (1, .int To_place)] dX7_wordKind_116 (by decide) rfl ?_
          refine r_iload_n 0 dX7_wordKind_117 rfl ?_
          refine r_if_lt (tgt := 129) dX7_wordKind_118 (by decide) (fun hc324 => ?_) (fun hc324 => ?_)
          · have h := ip (fun z9 => (lC (f_To_wordKind_L10 Main_tape To_size To_place Na_count Na_words) none n1 z9)) hc324 h
            refine r_sipush (v := (130 : Int32)) dX7_wordKind_129 (by decide) ?_
            refine r_iret dX7_wordKind_132 rfl ?_
            have h := Option.some.inj (show some _ = some o from h)
            subst h
            exact hq
          · have h := iq (fun z9 => (lC (f_To_wordKind_L10 Main_tape To_size To_place Na_count Na_words) none n1 z9)) hc324 h
            refine r_sipush (v := (200 : Int32)) dX7_wordKind_121 (by decide) ?_
            refine r_iload_n 0 dX7_wordKind_124 rfl ?_
            refine r_iadd dX7_wordKind_125 ?_
            refine r_goto (tgt := 132) dX7_wordKind_126 (by decide) ?_
            refine r_iret dX7_wordKind_132 rfl ?_
            have h := Option.some.inj (show some _ = some o from h)
            subst h
            exact hq
        · have h := iq (fun z9 => (lC (f_To_wordKind_L10 Main_tape To_size To_place Na_count Na_words) none n1 z9)) hc323 h
          refine r_sipush (v := (133 : Int32)) dX7_wordKind_101 (by decide) ?_
          refine r_iret dX7_wordKind_104 rfl ?_
          have h := Option.some.inj (show some _ = some o from h)
          subst h
          exact hq
      · have h := iq (fun z9 => (lC (f_To_wordKind_L10 Main_tape To_size To_place Na_count Na_words) none n1 z9)) hc322 h
        refine r_aload_n 0 dX7_wordKind_21 rfl ?_
        refine r_getf (v := .ref (ad 1)) _ dX7_wordKind_22 fl_X7_9 lX_34 rfl ?_
        refine r_aload_n 0 dX7_wordKind_25 rfl ?_
        refine r_getf (v := .int To_place_1) _ dX7_wordKind_26 fl_X7_67 lX_34 rfl ?_
        refine c_V (rest := []) 0 0 _ dX7_wordKind_29 kv_X7_87 (ct_Row_get lX_1 lX_2 (Nat.le_of_ble_eq_true rfl)) rfl rfl lX_1 rfl (Nat.le_of_ble_eq_true rfl) (by decide) (by decide) ?_
        refine c_S (rest := []) 0 0 dX7_wordKind_32 ks_X7_91 (ct_To_isLetter rfl) rfl rfl (Nat.le_of_ble_eq_true rfl) (by decide) (by decide) ?_
        refine r_if_ne (tgt := 55) dX7_wordKind_35 (by decide) (fun hc325 => ?_) (fun hc325 => ?_)
        · have h := iq (fun z9 => (lC (f_To_wordKind_L10 Main_tape To_size To_place Na_count Na_words) none n1 z9)) hc325 h
          refine r_aload_n 0 dX7_wordKind_55 rfl ?_
          refine r_aload_n 0 dX7_wordKind_56 rfl ?_
          refine r_getf (v := .long To_word_1) _ dX7_wordKind_57 fl_X7_83 lX_34 rfl ?_
          refine r_aload_n 0 dX7_wordKind_60 rfl ?_
          refine r_getf (v := .ref (ad 1)) _ dX7_wordKind_61 fl_X7_9 lX_34 rfl ?_
          refine r_aload_n 0 dX7_wordKind_64 rfl ?_
          refine r_getf (v := .int To_place_1) _ dX7_wordKind_65 fl_X7_67 lX_34 rfl ?_
          refine c_V (rest := [.long To_word_1, .ref (ad 34)]) 0 0 _ dX7_wordKind_68 kv_X7_87 (ct_Row_get lX_1 lX_2 (Nat.le_of_ble_eq_true rfl)) rfl rfl lX_1 rfl (Nat.le_of_ble_eq_true rfl) (by decide) (by decide) ?_
          refine c_S (rest := [.ref (ad 34)]) 0 0 dX7_wordKind_71 ks_X7_59 (ct_To_pack rfl) rfl rfl (Nat.le_of_ble_eq_true rfl) (by decide) (by decide) ?_
          refine r_putf _ dX7_wordKind_74 fl_X7_83 lX_34 (Nat.le_of_ble_eq_true rfl) rfl rfl (sX_32 _) ?_
          refine r_aload_n 0 dX7_wordKind_77 rfl ?_
          refine r_dup dX7_wordKind_78 rfl ?_
          refine r_getf (v := .int To_place_1) _ dX7_wordKind_79 fl_X7_67 lX_34 rfl ?_
          refine r_iconst (v := (1 : Int32)) dX7_wordKind_82 (by decide) ?_
          refine r_iadd dX7_wordKind_83 ?_
          refine r_putf _ dX7_wordKind_84 fl_X7_67 lX_34 (Nat.le_of_ble_eq_true rfl) rfl rfl (sX_30 _) ?_
          refine r_goto (tgt := 10) dX7_wordKind_87 (by decide) ?_
          refine r_ls [0, 1] (ls2 := [(0, .ref (ad 34)), (1, .int To_place)]) rfl ?_
          exact ih1 (To_place_1 + (1 : Int32)) (f_To_pack To_word_1 (rget 2000 Main_tape To_place_1)) h
        · have h := ip (fun z9 => (lC (f_To_wordKind_L10 Main_tape To_size To_place Na_count Na_words) none n1 z9)) hc325 h
          refine r_aload_n 0 dX7_wordKind_38 rfl ?_
          refine r_getf (v := .ref (ad 1)) _ dX7_wordKind_39 fl_X7_9 lX_34 rfl ?_
          refine r_aload_n 0 dX7_wordKind_42 rfl ?_
          refine r_getf (v := .int To_place_1) _ dX7_wordKind_43 fl_X7_67 lX_34 rfl ?_
          refine c_V (rest := []) 0 0 _ dX7_wordKind_46 kv_X7_87 (ct_Row_get lX_1 lX_2 (Nat.le_of_ble_eq_true rfl)) rfl rfl lX_1 rfl (Nat.le_of_ble_eq_true rfl) (by decide) (by decide) ?_
          refine c_S (rest := []) 0 0 dX7_wordKind_49 ks_X7_98 (ct_To_isDigit rfl) rfl rfl (Nat.le_of_ble_eq_true rfl) (by decide) (by decide) ?_
          refine r_if_eq (tgt := 90) dX7_wordKind_52 (by decide) (fun hc326 => ?_) (fun hc326 => ?_)
          · have h := ip (fun z9 => (lC (f_To_wordKind_L10 Main_tape To_size To_place Na_count Na_words) none n1 z9)) hc326 h
            refine r_aload_n 0 dX7_wordKind_90 rfl ?_
            refine r_getf (v := .int To_place_1) _ dX7_wordKind_91 fl_X7_67 lX_34 rfl ?_
            refine r_iload_n 1 dX7_wordKind_94 rfl ?_
            refine r_isub dX7_wordKind_95 ?_
            refine r_bipush (v := (10 : Int32)) dX7_wordKind_96 (by decide) ?_
            refine r_icmp_le (tgt := 105) dX7_wordKind_98 (by decide) (fun hc327 => ?_) (fun hc327 => ?_)
            · have h := ip (fun z9 => (lC (f_To_wordKind_L10 Main_tape To_size To_place Na_count Na_words) none n1 z9)) hc327 h
              refine r_aload_n 0 dX7_wordKind_105 rfl ?_
              refine r_getf (v := .ref (ad 42)) _ dX7_wordKind_106 fl_X7_36 lX_34 rfl ?_
              refine r_aload_n 0 dX7_wordKind_109 rfl ?_
              refine r_getf (v := .long To_word_1) _ dX7_wordKind_110 fl_X7_83 lX_34 rfl ?_
              refine c_V (rest := []) 0 0 _ dX7_wordKind_113 kv_X7_109 (ct_Na_find lX_42 lX_43 (Nat.le_of_ble_eq_true rfl)) rfl rfl lX_42 rfl (Nat.le_of_ble_eq_true rfl) (by decide) (by decide) ?_
              refine r_istore_n [(2, .int (nfind 25 Na_words Na_count To_word_1)), (0, .ref (ad 34)), (1, .int To_place)] dX7_wordKind_116 (by decide) rfl ?_
              refine r_iload_n 0 dX7_wordKind_117 rfl ?_
              refine r_if_lt (tgt := 129) dX7_wordKind_118 (by decide) (fun hc328 => ?_) (fun hc328 => ?_)
              · have h := ip (fun z9 => (lC (f_To_wordKind_L10 Main_tape To_size To_place Na_count Na_words) none n1 z9)) hc328 h
                refine r_sipush (v := (130 : Int32)) dX7_wordKind_129 (by decide) ?_
                refine r_iret dX7_wordKind_132 rfl ?_
                have h := Option.some.inj (show some _ = some o from h)
                subst h
                exact hq
              · have h := iq (fun z9 => (lC (f_To_wordKind_L10 Main_tape To_size To_place Na_count Na_words) none n1 z9)) hc328 h
                refine r_sipush (v := (200 : Int32)) dX7_wordKind_121 (by decide) ?_
                refine r_iload_n 0 dX7_wordKind_124 rfl ?_
                refine r_iadd dX7_wordKind_125 ?_
                refine r_goto (tgt := 132) dX7_wordKind_126 (by decide) ?_
                refine r_iret dX7_wordKind_132 rfl ?_
                have h := Option.some.inj (show some _ = some o from h)
                subst h
                exact hq
            · have h := iq (fun z9 => (lC (f_To_wordKind_L10 Main_tape To_size To_place Na_count Na_words) none n1 z9)) hc327 h
              refine r_sipush (v := (133 : Int32)) dX7_wordKind_101 (by decide) ?_
              refine r_iret dX7_wordKind_104 rfl ?_
              have h := Option.some.inj (show some _ = some o from h)
              subst h
              exact hq
          · have h := iq (fun z9 => (lC (f_To_wordKind_L10 Main_tape To_size To_place Na_count Na_words) none n1 z9)) hc326 h
            refine r_aload_n 0 dX7_wordKind_55 rfl ?_
            refine r_aload_n 0 dX7_wordKind_56 rfl ?_
            refine r_getf (v := .long To_word_1) _ dX7_wordKind_57 fl_X7_83 lX_34 rfl ?_
            refine r_aload_n 0 dX7_wordKind_60 rfl ?_
            refine r_getf (v := .ref (ad 1)) _ dX7_wordKind_61 fl_X7_9 lX_34 rfl ?_
            refine r_aload_n 0 dX7_wordKind_64 rfl ?_
            refine r_getf (v := .int To_place_1) _ dX7_wordKind_65 fl_X7_67 lX_34 rfl ?_
            refine c_V (rest := [.long To_word_1, .ref (ad 34)]) 0 0 _ dX7_wordKind_68 kv_X7_87 (ct_Row_get lX_1 lX_2 (Nat.le_of_ble_eq_true rfl)) rfl rfl lX_1 rfl (Nat.le_of_ble_eq_true rfl) (by decide) (by decide) ?_
            refine c_S (rest := [.ref (ad 34)]) 0 0 dX7_wordKind_71 ks_X7_59 (ct_To_pack rfl) rfl rfl (Nat.le_of_ble_eq_true rfl) (by decide) (by decide) ?_
            refine r_putf _ dX7_wordKind_74 fl_X7_83 lX_34 (Nat.le_of_ble_eq_true rfl) rfl rfl (sX_32 _) ?_
            refine r_aload_n 0 dX7_wordKind_77 rfl ?_
            refine r_dup dX7_wordKind_78 rfl ?_
            refine r_getf (v := .int To_place_1) _ dX7_wordKind_79 fl_X7_67 lX_34 rfl ?_
            refine r_iconst (v := (1 : Int32)) dX7_wordKind_82 (by decide) ?_
            refine r_iadd dX7_wordKind_83 ?_
            refine r_putf _ dX7_wordKind_84 fl_X7_67 lX_34 (Nat.le_of_ble_eq_true rfl) rfl rfl (sX_30 _) ?_
            refine r_goto (tgt := 10) dX7_wordKind_87 (by decide) ?_
            refine r_ls [0, 1] (ls2 := [(0, .ref (ad 34)), (1, .int To_place)]) rfl ?_
            exact ih1 (To_place_1 + (1 : Int32)) (f_To_pack To_word_1 (rget 2000 Main_tape To_place_1)) h
  exact L1 _ To_place (0 : Int64) h
theorem ct_To_wordKind {g : GG} {ad : Nat → Nat} {t : va_W} {x0 x1 x3 x4 x5 x11 x12 x18 x19 x20 x24 x25 x26 x27 x28 x31 x39 x40 x41 x47 x48 x54 x56 x58 x59 x60 x61 x63 x64 x65 x66 : Int32} {x6 x7 x8 x9 x10 x13 x14 x15 x16 x17 x21 x22 x23 x33 x34 x35 x42 x43 x44 x45 x46 x49 x50 x51 x52 x53 x62 x67 : Nat → Int32} {x36 x55 x57 : Nat → Int64} {N : Nat} {Main_tape : Nat → Int32} {To_size : Int32} {To_place : Int32} {To_word : Int64} {Na_count : Int32} {Na_words : Nat → Int64} {o : Int32 × Int32 × Int64} (h : f_To_wordKind N Main_tape To_size To_place To_word Na_count Na_words = some o) : Ct g mX7_wordKind 3 0 0 [.ref (ad 34)] (wlX g ad x0 x1 Main_tape x3 x4 x5 x6 x7 x8 x9 x10 x11 x12 x13 x14 x15 x16 x17 x18 x19 x20 x21 x22 x23 x24 x25 x26 x27 x28 To_size To_place x31 To_word x33 x34 x35 x36 Na_count Na_words x39 x40 x41 x42 x43 x44 x45 x46 x47 x48 x49 x50 x51 x52 x53 x54 x55 x56 x57 x58 x59 x60 x61 x62 x63 x64 x65 x66 x67 ++ t) (Dv (some (.int o.1)) (wlX g ad x0 x1 Main_tape x3 x4 x5 x6 x7 x8 x9 x10 x11 x12 x13 x14 x15 x16 x17 x18 x19 x20 x21 x22 x23 x24 x25 x26 x27 x28 To_size o.2.1 x31 o.2.2 x33 x34 x35 x36 Na_count Na_words x39 x40 x41 x42 x43 x44 x45 x46 x47 x48 x49 x50 x51 x52 x53 x54 x55 x56 x57 x58 x59 x60 x61 x62 x63 x64 x65 x66 x67 ++ t)) := Ct.ofR (by decide +kernel) rfl (Nat.le_of_ble_eq_true rfl) (rt_To_wordKind h ⟨rfl, rfl⟩)
set_option maxRecDepth 20000 in
set_option maxHeartbeats 4000000 in
theorem rt_To_nextKind {g : GG} {ad : Nat → Nat} {t : va_W} {x0 x1 x3 x4 x5 x11 x12 x18 x19 x20 x24 x25 x26 x27 x28 x39 x40 x41 x47 x48 x54 x56 x58 x59 x60 x61 x63 x64 x65 x66 : Int32} {x6 x7 x8 x9 x10 x13 x14 x15 x16 x17 x21 x22 x23 x33 x34 x35 x42 x43 x44 x45 x46 x49 x50 x51 x52 x53 x62 x67 : Nat → Int32} {x36 x55 x57 : Nat → Int64} {N : Nat} {Main_tape : Nat → Int32} {To_size : Int32} {To_place : Int32} {To_number : Int32} {To_word : Int64} {Na_count : Int32} {Na_words : Nat → Int64} {o : Int32 × Int32 × Int32 × Int64} {Q : Rs → va_W → Prop} (h : f_To_nextKind N Main_tape To_size To_place To_number To_word Na_count Na_words = some o) (hq : Q (.inl (some (.int o.1))) (wlX g ad x0 x1 Main_tape x3 x4 x5 x6 x7 x8 x9 x10 x11 x12 x13 x14 x15 x16 x17 x18 x19 x20 x21 x22 x23 x24 x25 x26 x27 x28 To_size o.2.1 o.2.2.1 o.2.2.2 x33 x34 x35 x36 Na_count Na_words x39 x40 x41 x42 x43 x44 x45 x46 x47 x48 x49 x50 x51 x52 x53 x54 x55 x56 x57 x58 x59 x60 x61 x62 x63 x64 x65 x66 x67 ++ t)) : R g mX7_nextKind 5 0 0 0 [(0, .ref (ad 34))] [] (wlX g ad x0 x1 Main_tape x3 x4 x5 x6 x7 x8 x9 x10 x11 x12 x13 x14 x15 x16 x17 x18 x19 x20 x21 x22 x23 x24 x25 x26 x27 x28 To_size To_place To_number To_word x33 x34 x35 x36 Na_count Na_words x39 x40 x41 x42 x43 x44 x45 x46 x47 x48 x49 x50 x51 x52 x53 x54 x55 x56 x57 x58 x59 x60 x61 x62 x63 x64 x65 x66 x67 ++ t) Q := by
  unfold f_To_nextKind at h
  refine r_aload_n 0 dX7_nextKind_0 rfl ?_
  refine r_getf (v := .int To_place) _ dX7_nextKind_1 fl_X7_67 lX_34 rfl ?_
  refine r_aload_n 0 dX7_nextKind_4 rfl ?_
  refine r_getf (v := .int To_size) _ dX7_nextKind_5 fl_X7_63 lX_34 rfl ?_
  refine r_icmp_lt (tgt := 15) dX7_nextKind_8 (by decide) (fun hc329 => ?_) (fun hc329 => ?_)
  · have h := ip (fun z9 => z9) hc329 h
    refine r_aload_n 0 dX7_nextKind_15 rfl ?_
    refine r_getf (v := .ref (ad 1)) _ dX7_nextKind_16 fl_X7_9 lX_34 rfl ?_
    refine r_aload_n 0 dX7_nextKind_19 rfl ?_
    refine r_getf (v := .int To_place) _ dX7_nextKind_20 fl_X7_67 lX_34 rfl ?_
    refine c_V (rest := []) 0 0 _ dX7_nextKind_23 kv_X7_87 (ct_Row_get lX_1 lX_2 (Nat.le_of_ble_eq_true rfl)) rfl rfl lX_1 rfl (Nat.le_of_ble_eq_true rfl) (by decide) (by decide) ?_
    refine r_istore_n [(1, .int (rget 2000 Main_tape To_place)), (0, .ref (ad 34))] dX7_nextKind_26 (by decide) rfl ?_
    refine r_iload_n 0 dX7_nextKind_27 rfl ?_
    refine c_S (rest := []) 0 0 dX7_nextKind_28 ks_X7_91 (ct_To_isLetter rfl) rfl rfl (Nat.le_of_ble_eq_true rfl) (by decide) (by decide) ?_
    refine r_if_eq (tgt := 39) dX7_nextKind_31 (by decide) (fun hc330 => ?_) (fun hc330 => ?_)
    · have h := ip (fun z9 => z9) hc330 h
      refine r_iload_n 0 dX7_nextKind_39 rfl ?_
      refine c_S (rest := []) 0 0 dX7_nextKind_40 ks_X7_98 (ct_To_isDigit rfl) rfl rfl (Nat.le_of_ble_eq_true rfl) (by decide) (by decide) ?_
      refine r_if_eq (tgt := 51) dX7_nextKind_43 (by decide) (fun hc331 => ?_) (fun hc331 => ?_)
      · have h := ip (fun z9 => z9) hc331 h
        refine r_aload_n 1 dX7_nextKind_51 rfl ?_
        refine r_dup dX7_nextKind_52 rfl ?_
        refine r_getf (v := .int To_place) _ dX7_nextKind_53 fl_X7_67 lX_34 rfl ?_
        refine r_iconst (v := (1 : Int32)) dX7_nextKind_56 (by decide) ?_
        refine r_iadd dX7_nextKind_57 ?_
        refine r_putf _ dX7_nextKind_58 fl_X7_67 lX_34 (Nat.le_of_ble_eq_true rfl) rfl rfl (sX_30 _) ?_
        refine r_iload_n 0 dX7_nextKind_61 rfl ?_
        refine r_bipush (v := (60 : Int32)) dX7_nextKind_62 (by decide) ?_
        refine r_icmp_eq (tgt := 73) dX7_nextKind_64 (by decide) (fun hc332 => ?_) (fun hc332 => ?_)
        · have h := ip (fun z9 => z9) hc332 h
          refine r_aload_n 1 dX7_nextKind_73 rfl ?_
          refine r_getf (v := .int (To_place + (1 : Int32))) _ dX7_nextKind_74 fl_X7_67 lX_34 rfl ?_
          refine r_aload_n 1 dX7_nextKind_77 rfl ?_
          refine r_getf (v := .int To_size) _ dX7_nextKind_78 fl_X7_63 lX_34 rfl ?_
          refine r_icmp_ge (tgt := 126) dX7_nextKind_81 (by decide) (fun hc333 => ?_) (fun hc333 => ?_)
          · have h := ip (fun z9 => z9) hc333 h
            refine r_ldcS (i := 12) dX7_nextKind_126 rfl ?_
            refine r_iload_n 0 dX7_nextKind_128 rfl ?_
            refine r_i2c dX7_nextKind_129 ?_
            obtain ⟨r334, hc335, h⟩ := ob (fun z9 => z9) rfl h
            refine c_K (rest := []) 0 0 dX7_nextKind_130 kv_X7_106 rfl (by decide) (ct_J0_indexOf_0f7a4 hc335 (by decide)) rfl rfl (Nat.le_of_ble_eq_true rfl) (by decide) (by decide) ?_
            refine r_if_lt (tgt := 140) dX7_nextKind_133 (by decide) (fun hc336 => ?_) (fun hc336 => ?_)
            · have h := ip (fun z9 => z9) hc336 h
              refine r_sipush (v := (133 : Int32)) dX7_nextKind_140 (by decide) ?_
              refine r_iret dX7_nextKind_143 rfl ?_
              have h := Option.some.inj (show some _ = some o from h)
              subst h
              exact hq
            · have h := iq (fun z9 => z9) hc336 h
              refine r_iload_n 0 dX7_nextKind_136 rfl ?_
              refine r_goto (tgt := 143) dX7_nextKind_137 (by decide) ?_
              refine r_iret dX7_nextKind_143 rfl ?_
              have h := Option.some.inj (show some _ = some o from h)
              subst h
              exact hq
          · have h := iq (fun z9 => z9) hc333 h
            refine r_aload_n 1 dX7_nextKind_84 rfl ?_
            refine r_getf (v := .ref (ad 1)) _ dX7_nextKind_85 fl_X7_9 lX_34 rfl ?_
            refine r_aload_n 1 dX7_nextKind_88 rfl ?_
            refine r_getf (v := .int (To_place + (1 : Int32))) _ dX7_nextKind_89 fl_X7_67 lX_34 rfl ?_
            refine c_V (rest := []) 0 0 _ dX7_nextKind_92 kv_X7_87 (ct_Row_get lX_1 lX_2 (Nat.le_of_ble_eq_true rfl)) rfl rfl lX_1 rfl (Nat.le_of_ble_eq_true rfl) (by decide) (by decide) ?_
            refine r_bipush (v := (61 : Int32)) dX7_nextKind_95 (by decide) ?_
            refine r_icmp_ne (tgt := 126) dX7_nextKind_97 (by decide) (fun hc337 => ?_) (fun hc337 => ?_)
            · have h := iq (fun z9 => z9) hc337 h
              refine r_ldcS (i := 12) dX7_nextKind_126 rfl ?_
              refine r_iload_n 0 dX7_nextKind_128 rfl ?_
              refine r_i2c dX7_nextKind_129 ?_
              obtain ⟨r338, hc339, h⟩ := ob (fun z9 => z9) rfl h
              refine c_K (rest := []) 0 0 dX7_nextKind_130 kv_X7_106 rfl (by decide) (ct_J0_indexOf_0f7a4 hc339 (by decide)) rfl rfl (Nat.le_of_ble_eq_true rfl) (by decide) (by decide) ?_
              refine r_if_lt (tgt := 140) dX7_nextKind_133 (by decide) (fun hc340 => ?_) (fun hc340 => ?_)
              · have h := ip (fun z9 => z9) hc340 h
                refine r_sipush (v := (133 : Int32)) dX7_nextKind_140 (by decide) ?_
                refine r_iret dX7_nextKind_143 rfl ?_
                have h := Option.some.inj (show some _ = some o from h)
                subst h
                exact hq
              · have h := iq (fun z9 => z9) hc340 h
                refine r_iload_n 0 dX7_nextKind_136 rfl ?_
                refine r_goto (tgt := 143) dX7_nextKind_137 (by decide) ?_
                refine r_iret dX7_nextKind_143 rfl ?_
                have h := Option.some.inj (show some _ = some o from h)
                subst h
                exact hq
            · have h := ip (fun z9 => z9) hc337 h
              refine r_aload_n 1 dX7_nextKind_100 rfl ?_
              refine r_dup dX7_nextKind_101 rfl ?_
              refine r_getf (v := .int (To_place + (1 : Int32))) _ dX7_nextKind_102 fl_X7_67 lX_34 rfl ?_
              refine r_iconst (v := (1 : Int32)) dX7_nextKind_105 (by decide) ?_
              refine r_iadd dX7_nextKind_106 ?_
              refine r_putf _ dX7_nextKind_107 fl_X7_67 lX_34 (Nat.le_of_ble_eq_true rfl) rfl rfl (sX_30 _) ?_
              refine r_iload_n 0 dX7_nextKind_110 rfl ?_
              refine r_bipush (v := (60 : Int32)) dX7_nextKind_111 (by decide) ?_
              refine r_icmp_ne (tgt := 122) dX7_nextKind_113 (by decide) (fun hc341 => ?_) (fun hc341 => ?_)
              · have h := iq (fun z9 => z9) hc341 h
                refine r_sipush (v := (129 : Int32)) dX7_nextKind_122 (by decide) ?_
                refine r_iret dX7_nextKind_125 rfl ?_
                have h := Option.some.inj (show some _ = some o from h)
                subst h
                exact hq
              · have h := ip (fun z9 => z9) hc341 h
                refine r_sipush (v := (128 : Int32)) dX7_nextKind_116 (by decide) ?_
                refine r_goto (tgt := 125) dX7_nextKind_119 (by decide) ?_
                refine r_iret dX7_nextKind_125 rfl ?_
                have h := Option.some.inj (show some _ = some o from h)
                subst h
                exact hq
        · have h := iq (fun z9 => z9) hc332 h
          refine r_iload_n 0 dX7_nextKind_67 rfl ?_
          refine r_bipush (v := (62 : Int32)) dX7_nextKind_68 (by decide) ?_
          refine r_icmp_ne (tgt := 126) dX7_nextKind_70 (by decide) (fun hc342 => ?_) (fun hc342 => ?_)
          · have h := iq (fun z9 => z9) hc342 h
            refine r_ldcS (i := 12) dX7_nextKind_126 rfl ?_
            refine r_iload_n 0 dX7_nextKind_128 rfl ?_
            refine r_i2c dX7_nextKind_129 ?_
            obtain ⟨r343, hc344, h⟩ := ob (fun z9 => z9) rfl h
            refine c_K (rest := []) 0 0 dX7_nextKind_130 kv_X7_106 rfl (by decide) (ct_J0_indexOf_0f7a4 hc344 (by decide)) rfl rfl (Nat.le_of_ble_eq_true rfl) (by decide) (by decide) ?_
            refine r_if_lt (tgt := 140) dX7_nextKind_133 (by decide) (fun hc345 => ?_) (fun hc345 => ?_)
            · have h := ip (fun z9 => z9) hc345 h
              refine r_sipush (v := (133 : Int32)) dX7_nextKind_140 (by decide) ?_
              refine r_iret dX7_nextKind_143 rfl ?_
              have h := Option.some.inj (show some _ = some o from h)
              subst h
              exact hq
            · have h := iq (fun z9 => z9) hc345 h
              refine r_iload_n 0 dX7_nextKind_136 rfl ?_
              refine r_goto (tgt := 143) dX7_nextKind_137 (by decide) ?_
              refine r_iret dX7_nextKind_143 rfl ?_
              have h := Option.some.inj (show some _ = some o from h)
              subst h
              exact hq
          · have h := ip (fun z9 => z9) hc342 h
            refine r_aload_n 1 dX7_nextKind_73 rfl ?_
            refine r_getf (v := .int (To_place + (1 : Int32))) _ dX7_nextKind_74 fl_X7_67 lX_34 rfl ?_
            refine r_aload_n 1 dX7_nextKind_77 rfl ?_
            refine r_getf (v := .int To_size) _ dX7_nextKind_78 fl_X7_63 lX_34 rfl ?_
            refine r_icmp_ge (tgt := 126) dX7_nextKind_81 (by decide) (fun hc346 => ?_) (fun hc346 => ?_)
            · have h := ip (fun z9 => z9) hc346 h
              refine r_ldcS (i := 12) dX7_nextKind_126 rfl ?_
              refine r_iload_n 0 dX7_nextKind_128 rfl ?_
              refine r_i2c dX7_nextKind_129 ?_
              obtain ⟨r347, hc348, h⟩ := ob (fun z9 => z9) rfl h
              refine c_K (rest := []) 0 0 dX7_nextKind_130 kv_X7_106 rfl (by decide) (ct_J0_indexOf_0f7a4 hc348 (by decide)) rfl rfl (Nat.le_of_ble_eq_true rfl) (by decide) (by decide) ?_
              refine r_if_lt (tgt := 140) dX7_nextKind_133 (by decide) (fun hc349 => ?_) (fun hc349 => ?_)
              · have h := ip (fun z9 => z9) hc349 h
                refine r_sipush (v := (133 : Int32)) dX7_nextKind_140 (by decide) ?_
                refine r_iret dX7_nextKind_143 rfl ?_
                have h := Option.some.inj (show some _ = some o from h)
                subst h
                exact hq
              · have h := iq (fun z9 => z9) hc349 h
                refine r_iload_n 0 dX7_nextKind_136 rfl ?_
                refine r_goto (tgt := 143) dX7_nextKind_137 (by decide) ?_
                refine r_iret dX7_nextKind_143 rfl ?_
                have h := Option.some.inj (show some _ = some o from h)
                subst h
                exact hq
            · have h := iq (fun z9 => z9) hc346 h
              refine r_aload_n 1 dX7_nextKind_84 rfl ?_
              refine r_getf (v := .ref (ad 1)) _ dX7_nextKind_85 fl_X7_9 lX_34 rfl ?_
              refine r_aload_n 1 dX7_nextKind_88 rfl ?_
              refine r_getf (v := .int (To_place + (1 : Int32))) _ dX7_nextKind_89 fl_X7_67 lX_34 rfl ?_
              refine c_V (rest := []) 0 0 _ dX7_nextKind_92 kv_X7_87 (ct_Row_get lX_1 lX_2 (Nat.le_of_ble_eq_true rfl)) rfl rfl lX_1 rfl (Nat.le_of_ble_eq_true rfl) (by decide) (by decide) ?_
              refine r_bipush (v := (61 : Int32)) dX7_nextKind_95 (by decide) ?_
              refine r_icmp_ne (tgt := 126) dX7_nextKind_97 (by decide) (fun hc350 => ?_) (fun hc350 => ?_)
              · have h := iq (fun z9 => z9) hc350 h
                refine r_ldcS (i := 12) dX7_nextKind_126 rfl ?_
                refine r_iload_n 0 dX7_nextKind_128 rfl ?_
                refine r_i2c dX7_nextKind_129 ?_
                obtain ⟨r351, hc352, h⟩ := ob (fun z9 => z9) rfl h
                refine c_K (rest := []) 0 0 dX7_nextKind_130 kv_X7_106 rfl (by decide) (ct_J0_indexOf_0f7a4 hc352 (by decide)) rfl rfl (Nat.le_of_ble_eq_true rfl) (by decide) (by decide) ?_
                refine r_if_lt (tgt := 140) dX7_nextKind_133 (by decide) (fun hc353 => ?_) (fun hc353 => ?_)
                · have h := ip (fun z9 => z9) hc353 h
                  refine r_sipush (v := (133 : Int32)) dX7_nextKind_140 (by decide) ?_
                  refine r_iret dX7_nextKind_143 rfl ?_
                  have h := Option.some.inj (show some _ = some o from h)
                  subst h
                  exact hq
                · have h := iq (fun z9 => z9) hc353 h
                  refine r_iload_n 0 dX7_nextKind_136 rfl ?_
                  refine r_goto (tgt := 143) dX7_nextKind_137 (by decide) ?_
                  refine r_iret dX7_nextKind_143 rfl ?_
                  have h := Option.some.inj (show some _ = some o from h)
                  subst h
                  exact hq
              · have h := ip (fun z9 => z9) hc350 h
                refine r_aload_n 1 dX7_nextKind_100 rfl ?_
                refine r_dup dX7_nextKind_101 rfl ?_
                refine r_getf (v := .int (To_place + (1 : Int32))) _ dX7_nextKind_102 fl_X7_67 lX_34 rfl ?_
                refine r_iconst (v := (1 : Int32)) dX7_nextKind_105 (by decide) ?_
                refine r_iadd dX7_nextKind_106 ?_
                refine r_putf _ dX7_nextKind_107 fl_X7_67 lX_34 (Nat.le_of_ble_eq_true rfl) rfl rfl (sX_30 _) ?_
                refine r_iload_n 0 dX7_nextKind_110 rfl ?_
                refine r_bipush (v := (60 : Int32)) dX7_nextKind_111 (by decide) ?_
                refine r_icmp_ne (tgt := 122) dX7_nextKind_113 (by decide) (fun hc354 => ?_) (fun hc354 => ?_)
                · have h := iq (fun z9 => z9) hc354 h
                  refine r_sipush (v := (129 : Int32)) dX7_nextKind_122 (by decide) ?_
                  refine r_iret dX7_nextKind_125 rfl ?_
                  have h := Option.some.inj (show some _ = some o from h)
                  subst h
                  exact hq
                · have h := ip (fun z9 => z9) hc354 h
                  refine r_sipush (v := (128 : Int32)) dX7_nextKind_116 (by decide) ?_
                  refine r_goto (tgt := 125) dX7_nextKind_119 (by decide) ?_
                  refine r_iret dX7_nextKind_125 rfl ?_
                  have h := Option.some.inj (show some _ = some o from h)
                  subst h
                  exact hq
      · have h := iq (fun z9 => z9) hc331 h
        refine r_aload_n 1 dX7_nextKind_46 rfl ?_
        obtain ⟨r355, hc356, h⟩ := ob (fun z9 => z9) rfl h
        refine c_V (rest := []) 0 0 _ dX7_nextKind_47 kv_X7_101 (ct_To_numberKind hc356) rfl rfl lX_34 rfl (Nat.le_of_ble_eq_true rfl) (by decide) (by decide) ?_
        refine r_iret dX7_nextKind_50 rfl ?_
        have h := Option.some.inj (show some _ = some o from h)
        subst h
        exact hq
    · have h := iq (fun z9 => z9) hc330 h
      refine r_aload_n 1 dX7_nextKind_34 rfl ?_
      obtain ⟨r357, hc358, h⟩ := ob (fun z9 => z9) rfl h
      refine c_V (rest := []) 0 0 _ dX7_nextKind_35 kv_X7_95 (ct_To_wordKind hc358) rfl rfl lX_34 rfl (Nat.le_of_ble_eq_true rfl) (by decide) (by decide) ?_
      refine r_iret dX7_nextKind_38 rfl ?_
      have h := Option.some.inj (show some _ = some o from h)
      subst h
      exact hq
  · have h := iq (fun z9 => z9) hc329 h
    refine r_sipush (v := (132 : Int32)) dX7_nextKind_11 (by decide) ?_
    refine r_iret dX7_nextKind_14 rfl ?_
    have h := Option.some.inj (show some _ = some o from h)
    subst h
    exact hq
theorem ct_To_nextKind {g : GG} {ad : Nat → Nat} {t : va_W} {x0 x1 x3 x4 x5 x11 x12 x18 x19 x20 x24 x25 x26 x27 x28 x39 x40 x41 x47 x48 x54 x56 x58 x59 x60 x61 x63 x64 x65 x66 : Int32} {x6 x7 x8 x9 x10 x13 x14 x15 x16 x17 x21 x22 x23 x33 x34 x35 x42 x43 x44 x45 x46 x49 x50 x51 x52 x53 x62 x67 : Nat → Int32} {x36 x55 x57 : Nat → Int64} {N : Nat} {Main_tape : Nat → Int32} {To_size : Int32} {To_place : Int32} {To_number : Int32} {To_word : Int64} {Na_count : Int32} {Na_words : Nat → Int64} {o : Int32 × Int32 × Int32 × Int64} (h : f_To_nextKind N Main_tape To_size To_place To_number To_word Na_count Na_words = some o) : Ct g mX7_nextKind 5 0 0 [.ref (ad 34)] (wlX g ad x0 x1 Main_tape x3 x4 x5 x6 x7 x8 x9 x10 x11 x12 x13 x14 x15 x16 x17 x18 x19 x20 x21 x22 x23 x24 x25 x26 x27 x28 To_size To_place To_number To_word x33 x34 x35 x36 Na_count Na_words x39 x40 x41 x42 x43 x44 x45 x46 x47 x48 x49 x50 x51 x52 x53 x54 x55 x56 x57 x58 x59 x60 x61 x62 x63 x64 x65 x66 x67 ++ t) (Dv (some (.int o.1)) (wlX g ad x0 x1 Main_tape x3 x4 x5 x6 x7 x8 x9 x10 x11 x12 x13 x14 x15 x16 x17 x18 x19 x20 x21 x22 x23 x24 x25 x26 x27 x28 To_size o.2.1 o.2.2.1 o.2.2.2 x33 x34 x35 x36 Na_count Na_words x39 x40 x41 x42 x43 x44 x45 x46 x47 x48 x49 x50 x51 x52 x53 x54 x55 x56 x57 x58 x59 x60 x61 x62 x63 x64 x65 x66 x67 ++ t)) := Ct.ofR (by decide +kernel) rfl (Nat.le_of_ble_eq_true rfl) (rt_To_nextKind h ⟨rfl, rfl⟩)
