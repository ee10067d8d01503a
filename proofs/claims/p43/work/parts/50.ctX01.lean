set_option maxRecDepth 20000 in
set_option maxHeartbeats 4000000 in
theorem rt_Main_appendBytes {g : GG} {ad : Nat → Nat} {t : va_W} {x1 x3 x4 x5 x11 x12 x18 x19 x20 x24 x25 x26 x27 x28 x29 x30 x31 x37 x39 x40 x41 x47 x48 x54 x56 x58 x59 x60 x61 x63 x64 x65 x66 : Int32} {x6 x7 x8 x9 x10 x13 x14 x15 x16 x17 x21 x22 x23 x33 x34 x35 x42 x43 x44 x45 x46 x49 x50 x51 x52 x53 x62 x67 : Nat → Int32} {x32 : Int64} {x36 x38 x55 x57 : Nat → Int64} {N : Nat} {Main_tapeSize : Int32} {Main_tape : Nat → Int32} {p1 : Int32} {o : Int32 × (Nat → Int32)} {Q : Rs → va_W → Prop} (h : f_Main_appendBytes N Main_tapeSize Main_tape p1 = some o) (hq : Q (.inl (none)) (wlX g ad o.1 x1 o.2 x3 x4 x5 x6 x7 x8 x9 x10 x11 x12 x13 x14 x15 x16 x17 x18 x19 x20 x21 x22 x23 x24 x25 x26 x27 x28 x29 x30 x31 x32 x33 x34 x35 x36 x37 x38 x39 x40 x41 x42 x43 x44 x45 x46 x47 x48 x49 x50 x51 x52 x53 x54 x55 x56 x57 x58 x59 x60 x61 x62 x63 x64 x65 x66 x67 ++ t)) : R g mX9_appendBytes 2 0 0 0 [(0, .ref (ad 0)), (1, .int p1)] [] (wlX g ad Main_tapeSize x1 Main_tape x3 x4 x5 x6 x7 x8 x9 x10 x11 x12 x13 x14 x15 x16 x17 x18 x19 x20 x21 x22 x23 x24 x25 x26 x27 x28 x29 x30 x31 x32 x33 x34 x35 x36 x37 x38 x39 x40 x41 x42 x43 x44 x45 x46 x47 x48 x49 x50 x51 x52 x53 x54 x55 x56 x57 x58 x59 x60 x61 x62 x63 x64 x65 x66 x67 ++ t) Q := by
  unfold f_Main_appendBytes at h
  refine r_bipush (v := (24 : Int32)) dX9_appendBytes_0 (by decide) ?_
  refine r_istore_n [(2, .int (24 : Int32)), (0, .ref (ad 0)), (1, .int p1)] dX9_appendBytes_2 (by decide) rfl ?_
  refine r_ls [1, 2, 0] (ls2 := [(0, .ref (ad 0)), (1, .int p1), (2, .int (24 : Int32))]) rfl ?_
  have L1 : ∀ (n1 : Nat) (l2_1 : Int32) (Main_tapeSize_1 : Int32) (Main_tape_1 : Nat → Int32), (fun z9 => z9) (lpS (f_Main_appendBytes_L3 p1) none n1 (l2_1, Main_tapeSize_1, Main_tape_1)) = some o → R g mX9_appendBytes 2 0 0 3 [(0, .ref (ad 0)), (1, .int p1), (2, .int l2_1)] [] (wlX g ad Main_tapeSize_1 x1 Main_tape_1 x3 x4 x5 x6 x7 x8 x9 x10 x11 x12 x13 x14 x15 x16 x17 x18 x19 x20 x21 x22 x23 x24 x25 x26 x27 x28 x29 x30 x31 x32 x33 x34 x35 x36 x37 x38 x39 x40 x41 x42 x43 x44 x45 x46 x47 x48 x49 x50 x51 x52 x53 x54 x55 x56 x57 x58 x59 x60 x61 x62 x63 x64 x65 x66 x67 ++ t) Q := by
    intro n1
    induction n1 with
    | zero => intro l2_1 Main_tapeSize_1 Main_tape_1 h; exact nomatch (show (none : Option _) = some _ from h)
    | succ n1 ih1 =>
      intro l2_1 Main_tapeSize_1 Main_tape_1 h
      have h : (fun z9 => (lC (f_Main_appendBytes_L3 p1) none n1 z9)) (f_Main_appendBytes_L3 p1 (l2_1, Main_tapeSize_1, Main_tape_1)) = some o := h
      unfold f_Main_appendBytes_L3 at h
      try dsimp only at h
      refine r_iload_n 2 dX9_appendBytes_3 rfl ?_
      refine r_if_lt (tgt := 41) dX9_appendBytes_4 (by decide) (fun hc281 => ?_) (fun hc281 => ?_)
      · have h := ip (fun z9 => (lC (f_Main_appendBytes_L3 p1) none n1 z9)) hc281 h
        refine r_vret dX9_appendBytes_41 rfl ?_
        have h := Option.some.inj (show some _ = some o from h)
        subst h
        exact hq
      · have h := iq (fun z9 => (lC (f_Main_appendBytes_L3 p1) none n1 z9)) hc281 h
        refine r_aload_n 0 dX9_appendBytes_7 rfl ?_
        refine r_getf (v := .ref (ad 1)) _ dX9_appendBytes_8 fl_X9_22 lX_0 rfl ?_
        refine r_aload_n 0 dX9_appendBytes_11 rfl ?_
        refine r_getf (v := .int Main_tapeSize_1) _ dX9_appendBytes_12 fl_X9_55 lX_0 rfl ?_
        refine r_iload_n 1 dX9_appendBytes_15 rfl ?_
        refine r_iload_n 2 dX9_appendBytes_16 rfl ?_
        refine r_iushr dX9_appendBytes_17 ?_
        refine r_sipush (v := (255 : Int32)) dX9_appendBytes_18 (by decide) ?_
        refine r_iand dX9_appendBytes_21 ?_
        refine c_Vv (rest := []) 0 0 _ dX9_appendBytes_22 kv_X9_72 (ct_Row_set lX_1 lX_2 (sX_2 _) (Nat.le_of_ble_eq_true rfl)) rfl rfl lX_1 rfl (Nat.le_of_ble_eq_true rfl) (by decide) (by decide) ?_
        refine r_aload_n 0 dX9_appendBytes_25 rfl ?_
        refine r_dup dX9_appendBytes_26 rfl ?_
        refine r_getf (v := .int Main_tapeSize_1) _ dX9_appendBytes_27 fl_X9_55 lX_0 rfl ?_
        refine r_iconst (v := (1 : Int32)) dX9_appendBytes_30 (by decide) ?_
        refine r_iadd dX9_appendBytes_31 ?_
        refine r_putf _ dX9_appendBytes_32 fl_X9_55 lX_0 (Nat.le_of_ble_eq_true rfl) rfl rfl (sX_0 _) ?_
        refine r_iinc (v2 := (l2_1 + (-8 : Int32))) 2 [(2, .int (l2_1 + (-8 : Int32))), (0, .ref (ad 0)), (1, .int p1)] dX9_appendBytes_35 rfl rfl (by decide) rfl ?_
        refine r_goto (tgt := 3) dX9_appendBytes_38 (by decide) ?_
        refine r_ls [1, 2, 0] (ls2 := [(0, .ref (ad 0)), (1, .int p1), (2, .int (l2_1 + (-8 : Int32)))]) rfl ?_
        exact ih1 (l2_1 + (-8 : Int32)) (Main_tapeSize_1 + (1 : Int32)) (rset 2000 Main_tape_1 Main_tapeSize_1 ((p1.toUInt32 >>> (l2_1.toUInt32 &&& Int32.toUInt32 31)).toInt32 &&& (255 : Int32))) h
  exact L1 _ (24 : Int32) Main_tapeSize Main_tape h
theorem ct_Main_appendBytes {g : GG} {ad : Nat → Nat} {t : va_W} {x1 x3 x4 x5 x11 x12 x18 x19 x20 x24 x25 x26 x27 x28 x29 x30 x31 x37 x39 x40 x41 x47 x48 x54 x56 x58 x59 x60 x61 x63 x64 x65 x66 : Int32} {x6 x7 x8 x9 x10 x13 x14 x15 x16 x17 x21 x22 x23 x33 x34 x35 x42 x43 x44 x45 x46 x49 x50 x51 x52 x53 x62 x67 : Nat → Int32} {x32 : Int64} {x36 x38 x55 x57 : Nat → Int64} {N : Nat} {Main_tapeSize : Int32} {Main_tape : Nat → Int32} {p1 : Int32} {o : Int32 × (Nat → Int32)} (h : f_Main_appendBytes N Main_tapeSize Main_tape p1 = some o) : Ct g mX9_appendBytes 2 0 0 [.ref (ad 0), .int p1] (wlX g ad Main_tapeSize x1 Main_tape x3 x4 x5 x6 x7 x8 x9 x10 x11 x12 x13 x14 x15 x16 x17 x18 x19 x20 x21 x22 x23 x24 x25 x26 x27 x28 x29 x30 x31 x32 x33 x34 x35 x36 x37 x38 x39 x40 x41 x42 x43 x44 x45 x46 x47 x48 x49 x50 x51 x52 x53 x54 x55 x56 x57 x58 x59 x60 x61 x62 x63 x64 x65 x66 x67 ++ t) (Dv (none) (wlX g ad o.1 x1 o.2 x3 x4 x5 x6 x7 x8 x9 x10 x11 x12 x13 x14 x15 x16 x17 x18 x19 x20 x21 x22 x23 x24 x25 x26 x27 x28 x29 x30 x31 x32 x33 x34 x35 x36 x37 x38 x39 x40 x41 x42 x43 x44 x45 x46 x47 x48 x49 x50 x51 x52 x53 x54 x55 x56 x57 x58 x59 x60 x61 x62 x63 x64 x65 x66 x67 ++ t)) := Ct.ofR (by decide +kernel) rfl (Nat.le_of_ble_eq_true rfl) (rt_Main_appendBytes h ⟨rfl, rfl⟩)
set_option maxRecDepth 20000 in
set_option maxHeartbeats 4000000 in
theorem rt_Main_feed {g : GG} {ad : Nat → Nat} {t : va_W} {x1 x3 x4 x5 x11 x12 x18 x19 x20 x24 x25 x26 x27 x28 x29 x30 x31 x37 x39 x40 x41 x47 x48 x54 x56 x58 x59 x60 x61 x63 x64 x65 x66 : Int32} {x6 x7 x8 x9 x10 x13 x14 x15 x16 x17 x21 x22 x23 x33 x34 x35 x42 x43 x44 x45 x46 x49 x50 x51 x52 x53 x62 x67 : Nat → Int32} {x32 : Int64} {x36 x38 x55 x57 : Nat → Int64} {N : Nat} {Main_tapeSize : Int32} {Main_tape : Nat → Int32} {p1 : Int32} {p2 : Int32} {p3 : Int32} {p4 : Int32} {p5 : Int32} {o : (Int32 × Int32 × (Nat → Int32)) ⊕ String} {Q : Rs → va_W → Prop} (h : f_Main_feed N Main_tapeSize Main_tape p1 p2 p3 p4 p5 = some o) (hq1 : ∀ q, o = .inl q → Q (.inl (some (.int q.1))) (wlX g ad q.2.1 x1 q.2.2 x3 x4 x5 x6 x7 x8 x9 x10 x11 x12 x13 x14 x15 x16 x17 x18 x19 x20 x21 x22 x23 x24 x25 x26 x27 x28 x29 x30 x31 x32 x33 x34 x35 x36 x37 x38 x39 x40 x41 x42 x43 x44 x45 x46 x47 x48 x49 x50 x51 x52 x53 x54 x55 x56 x57 x58 x59 x60 x61 x62 x63 x64 x65 x66 x67 ++ t)) (hq2 : ∀ E, o = .inr E → Q (.inr E) (wlX g ad Main_tapeSize x1 Main_tape x3 x4 x5 x6 x7 x8 x9 x10 x11 x12 x13 x14 x15 x16 x17 x18 x19 x20 x21 x22 x23 x24 x25 x26 x27 x28 x29 x30 x31 x32 x33 x34 x35 x36 x37 x38 x39 x40 x41 x42 x43 x44 x45 x46 x47 x48 x49 x50 x51 x52 x53 x54 x55 x56 x57 x58 x59 x60 x61 x62 x63 x64 x65 x66 x67 ++ t)) : R g mX9_feed 6 1 6 0 [(0, .ref (ad 0)), (1, .int p1), (2, .int p2), (3, .int p3), (4, .int p4), (5, .int p5)] [] (wlX g ad Main_tapeSize x1 Main_tape x3 x4 x5 x6 x7 x8 x9 x10 x11 x12 x13 x14 x15 x16 x17 x18 x19 x20 x21 x22 x23 x24 x25 x26 x27 x28 x29 x30 x31 x32 x33 x34 x35 x36 x37 x38 x39 x40 x41 x42 x43 x44 x45 x46 x47 x48 x49 x50 x51 x52 x53 x54 x55 x56 x57 x58 x59 x60 x61 x62 x63 x64 x65 x66 x67 ++ t) Q := by
  unfold f_Main_feed at h
  refine r_aload_n 0 dX9_feed_0 rfl ?_
  refine r_getf (v := .int Main_tapeSize) _ dX9_feed_1 fl_X9_55 lX_0 rfl ?_
  refine r_bipush (v := (20 : Int32)) dX9_feed_4 (by decide) ?_
  refine r_iadd dX9_feed_6 ?_
  refine r_sipush (v := (2000 : Int32)) dX9_feed_7 (by decide) ?_
  refine r_icmp_le (tgt := 23) dX9_feed_10 (by decide) (fun hc282 => ?_) (fun hc282 => ?_)
  · have h := ip (fun z9 => z9) hc282 h
    refine r_aload_n 0 dX9_feed_23 rfl ?_
    refine r_iload_n 1 dX9_feed_24 rfl ?_
    obtain ⟨r283, hc284, h⟩ := ob (fun z9 => z9) rfl h
    refine c_Vv (rest := []) 1 6 _ dX9_feed_25 kv_X9_69 (ct_Main_appendBytes hc284) rfl rfl lX_0 rfl (Nat.le_of_ble_eq_true rfl) (by decide) (by decide) ?_
    refine r_aload_n 0 dX9_feed_28 rfl ?_
    refine r_iload_n 2 dX9_feed_29 rfl ?_
    obtain ⟨r285, hc286, h⟩ := ob (fun z9 => z9) rfl h
    refine c_Vv (rest := []) 1 6 _ dX9_feed_30 kv_X9_69 (ct_Main_appendBytes hc286) rfl rfl lX_0 rfl (Nat.le_of_ble_eq_true rfl) (by decide) (by decide) ?_
    refine r_aload_n 0 dX9_feed_33 rfl ?_
    refine r_iload_n 3 dX9_feed_34 rfl ?_
    obtain ⟨r287, hc288, h⟩ := ob (fun z9 => z9) rfl h
    refine c_Vv (rest := []) 1 6 _ dX9_feed_35 kv_X9_69 (ct_Main_appendBytes hc288) rfl rfl lX_0 rfl (Nat.le_of_ble_eq_true rfl) (by decide) (by decide) ?_
    refine r_aload_n 0 dX9_feed_38 rfl ?_
    refine r_iload 4 dX9_feed_39 rfl ?_
    obtain ⟨r289, hc290, h⟩ := ob (fun z9 => z9) rfl h
    refine c_Vv (rest := []) 1 6 _ dX9_feed_41 kv_X9_69 (ct_Main_appendBytes hc290) rfl rfl lX_0 rfl (Nat.le_of_ble_eq_true rfl) (by decide) (by decide) ?_
    refine r_aload_n 0 dX9_feed_44 rfl ?_
    refine r_iload 5 dX9_feed_45 rfl ?_
    obtain ⟨r291, hc292, h⟩ := ob (fun z9 => z9) rfl h
    refine c_Vv (rest := []) 1 6 _ dX9_feed_47 kv_X9_69 (ct_Main_appendBytes hc292) rfl rfl lX_0 rfl (Nat.le_of_ble_eq_true rfl) (by decide) (by decide) ?_
    refine r_aload_n 0 dX9_feed_50 rfl ?_
    refine r_getf (v := .int r291.1) _ dX9_feed_51 fl_X9_55 lX_0 rfl ?_
    refine r_iret dX9_feed_54 rfl ?_
    have h := Option.some.inj (show some _ = some o from h)
    subst h
    exact hq1 _ rfl
  · have h := iq (fun z9 => z9) hc282 h
    refine r_throw (x := 0) (y := 0) dX9_feed_13 dX9_feed_16 dX9_feed_17 dX9_feed_19 dX9_feed_22 kx_X9_62_64_66 rfl (Nat.le_of_ble_eq_true rfl) (by decide) ?_
    have h := Option.some.inj (show some _ = some o from h)
    subst h
    exact hq2 _ rfl
theorem ct_Main_feed {g : GG} {ad : Nat → Nat} {t : va_W} {x1 x3 x4 x5 x11 x12 x18 x19 x20 x24 x25 x26 x27 x28 x29 x30 x31 x37 x39 x40 x41 x47 x48 x54 x56 x58 x59 x60 x61 x63 x64 x65 x66 : Int32} {x6 x7 x8 x9 x10 x13 x14 x15 x16 x17 x21 x22 x23 x33 x34 x35 x42 x43 x44 x45 x46 x49 x50 x51 x52 x53 x62 x67 : Nat → Int32} {x32 : Int64} {x36 x38 x55 x57 : Nat → Int64} {N : Nat} {Main_tapeSize : Int32} {Main_tape : Nat → Int32} {p1 : Int32} {p2 : Int32} {p3 : Int32} {p4 : Int32} {p5 : Int32} {o : (Int32 × Int32 × (Nat → Int32)) ⊕ String} (h : f_Main_feed N Main_tapeSize Main_tape p1 p2 p3 p4 p5 = some o) : Ct g mX9_feed 6 1 6 [.ref (ad 0), .int p1, .int p2, .int p3, .int p4, .int p5] (wlX g ad Main_tapeSize x1 Main_tape x3 x4 x5 x6 x7 x8 x9 x10 x11 x12 x13 x14 x15 x16 x17 x18 x19 x20 x21 x22 x23 x24 x25 x26 x27 x28 x29 x30 x31 x32 x33 x34 x35 x36 x37 x38 x39 x40 x41 x42 x43 x44 x45 x46 x47 x48 x49 x50 x51 x52 x53 x54 x55 x56 x57 x58 x59 x60 x61 x62 x63 x64 x65 x66 x67 ++ t) (Dt o (fun q => some (.int q.1)) (fun q => (wlX g ad q.2.1 x1 q.2.2 x3 x4 x5 x6 x7 x8 x9 x10 x11 x12 x13 x14 x15 x16 x17 x18 x19 x20 x21 x22 x23 x24 x25 x26 x27 x28 x29 x30 x31 x32 x33 x34 x35 x36 x37 x38 x39 x40 x41 x42 x43 x44 x45 x46 x47 x48 x49 x50 x51 x52 x53 x54 x55 x56 x57 x58 x59 x60 x61 x62 x63 x64 x65 x66 x67 ++ t)) (wlX g ad Main_tapeSize x1 Main_tape x3 x4 x5 x6 x7 x8 x9 x10 x11 x12 x13 x14 x15 x16 x17 x18 x19 x20 x21 x22 x23 x24 x25 x26 x27 x28 x29 x30 x31 x32 x33 x34 x35 x36 x37 x38 x39 x40 x41 x42 x43 x44 x45 x46 x47 x48 x49 x50 x51 x52 x53 x54 x55 x56 x57 x58 x59 x60 x61 x62 x63 x64 x65 x66 x67 ++ t)) := Ct.ofR (by decide +kernel) rfl (Nat.le_of_ble_eq_true rfl) (rt_Main_feed h (fun q e => by subst e; exact ⟨rfl, rfl⟩) (fun E e => by subst e; exact ⟨rfl, rfl⟩))
set_option maxRecDepth 20000 in
set_option maxHeartbeats 4000000 in
theorem rt_Main_trim {g : GG} {ad : Nat → Nat} {t : va_W} {x1 x3 x4 x5 x11 x12 x18 x19 x20 x24 x25 x26 x27 x28 x29 x30 x31 x37 x39 x40 x41 x47 x48 x54 x56 x58 x59 x60 x61 x63 x64 x65 x66 : Int32} {x2 x6 x7 x8 x9 x10 x13 x14 x15 x16 x17 x21 x22 x23 x33 x34 x35 x42 x43 x44 x45 x46 x49 x50 x51 x52 x53 x62 x67 : Nat → Int32} {x32 : Int64} {x36 x38 x55 x57 : Nat → Int64} {Main_tapeSize : Int32} {p1 : Int32} {o : (Int32 × Int32) ⊕ String} {Q : Rs → va_W → Prop} (h : f_Main_trim Main_tapeSize p1 = some o) (hq1 : ∀ q, o = .inl q → Q (.inl (some (.int q.1))) (wlX g ad q.2 x1 x2 x3 x4 x5 x6 x7 x8 x9 x10 x11 x12 x13 x14 x15 x16 x17 x18 x19 x20 x21 x22 x23 x24 x25 x26 x27 x28 x29 x30 x31 x32 x33 x34 x35 x36 x37 x38 x39 x40 x41 x42 x43 x44 x45 x46 x47 x48 x49 x50 x51 x52 x53 x54 x55 x56 x57 x58 x59 x60 x61 x62 x63 x64 x65 x66 x67 ++ t)) (hq2 : ∀ E, o = .inr E → Q (.inr E) (wlX g ad Main_tapeSize x1 x2 x3 x4 x5 x6 x7 x8 x9 x10 x11 x12 x13 x14 x15 x16 x17 x18 x19 x20 x21 x22 x23 x24 x25 x26 x27 x28 x29 x30 x31 x32 x33 x34 x35 x36 x37 x38 x39 x40 x41 x42 x43 x44 x45 x46 x47 x48 x49 x50 x51 x52 x53 x54 x55 x56 x57 x58 x59 x60 x61 x62 x63 x64 x65 x66 x67 ++ t)) : R g mX9_trim 6 1 6 0 [(0, .ref (ad 0)), (1, .int p1)] [] (wlX g ad Main_tapeSize x1 x2 x3 x4 x5 x6 x7 x8 x9 x10 x11 x12 x13 x14 x15 x16 x17 x18 x19 x20 x21 x22 x23 x24 x25 x26 x27 x28 x29 x30 x31 x32 x33 x34 x35 x36 x37 x38 x39 x40 x41 x42 x43 x44 x45 x46 x47 x48 x49 x50 x51 x52 x53 x54 x55 x56 x57 x58 x59 x60 x61 x62 x63 x64 x65 x66 x67 ++ t) Q := by
  unfold f_Main_trim at h
  refine r_iload_n 1 dX9_trim_0 rfl ?_
  refine r_if_lt (tgt := 12) dX9_trim_1 (by decide) (fun hc293 => ?_) (fun hc293 => ?_)
  · have h := ip (fun z9 => z9) hc293 h
    refine r_throw (x := 0) (y := 0) dX9_trim_12 dX9_trim_15 dX9_trim_16 dX9_trim_18 dX9_trim_21 kx_X9_76_78_80 rfl (Nat.le_of_ble_eq_true rfl) (by decide) ?_
    have h := Option.some.inj (show some _ = some o from h)
    subst h
    exact hq2 _ rfl
  · have h := iq (fun z9 => z9) hc293 h
    refine r_iload_n 1 dX9_trim_4 rfl ?_
    refine r_aload_n 0 dX9_trim_5 rfl ?_
    refine r_getf (v := .int Main_tapeSize) _ dX9_trim_6 fl_X9_55 lX_0 rfl ?_
    refine r_icmp_le (tgt := 22) dX9_trim_9 (by decide) (fun hc294 => ?_) (fun hc294 => ?_)
    · have h := ip (fun z9 => z9) hc294 h
      refine r_aload_n 0 dX9_trim_22 rfl ?_
      refine r_iload_n 1 dX9_trim_23 rfl ?_
      refine r_putf _ dX9_trim_24 fl_X9_55 lX_0 (Nat.le_of_ble_eq_true rfl) rfl rfl (sX_0 _) ?_
      refine r_iload_n 1 dX9_trim_27 rfl ?_
      refine r_iret dX9_trim_28 rfl ?_
      have h := Option.some.inj (show some _ = some o from h)
      subst h
      exact hq1 _ rfl
    · have h := iq (fun z9 => z9) hc294 h
      refine r_throw (x := 0) (y := 0) dX9_trim_12 dX9_trim_15 dX9_trim_16 dX9_trim_18 dX9_trim_21 kx_X9_76_78_80 rfl (Nat.le_of_ble_eq_true rfl) (by decide) ?_
      have h := Option.some.inj (show some _ = some o from h)
      subst h
      exact hq2 _ rfl
theorem ct_Main_trim {g : GG} {ad : Nat → Nat} {t : va_W} {x1 x3 x4 x5 x11 x12 x18 x19 x20 x24 x25 x26 x27 x28 x29 x30 x31 x37 x39 x40 x41 x47 x48 x54 x56 x58 x59 x60 x61 x63 x64 x65 x66 : Int32} {x2 x6 x7 x8 x9 x10 x13 x14 x15 x16 x17 x21 x22 x23 x33 x34 x35 x42 x43 x44 x45 x46 x49 x50 x51 x52 x53 x62 x67 : Nat → Int32} {x32 : Int64} {x36 x38 x55 x57 : Nat → Int64} {Main_tapeSize : Int32} {p1 : Int32} {o : (Int32 × Int32) ⊕ String} (h : f_Main_trim Main_tapeSize p1 = some o) : Ct g mX9_trim 6 1 6 [.ref (ad 0), .int p1] (wlX g ad Main_tapeSize x1 x2 x3 x4 x5 x6 x7 x8 x9 x10 x11 x12 x13 x14 x15 x16 x17 x18 x19 x20 x21 x22 x23 x24 x25 x26 x27 x28 x29 x30 x31 x32 x33 x34 x35 x36 x37 x38 x39 x40 x41 x42 x43 x44 x45 x46 x47 x48 x49 x50 x51 x52 x53 x54 x55 x56 x57 x58 x59 x60 x61 x62 x63 x64 x65 x66 x67 ++ t) (Dt o (fun q => some (.int q.1)) (fun q => (wlX g ad q.2 x1 x2 x3 x4 x5 x6 x7 x8 x9 x10 x11 x12 x13 x14 x15 x16 x17 x18 x19 x20 x21 x22 x23 x24 x25 x26 x27 x28 x29 x30 x31 x32 x33 x34 x35 x36 x37 x38 x39 x40 x41 x42 x43 x44 x45 x46 x47 x48 x49 x50 x51 x52 x53 x54 x55 x56 x57 x58 x59 x60 x61 x62 x63 x64 x65 x66 x67 ++ t)) (wlX g ad Main_tapeSize x1 x2 x3 x4 x5 x6 x7 x8 x9 x10 x11 x12 x13 x14 x15 x16 x17 x18 x19 x20 x21 x22 x23 x24 x25 x26 x27 x28 x29 x30 x31 x32 x33 x34 x35 x36 x37 x38 x39 x40 x41 x42 x43 x44 x45 x46 x47 x48 x49 x50 x51 x52 x53 x54 x55 x56 x57 x58 x59 x60 x61 x62 x63 x64 x65 x66 x67 ++ t)) := Ct.ofR (by decide +kernel) rfl (Nat.le_of_ble_eq_true rfl) (rt_Main_trim h (fun q e => by subst e; exact ⟨rfl, rfl⟩) (fun E e => by subst e; exact ⟨rfl, rfl⟩))
set_option maxRecDepth 20000 in
set_option maxHeartbeats 4000000 in
theorem rt_To_skipBlanks {g : GG} {ad : Nat → Nat} {t : va_W} {x0 x1 x3 x4 x5 x11 x12 x18 x19 x20 x24 x25 x26 x27 x28 x31 x37 x39 x40 x41 x47 x48 x54 x56 x58 x59 x60 x61 x63 x64 x65 x66 : Int32} {x6 x7 x8 x9 x10 x13 x14 x15 x16 x17 x21 x22 x23 x33 x34 x35 x42 x43 x44 x45 x46 x49 x50 x51 x52 x53 x62 x67 : Nat → Int32} {x32 : Int64} {x36 x38 x55 x57 : Nat → Int64} {N : Nat} {Main_tape : Nat → Int32} {To_size : Int32} {To_place : Int32} {o : Int32} {Q : Rs → va_W → Prop} (h : f_To_skipBlanks N Main_tape To_size To_place = some o) (hq : Q (.inl (none)) (wlX g ad x0 x1 Main_tape x3 x4 x5 x6 x7 x8 x9 x10 x11 x12 x13 x14 x15 x16 x17 x18 x19 x20 x21 x22 x23 x24 x25 x26 x27 x28 To_size o x31 x32 x33 x34 x35 x36 x37 x38 x39 x40 x41 x42 x43 x44 x45 x46 x47 x48 x49 x50 x51 x52 x53 x54 x55 x56 x57 x58 x59 x60 x61 x62 x63 x64 x65 x66 x67 ++ t)) : R g mX7_skipBlanks 2 0 0 0 [(0, .ref (ad 34))] [] (wlX g ad x0 x1 Main_tape x3 x4 x5 x6 x7 x8 x9 x10 x11 x12 x13 x14 x15 x16 x17 x18 x19 x20 x21 x22 x23 x24 x25 x26 x27 x28 To_size To_place x31 x32 x33 x34 x35 x36 x37 x38 x39 x40 x41 x42 x43 x44 x45 x46 x47 x48 x49 x50 x51 x52 x53 x54 x55 x56 x57 x58 x59 x60 x61 x62 x63 x64 x65 x66 x67 ++ t) Q := by
  unfold f_To_skipBlanks at h
  refine r_ls [0] (ls2 := [(0, .ref (ad 34))]) rfl ?_
  have L1 : ∀ (n1 : Nat) (To_place_1 : Int32), (fun z9 => z9) (lpS (f_To_skipBlanks_L0 Main_tape To_size) none n1 To_place_1) = some o → R g mX7_skipBlanks 2 0 0 0 [(0, .ref (ad 34))] [] (wlX g ad x0 x1 Main_tape x3 x4 x5 x6 x7 x8 x9 x10 x11 x12 x13 x14 x15 x16 x17 x18 x19 x20 x21 x22 x23 x24 x25 x26 x27 x28 To_size To_place_1 x31 x32 x33 x34 x35 x36 x37 x38 x39 x40 x41 x42 x43 x44 x45 x46 x47 x48 x49 x50 x51 x52 x53 x54 x55 x56 x57 x58 x59 x60 x61 x62 x63 x64 x65 x66 x67 ++ t) Q := by
    intro n1
    induction n1 with
    | zero => intro To_place_1 h; exact nomatch (show (none : Option _) = some _ from h)
    | succ n1 ih1 =>
      intro To_place_1 h
      have h : (fun z9 => (lC (f_To_skipBlanks_L0 Main_tape To_size) none n1 z9)) (f_To_skipBlanks_L0 Main_tape To_size To_place_1) = some o := h
      unfold f_To_skipBlanks_L0 at h
      try dsimp only at h
      refine r_aload_n 0 dX7_skipBlanks_0 rfl ?_
      refine r_getf (v := .int To_place_1) _ dX7_skipBlanks_1 fl_X7_67 lX_34 rfl ?_
      refine r_aload_n 0 dX7_skipBlanks_4 rfl ?_
      refine r_getf (v := .int To_size) _ dX7_skipBlanks_5 fl_X7_63 lX_34 rfl ?_
      refine r_icmp_ge (tgt := 56) dX7_skipBlanks_8 (by decide) (fun hc295 => ?_) (fun hc295 => ?_)
      · have h := ip (fun z9 => (lC (f_To_skipBlanks_L0 Main_tape To_size) none n1 z9)) hc295 h
        refine r_vret dX7_skipBlanks_56 rfl ?_
        have h := Option.some.inj (show some _ = some o from h)
        subst h
        exact hq
      · have h := iq (fun z9 => (lC (f_To_skipBlanks_L0 Main_tape To_size) none n1 z9)) hc295 h
        refine r_aload_n 0 dX7_skipBlanks_11 rfl ?_
        refine r_getf (v := .ref (ad 1)) _ dX7_skipBlanks_12 fl_X7_9 lX_34 rfl ?_
        refine r_aload_n 0 dX7_skipBlanks_15 rfl ?_
        refine r_getf (v := .int To_place_1) _ dX7_skipBlanks_16 fl_X7_67 lX_34 rfl ?_
        refine c_V (rest := []) 0 0 _ dX7_skipBlanks_19 kv_X7_87 (ct_Row_get lX_1 lX_2 (Nat.le_of_ble_eq_true rfl)) rfl rfl lX_1 rfl (Nat.le_of_ble_eq_true rfl) (by decide) (by decide) ?_
        refine r_bipush (v := (32 : Int32)) dX7_skipBlanks_22 (by decide) ?_
        refine r_icmp_eq (tgt := 43) dX7_skipBlanks_24 (by decide) (fun hc296 => ?_) (fun hc296 => ?_)
        · have h := ip (fun z9 => (lC (f_To_skipBlanks_L0 Main_tape To_size) none n1 z9)) hc296 h
          refine r_aload_n 0 dX7_skipBlanks_43 rfl ?_
          refine r_dup dX7_skipBlanks_44 rfl ?_
          refine r_getf (v := .int To_place_1) _ dX7_skipBlanks_45 fl_X7_67 lX_34 rfl ?_
          refine r_iconst (v := (1 : Int32)) dX7_skipBlanks_48 (by decide) ?_
          refine r_iadd dX7_skipBlanks_49 ?_
          refine r_putf _ dX7_skipBlanks_50 fl_X7_67 lX_34 (Nat.le_of_ble_eq_true rfl) rfl rfl (sX_30 _) ?_
          refine r_goto (tgt := 0) dX7_skipBlanks_53 (by decide) ?_
          refine r_ls [0] (ls2 := [(0, .ref (ad 34))]) rfl ?_
          exact ih1 (To_place_1 + (1 : Int32)) h
        · have h := iq (fun z9 => (lC (f_To_skipBlanks_L0 Main_tape To_size) none n1 z9)) hc296 h
          refine r_aload_n 0 dX7_skipBlanks_27 rfl ?_
          refine r_getf (v := .ref (ad 1)) _ dX7_skipBlanks_28 fl_X7_9 lX_34 rfl ?_
          refine r_aload_n 0 dX7_skipBlanks_31 rfl ?_
          refine r_getf (v := .int To_place_1) _ dX7_skipBlanks_32 fl_X7_67 lX_34 rfl ?_
          refine c_V (rest := []) 0 0 _ dX7_skipBlanks_35 kv_X7_87 (ct_Row_get lX_1 lX_2 (Nat.le_of_ble_eq_true rfl)) rfl rfl lX_1 rfl (Nat.le_of_ble_eq_true rfl) (by decide) (by decide) ?_
          refine r_bipush (v := (10 : Int32)) dX7_skipBlanks_38 (by decide) ?_
          refine r_icmp_ne (tgt := 56) dX7_skipBlanks_40 (by decide) (fun hc297 => ?_) (fun hc297 => ?_)
          · have h := iq (fun z9 => (lC (f_To_skipBlanks_L0 Main_tape To_size) none n1 z9)) hc297 h
            refine r_vret dX7_skipBlanks_56 rfl ?_
            have h := Option.some.inj (show some _ = some o from h)
            subst h
            exact hq
          · have h := ip (fun z9 => (lC (f_To_skipBlanks_L0 Main_tape To_size) none n1 z9)) hc297 h
            refine r_aload_n 0 dX7_skipBlanks_43 rfl ?_
            refine r_dup dX7_skipBlanks_44 rfl ?_
            refine r_getf (v := .int To_place_1) _ dX7_skipBlanks_45 fl_X7_67 lX_34 rfl ?_
            refine r_iconst (v := (1 : Int32)) dX7_skipBlanks_48 (by decide) ?_
            refine r_iadd dX7_skipBlanks_49 ?_
            refine r_putf _ dX7_skipBlanks_50 fl_X7_67 lX_34 (Nat.le_of_ble_eq_true rfl) rfl rfl (sX_30 _) ?_
            refine r_goto (tgt := 0) dX7_skipBlanks_53 (by decide) ?_
            refine r_ls [0] (ls2 := [(0, .ref (ad 34))]) rfl ?_
            exact ih1 (To_place_1 + (1 : Int32)) h
  exact L1 _ To_place h
theorem ct_To_skipBlanks {g : GG} {ad : Nat → Nat} {t : va_W} {x0 x1 x3 x4 x5 x11 x12 x18 x19 x20 x24 x25 x26 x27 x28 x31 x37 x39 x40 x41 x47 x48 x54 x56 x58 x59 x60 x61 x63 x64 x65 x66 : Int32} {x6 x7 x8 x9 x10 x13 x14 x15 x16 x17 x21 x22 x23 x33 x34 x35 x42 x43 x44 x45 x46 x49 x50 x51 x52 x53 x62 x67 : Nat → Int32} {x32 : Int64} {x36 x38 x55 x57 : Nat → Int64} {N : Nat} {Main_tape : Nat → Int32} {To_size : Int32} {To_place : Int32} {o : Int32} (h : f_To_skipBlanks N Main_tape To_size To_place = some o) : Ct g mX7_skipBlanks 2 0 0 [.ref (ad 34)] (wlX g ad x0 x1 Main_tape x3 x4 x5 x6 x7 x8 x9 x10 x11 x12 x13 x14 x15 x16 x17 x18 x19 x20 x21 x22 x23 x24 x25 x26 x27 x28 To_size To_place x31 x32 x33 x34 x35 x36 x37 x38 x39 x40 x41 x42 x43 x44 x45 x46 x47 x48 x49 x50 x51 x52 x53 x54 x55 x56 x57 x58 x59 x60 x61 x62 x63 x64 x65 x66 x67 ++ t) (Dv (none) (wlX g ad x0 x1 Main_tape x3 x4 x5 x6 x7 x8 x9 x10 x11 x12 x13 x14 x15 x16 x17 x18 x19 x20 x21 x22 x23 x24 x25 x26 x27 x28 To_size o x31 x32 x33 x34 x35 x36 x37 x38 x39 x40 x41 x42 x43 x44 x45 x46 x47 x48 x49 x50 x51 x52 x53 x54 x55 x56 x57 x58 x59 x60 x61 x62 x63 x64 x65 x66 x67 ++ t)) := Ct.ofR (by decide +kernel) rfl (Nat.le_of_ble_eq_true rfl) (rt_To_skipBlanks h ⟨rfl, rfl⟩)
set_option maxRecDepth 20000 in
set_option maxHeartbeats 4000000 in
theorem rt_To_isLetter {g : GG}  {t : va_W}  {p0 : Int32} {o : Int32} {Q : Rs → va_W → Prop} (h : f_To_isLetter p0 = o) (hq : Q (.inl (some (.int o))) t) : R g mX7_isLetter 1 0 0 0 [(0, .int p0)] [] t Q := by
  unfold f_To_isLetter at h
  refine r_iload_n 0 dX7_isLetter_0 rfl ?_
  refine r_bipush (v := (97 : Int32)) dX7_isLetter_1 (by decide) ?_
  refine r_icmp_lt (tgt := 16) dX7_isLetter_3 (by decide) (fun hc298 => ?_) (fun hc298 => ?_)
  · have h := ip (fun z9 => z9) hc298 h
    refine r_iconst (v := (0 : Int32)) dX7_isLetter_16 (by decide) ?_
    refine r_zret dX7_isLetter_17 rfl (by decide) ?_
    have h : _ = o := h
    subst h
    exact hq
  · have h := iq (fun z9 => z9) hc298 h
    refine r_iload_n 0 dX7_isLetter_6 rfl ?_
    refine r_bipush (v := (122 : Int32)) dX7_isLetter_7 (by decide) ?_
    refine r_icmp_gt (tgt := 16) dX7_isLetter_9 (by decide) (fun hc299 => ?_) (fun hc299 => ?_)
    · have h := ip (fun z9 => z9) hc299 h
      refine r_iconst (v := (0 : Int32)) dX7_isLetter_16 (by decide) ?_
      refine r_zret dX7_isLetter_17 rfl (by decide) ?_
      have h : _ = o := h
      subst h
      exact hq
    · have h := iq (fun z9 => z9) hc299 h
      refine r_iconst (v := (1 : Int32)) dX7_isLetter_12 (by decide) ?_
      refine r_goto (tgt := 17) dX7_isLetter_13 (by decide) ?_
      refine r_zret dX7_isLetter_17 rfl (by decide) ?_
      have h : _ = o := h
      subst h
      exact hq
theorem ct_To_isLetter {g : GG}  {t : va_W}  {p0 : Int32} {o : Int32} (h : f_To_isLetter p0 = o) : Ct g mX7_isLetter 1 0 0 [.int p0] t (Dv (some (.int o)) t) := Ct.ofR (by decide +kernel) rfl (Nat.le_of_ble_eq_true rfl) (rt_To_isLetter h ⟨rfl, rfl⟩)
set_option maxRecDepth 20000 in
set_option maxHeartbeats 4000000 in
theorem rt_To_isDigit {g : GG}  {t : va_W}  {p0 : Int32} {o : Int32} {Q : Rs → va_W → Prop} (h : f_To_isDigit p0 = o) (hq : Q (.inl (some (.int o))) t) : R g mX7_isDigit 1 0 0 0 [(0, .int p0)] [] t Q := by
  unfold f_To_isDigit at h
  refine r_iload_n 0 dX7_isDigit_0 rfl ?_
  refine r_bipush (v := (48 : Int32)) dX7_isDigit_1 (by decide) ?_
  refine r_icmp_lt (tgt := 16) dX7_isDigit_3 (by decide) (fun hc300 => ?_) (fun hc300 => ?_)
  · have h := ip (fun z9 => z9) hc300 h
    refine r_iconst (v := (0 : Int32)) dX7_isDigit_16 (by decide) ?_
    refine r_zret dX7_isDigit_17 rfl (by decide) ?_
    have h : _ = o := h
    subst h
    exact hq
  · have h := iq (fun z9 => z9) hc300 h
    refine r_iload_n 0 dX7_isDigit_6 rfl ?_
    refine r_bipush (v := (57 : Int32)) dX7_isDigit_7 (by decide) ?_
    refine r_icmp_gt (tgt := 16) dX7_isDigit_9 (by decide) (fun hc301 => ?_) (fun hc301 => ?_)
    · have h := ip (fun z9 => z9) hc301 h
      refine r_iconst (v := (0 : Int32)) dX7_isDigit_16 (by decide) ?_
      refine r_zret dX7_isDigit_17 rfl (by decide) ?_
      have h : _ = o := h
      subst h
      exact hq
    · have h := iq (fun z9 => z9) hc301 h
      refine r_iconst (v := (1 : Int32)) dX7_isDigit_12 (by decide) ?_
      refine r_goto (tgt := 17) dX7_isDigit_13 (by decide) ?_
      refine r_zret dX7_isDigit_17 rfl (by decide) ?_
      have h : _ = o := h
      subst h
      exact hq
theorem ct_To_isDigit {g : GG}  {t : va_W}  {p0 : Int32} {o : Int32} (h : f_To_isDigit p0 = o) : Ct g mX7_isDigit 1 0 0 [.int p0] t (Dv (some (.int o)) t) := Ct.ofR (by decide +kernel) rfl (Nat.le_of_ble_eq_true rfl) (rt_To_isDigit h ⟨rfl, rfl⟩)
set_option maxRecDepth 20000 in
set_option maxHeartbeats 4000000 in
theorem rt_J0_isLatin1_aae02 {g : GG}  {t : va_W}  {i : Nat} {o : Int32} {Q : Rs → va_W → Prop} (h : f_J0_isLatin1_aae02 i = o) (hi0 : i < 61) (hq : Q (.inl (some (.int o))) t) : R g mJ0_isLatin1_aae02 1 0 0 0 [(0, .ref (gK g i))] [] t Q := by
  unfold f_J0_isLatin1_aae02 at h
  refine r_getC dJ0_isLatin1_aae02_0 kk_288 ?_
  refine r_if_eq (tgt := 17) dJ0_isLatin1_aae02_3 (by decide) (fun hc => absurd hc (by decide)) (fun _ => ?_)
  refine r_aload_n 0 dJ0_isLatin1_aae02_6 rfl ?_
  refine r_getKc hi0 dJ0_isLatin1_aae02_7 kk_1531 ?_
  refine r_if_ne (tgt := 17) dJ0_isLatin1_aae02_10 (by decide) (fun hc => absurd hc (by decide)) (fun _ => ?_)
  refine r_iconst (v := (1 : Int32)) dJ0_isLatin1_aae02_13 (by decide) ?_
  refine r_goto (tgt := 18) dJ0_isLatin1_aae02_14 (by decide) ?_
  refine r_zret dJ0_isLatin1_aae02_18 rfl (by decide) ?_
  have h : _ = o := h
  subst h
  exact hq
theorem ct_J0_isLatin1_aae02 {g : GG}  {t : va_W}  {i : Nat} {o : Int32} (h : f_J0_isLatin1_aae02 i = o) (hi0 : i < 61) : Ct g mJ0_isLatin1_aae02 1 0 0 [.ref (gK g i)] t (Dv (some (.int o)) t) := Ct.ofR (by decide +kernel) rfl (Nat.le_of_ble_eq_true rfl) (rt_J0_isLatin1_aae02 h hi0 ⟨rfl, rfl⟩)
set_option maxRecDepth 20000 in
set_option maxHeartbeats 4000000 in
theorem rt_J0_coder_7d493 {g : GG}  {t : va_W}  {i : Nat} {o : Int32} {Q : Rs → va_W → Prop} (h : f_J0_coder_7d493 i = o) (hi0 : i < 61) (hq : Q (.inl (some (.int o))) t) : R g mJ0_coder_7d493 1 0 0 0 [(0, .ref (gK g i))] [] t Q := by
  unfold f_J0_coder_7d493 at h
  refine r_getC dJ0_coder_7d493_0 kk_288 ?_
  refine r_if_eq (tgt := 13) dJ0_coder_7d493_3 (by decide) (fun hc => absurd hc (by decide)) (fun _ => ?_)
  refine r_aload_n 0 dJ0_coder_7d493_6 rfl ?_
  refine r_getKc hi0 dJ0_coder_7d493_7 kk_1531 ?_
  refine r_goto (tgt := 14) dJ0_coder_7d493_10 (by decide) ?_
  refine r_zret dJ0_coder_7d493_14 rfl (by decide) ?_
  have h : _ = o := h
  subst h
  exact hq
theorem ct_J0_coder_7d493 {g : GG}  {t : va_W}  {i : Nat} {o : Int32} (h : f_J0_coder_7d493 i = o) (hi0 : i < 61) : Ct g mJ0_coder_7d493 1 0 0 [.ref (gK g i)] t (Dv (some (.int o)) t) := Ct.ofR (by decide +kernel) rfl (Nat.le_of_ble_eq_true rfl) (rt_J0_coder_7d493 h hi0 ⟨rfl, rfl⟩)
set_option maxRecDepth 20000 in
set_option maxHeartbeats 4000000 in
theorem rt_J0_length_8abf5 {g : GG}  {t : va_W}  {i : Nat} {o : Int32} {Q : Rs → va_W → Prop} (h : f_J0_length_8abf5 i = o) (hi0 : i < 61) (hq : Q (.inl (some (.int o))) t) : R g mJ0_length_8abf5 2 0 0 0 [(0, .ref (gK g i))] [] t Q := by
  unfold f_J0_length_8abf5 at h
  refine r_aload_n 0 dJ0_length_8abf5_0 rfl ?_
  refine r_getKv hi0 dJ0_length_8abf5_1 kk_1530 ?_
  refine r_alenV hi0 dJ0_length_8abf5_4 ?_
  refine r_aload_n 0 dJ0_length_8abf5_5 rfl ?_
  refine c_K (rest := [.int (Int32.ofNat (lenS.getD i 0))]) 0 0 dJ0_length_8abf5_6 kv_J0_335 rfl hi0 (ct_J0_coder_7d493 (i := i) (o := 0) rfl hi0) rfl rfl (Nat.le_of_ble_eq_true rfl) (by decide) (by decide) ?_
  refine r_ishr dJ0_length_8abf5_9 ?_
  refine r_iret dJ0_length_8abf5_10 rfl ?_
  have h : _ = o := h
  subst h
  exact hq
theorem ct_J0_length_8abf5 {g : GG}  {t : va_W}  {i : Nat} {o : Int32} (h : f_J0_length_8abf5 i = o) (hi0 : i < 61) : Ct g mJ0_length_8abf5 2 0 0 [.ref (gK g i)] t (Dv (some (.int o)) t) := Ct.ofR (by decide +kernel) rfl (Nat.le_of_ble_eq_true rfl) (rt_J0_length_8abf5 h hi0 ⟨rfl, rfl⟩)
set_option maxRecDepth 20000 in
set_option maxHeartbeats 4000000 in
theorem rt_J1_canEncode_9a6ad {g : GG}  {t : va_W}  {p0 : Int32} {o : Int32} {Q : Rs → va_W → Prop} (h : f_J1_canEncode_9a6ad p0 = o) (hq : Q (.inl (some (.int o))) t) : R g mJ1_canEncode_9a6ad 1 0 0 0 [(0, .int p0)] [] t Q := by
  unfold f_J1_canEncode_9a6ad at h
  refine r_iload_n 0 dJ1_canEncode_9a6ad_0 rfl ?_
  refine r_if_lt (tgt := 15) dJ1_canEncode_9a6ad_1 (by decide) (fun hc302 => ?_) (fun hc302 => ?_)
  · have h := ip (fun z9 => z9) hc302 h
    refine r_iconst (v := (0 : Int32)) dJ1_canEncode_9a6ad_15 (by decide) ?_
    refine r_zret dJ1_canEncode_9a6ad_16 rfl (by decide) ?_
    have h : _ = o := h
    subst h
    exact hq
  · have h := iq (fun z9 => z9) hc302 h
    refine r_iload_n 0 dJ1_canEncode_9a6ad_4 rfl ?_
    refine r_sipush (v := (255 : Int32)) dJ1_canEncode_9a6ad_5 (by decide) ?_
    refine r_icmp_gt (tgt := 15) dJ1_canEncode_9a6ad_8 (by decide) (fun hc303 => ?_) (fun hc303 => ?_)
    · have h := ip (fun z9 => z9) hc303 h
      refine r_iconst (v := (0 : Int32)) dJ1_canEncode_9a6ad_15 (by decide) ?_
      refine r_zret dJ1_canEncode_9a6ad_16 rfl (by decide) ?_
      have h : _ = o := h
      subst h
      exact hq
    · have h := iq (fun z9 => z9) hc303 h
      refine r_iconst (v := (1 : Int32)) dJ1_canEncode_9a6ad_11 (by decide) ?_
      refine r_goto (tgt := 16) dJ1_canEncode_9a6ad_12 (by decide) ?_
      refine r_zret dJ1_canEncode_9a6ad_16 rfl (by decide) ?_
      have h : _ = o := h
      subst h
      exact hq
theorem ct_J1_canEncode_9a6ad {g : GG}  {t : va_W}  {p0 : Int32} {o : Int32} (h : f_J1_canEncode_9a6ad p0 = o) : Ct g mJ1_canEncode_9a6ad 1 0 0 [.int p0] t (Dv (some (.int o)) t) := Ct.ofR (by decide +kernel) rfl (Nat.le_of_ble_eq_true rfl) (rt_J1_canEncode_9a6ad h ⟨rfl, rfl⟩)
set_option maxRecDepth 20000 in
set_option maxHeartbeats 4000000 in
theorem rt_J1_indexOfChar_4cfef {g : GG}  {t : va_W}  {N : Nat} {i : Nat} {p1 : Int32} {p2 : Int32} {p3 : Int32} {o : Int32} {Q : Rs → va_W → Prop} (h : f_J1_indexOfChar_4cfef N i p1 p2 p3 = some o) (hi0 : i < 61) (hq : Q (.inl (some (.int o))) t) : R g mJ1_indexOfChar_4cfef 1 0 0 0 [(0, .ref (gV g i)), (1, .int p1), (2, .int p2), (3, .int p3)] [] t Q := by
  unfold f_J1_indexOfChar_4cfef at h
  refine r_iload_n 1 dJ1_indexOfChar_4cfef_0 rfl ?_
  refine r_i2b dJ1_indexOfChar_4cfef_1 ?_
  refine r_istore [(4, .int p1.toInt8.toInt32), (0, .ref (gV g i)), (1, .int p1), (2, .int p2), (3, .int p3)] dJ1_indexOfChar_4cfef_2 (by decide) rfl ?_
  refine r_iload_n 3 dJ1_indexOfChar_4cfef_4 rfl ?_
  refine r_istore [(5, .int p2), (4, .int p1.toInt8.toInt32), (0, .ref (gV g i)), (1, .int p1), (2, .int p2), (3, .int p3)] dJ1_indexOfChar_4cfef_5 (by decide) rfl ?_
  refine r_ls [2, 5, 1, 0] (ls2 := [(0, .ref (gV g i)), (3, .int p3), (4, .int p1.toInt8.toInt32), (5, .int p2)]) rfl ?_
  have L1 : ∀ (n1 : Nat) (c4_1 : Int32) (l5_1 : Int32), (fun z9 => z9) (lpS (f_J1_indexOfChar_4cfef_L7 i p3 c4_1) none n1 l5_1) = some o → R g mJ1_indexOfChar_4cfef 1 0 0 7 [(0, .ref (gV g i)), (3, .int p3), (4, .int c4_1), (5, .int l5_1)] [] t Q := by
    intro n1
    induction n1 with
    | zero => intro c4_1 l5_1 h; exact nomatch (show (none : Option _) = some _ from h)
    | succ n1 ih1 =>
      intro c4_1 l5_1 h
      have h : (fun z9 => (lC (f_J1_indexOfChar_4cfef_L7 i p3 c4_1) none n1 z9)) (f_J1_indexOfChar_4cfef_L7 i p3 c4_1 l5_1) = some o := h
      unfold f_J1_indexOfChar_4cfef_L7 at h
      try dsimp only at h
      refine r_iload 3 dJ1_indexOfChar_4cfef_7 rfl ?_
      refine r_iload_n 1 dJ1_indexOfChar_4cfef_9 rfl ?_
      refine r_icmp_ge (tgt := 31) dJ1_indexOfChar_4cfef_10 (by decide) (fun hc306 => ?_) (fun hc306 => ?_)
      · have h := ip (fun z9 => (lC (f_J1_indexOfChar_4cfef_L7 i p3 c4_1) none n1 z9)) hc306 h
        refine r_iconst (v := (-1 : Int32)) dJ1_indexOfChar_4cfef_31 (by decide) ?_
        refine r_iret dJ1_indexOfChar_4cfef_32 rfl ?_
        have h := Option.some.inj (show some _ = some o from h)
        subst h
        exact hq
      · have h := iq (fun z9 => (lC (f_J1_indexOfChar_4cfef_L7 i p3 c4_1) none n1 z9)) hc306 h
        refine r_aload_n 0 dJ1_indexOfChar_4cfef_13 rfl ?_
        refine r_iload 3 dJ1_indexOfChar_4cfef_14 rfl ?_
        obtain ⟨hb307, h⟩ := gd (fun z9 => (lC (f_J1_indexOfChar_4cfef_L7 i p3 c4_1) none n1 z9)) rfl h
        refine r_bald hi0 dJ1_indexOfChar_4cfef_16 hb307 ?_
        refine r_iload 2 dJ1_indexOfChar_4cfef_17 rfl ?_
        refine r_icmp_ne (tgt := 25) dJ1_indexOfChar_4cfef_19 (by decide) (fun hc308 => ?_) (fun hc308 => ?_)
        · have h := iq (fun z9 => (lC (f_J1_indexOfChar_4cfef_L7 i p3 c4_1) none n1 z9)) hc308 h
          refine r_iinc (v2 := (l5_1 + (1 : Int32))) 3 [(5, .int (l5_1 + (1 : Int32))), (0, .ref (gV g i)), (3, .int p3), (4, .int c4_1)] dJ1_indexOfChar_4cfef_25 rfl rfl (by decide) rfl ?_
          refine r_goto (tgt := 7) dJ1_indexOfChar_4cfef_28 (by decide) ?_
          refine r_ls [1, 2, 3, 0] (ls2 := [(0, .ref (gV g i)), (3, .int p3), (4, .int c4_1), (5, .int (l5_1 + (1 : Int32)))]) rfl ?_
          exact ih1 c4_1 (l5_1 + (1 : Int32)) h
        · have h := ip (fun z9 => (lC (f_J1_indexOfChar_4cfef_L7 i p3 c4_1) none n1 z9)) hc308 h
          refine r_iload 3 dJ1_indexOfChar_4cfef_22 rfl ?_
          refine r_iret dJ1_indexOfChar_4cfef_24 rfl ?_
          have h := Option.some.inj (show some _ = some o from h)
          subst h
          exact hq
  exact L1 _ p1.toInt8.toInt32 p2 h
theorem ct_J1_indexOfChar_4cfef {g : GG}  {t : va_W}  {N : Nat} {i : Nat} {p1 : Int32} {p2 : Int32} {p3 : Int32} {o : Int32} (h : f_J1_indexOfChar_4cfef N i p1 p2 p3 = some o) (hi0 : i < 61) : Ct g mJ1_indexOfChar_4cfef 1 0 0 [.ref (gV g i), .int p1, .int p2, .int p3] t (Dv (some (.int o)) t) := Ct.ofR (by decide +kernel) rfl (Nat.le_of_ble_eq_true rfl) (rt_J1_indexOfChar_4cfef h hi0 ⟨rfl, rfl⟩)
set_option maxRecDepth 20000 in
set_option maxHeartbeats 4000000 in
theorem rt_J1_indexOf_4cfef {g : GG}  {t : va_W}  {N : Nat} {i : Nat} {p1 : Int32} {p2 : Int32} {p3 : Int32} {o : Int32} {Q : Rs → va_W → Prop} (h : f_J1_indexOf_4cfef N i p1 p2 p3 = some o) (hi0 : i < 61) (hq : Q (.inl (some (.int o))) t) : R g mJ1_indexOf_4cfef 2 0 0 0 [(0, .ref (gV g i)), (1, .int p1), (2, .int p2), (3, .int p3)] [] t Q := by
  unfold f_J1_indexOf_4cfef at h
  refine r_iload_n 1 dJ1_indexOf_4cfef_0 rfl ?_
  refine c_S (rest := []) 0 0 dJ1_indexOf_4cfef_1 ks_J1_88 (ct_J1_canEncode_9a6ad rfl) rfl rfl (Nat.le_of_ble_eq_true rfl) (by decide) (by decide) ?_
  refine r_if_ne (tgt := 9) dJ1_indexOf_4cfef_4 (by decide) (fun hc309 => ?_) (fun hc309 => ?_)
  · have h := iq (fun z9 => z9) hc309 h
    refine r_iload_n 2 dJ1_indexOf_4cfef_9 rfl ?_
    refine r_iconst (v := (0 : Int32)) dJ1_indexOf_4cfef_10 (by decide) ?_
    refine c_mmax (rest := []) dJ1_indexOf_4cfef_11 ks_J1_92 (Nat.le_of_ble_eq_true rfl) (by decide) ?_
    refine r_istore_n [(2, .int (f_J9_max_7cf53 p2 (0 : Int32))), (0, .ref (gV g i)), (1, .int p1), (3, .int p3)] dJ1_indexOf_4cfef_14 (by decide) rfl ?_
    refine r_iload_n 3 dJ1_indexOf_4cfef_15 rfl ?_
    refine r_aload_n 1 dJ1_indexOf_4cfef_16 rfl ?_
    refine r_alenV hi0 dJ1_indexOf_4cfef_17 ?_
    refine c_mmin (rest := []) dJ1_indexOf_4cfef_18 ks_J1_38 (Nat.le_of_ble_eq_true rfl) (by decide) ?_
    refine r_istore_n [(3, .int (f_J9_min_7cf53 p3 (Int32.ofNat (lenS.getD i 0)))), (2, .int (f_J9_max_7cf53 p2 (0 : Int32))), (0, .ref (gV g i)), (1, .int p1)] dJ1_indexOf_4cfef_21 (by decide) rfl ?_
    refine r_iload_n 1 dJ1_indexOf_4cfef_22 rfl ?_
    refine r_iload_n 0 dJ1_indexOf_4cfef_23 rfl ?_
    refine r_icmp_lt (tgt := 29) dJ1_indexOf_4cfef_24 (by decide) (fun hc310 => ?_) (fun hc310 => ?_)
    · have h := ip (fun z9 => z9) hc310 h
      refine r_aload_n 2 dJ1_indexOf_4cfef_29 rfl ?_
      refine r_iload_n 3 dJ1_indexOf_4cfef_30 rfl ?_
      refine r_iload_n 1 dJ1_indexOf_4cfef_31 rfl ?_
      refine r_iload_n 0 dJ1_indexOf_4cfef_32 rfl ?_
      obtain ⟨r311, hc312, h⟩ := ob (fun z9 => z9) rfl h
      refine c_S (rest := []) 0 0 dJ1_indexOf_4cfef_33 ks_J1_95 (ct_J1_indexOfChar_4cfef hc312 hi0) rfl rfl (Nat.le_of_ble_eq_true rfl) (by decide) (by decide) ?_
      refine r_iret dJ1_indexOf_4cfef_36 rfl ?_
      have h := Option.some.inj (show some _ = some o from h)
      subst h
      exact hq
    · have h := iq (fun z9 => z9) hc310 h
      refine r_iconst (v := (-1 : Int32)) dJ1_indexOf_4cfef_27 (by decide) ?_
      refine r_iret dJ1_indexOf_4cfef_28 rfl ?_
      have h := Option.some.inj (show some _ = some o from h)
      subst h
      exact hq
  · have h := ip (fun z9 => z9) hc309 h
    refine r_iconst (v := (-1 : Int32)) dJ1_indexOf_4cfef_7 (by decide) ?_
    refine r_iret dJ1_indexOf_4cfef_8 rfl ?_
    have h := Option.some.inj (show some _ = some o from h)
    subst h
    exact hq
theorem ct_J1_indexOf_4cfef {g : GG}  {t : va_W}  {N : Nat} {i : Nat} {p1 : Int32} {p2 : Int32} {p3 : Int32} {o : Int32} (h : f_J1_indexOf_4cfef N i p1 p2 p3 = some o) (hi0 : i < 61) : Ct g mJ1_indexOf_4cfef 2 0 0 [.ref (gV g i), .int p1, .int p2, .int p3] t (Dv (some (.int o)) t) := Ct.ofR (by decide +kernel) rfl (Nat.le_of_ble_eq_true rfl) (rt_J1_indexOf_4cfef h hi0 ⟨rfl, rfl⟩)
set_option maxRecDepth 20000 in
set_option maxHeartbeats 4000000 in
theorem rt_J0_indexOf_7cf53 {g : GG}  {t : va_W}  {N : Nat} {i : Nat} {p1 : Int32} {p2 : Int32} {o : Int32} {Q : Rs → va_W → Prop} (h : f_J0_indexOf_7cf53 N i p1 p2 = some o) (hi0 : i < 61) (hq : Q (.inl (some (.int o))) t) : R g mJ0_indexOf_7cf53 3 0 0 0 [(0, .ref (gK g i)), (1, .int p1), (2, .int p2)] [] t Q := by
  unfold f_J0_indexOf_7cf53 at h
  refine r_aload_n 0 dJ0_indexOf_7cf53_0 rfl ?_
  refine c_K (rest := []) 0 0 dJ0_indexOf_7cf53_1 kv_J0_492 rfl hi0 (ct_J0_isLatin1_aae02 (i := i) (o := 1) rfl hi0) rfl rfl (Nat.le_of_ble_eq_true rfl) (by decide) (by decide) ?_
  refine r_if_eq (tgt := 23) dJ0_indexOf_7cf53_4 (by decide) (fun hc => absurd hc (by decide)) (fun _ => ?_)
  refine r_aload_n 0 dJ0_indexOf_7cf53_7 rfl ?_
  refine r_getKv hi0 dJ0_indexOf_7cf53_8 kk_1530 ?_
  refine r_iload_n 1 dJ0_indexOf_7cf53_11 rfl ?_
  refine r_iload_n 2 dJ0_indexOf_7cf53_12 rfl ?_
  refine r_aload_n 0 dJ0_indexOf_7cf53_13 rfl ?_
  refine c_K (rest := [.int p2, .int p1, .ref (gV g i)]) 0 0 dJ0_indexOf_7cf53_14 kv_J0_505 rfl hi0 (ct_J0_length_8abf5 rfl hi0) rfl rfl (Nat.le_of_ble_eq_true rfl) (by decide) (by decide) ?_
  obtain ⟨r313, hc314, h⟩ := ob (fun z9 => z9) rfl h
  refine c_S (rest := []) 0 0 dJ0_indexOf_7cf53_17 ks_J0_637 (ct_J1_indexOf_4cfef hc314 hi0) rfl rfl (Nat.le_of_ble_eq_true rfl) (by decide) (by decide) ?_
  refine r_goto (tgt := 36) dJ0_indexOf_7cf53_20 (by decide) ?_
  refine r_iret dJ0_indexOf_7cf53_36 rfl ?_
  have h := Option.some.inj (show some _ = some o from h)
  subst h
  exact hq
theorem ct_J0_indexOf_7cf53 {g : GG}  {t : va_W}  {N : Nat} {i : Nat} {p1 : Int32} {p2 : Int32} {o : Int32} (h : f_J0_indexOf_7cf53 N i p1 p2 = some o) (hi0 : i < 61) : Ct g mJ0_indexOf_7cf53 3 0 0 [.ref (gK g i), .int p1, .int p2] t (Dv (some (.int o)) t) := Ct.ofR (by decide +kernel) rfl (Nat.le_of_ble_eq_true rfl) (rt_J0_indexOf_7cf53 h hi0 ⟨rfl, rfl⟩)
