set_option maxRecDepth 20000 in
set_option maxHeartbeats 4000000 in
theorem rt_M_wordAt {g : GG} {am : Nat → Nat} {pm : Nat} {t : va_W} {m0 m1 m2 m3 m4 m5 m6 m7 m8 m9 m10 m11 m12 : Int32} {m14 m15 m16 m18 m19 m20 m21 : Nat → Int32} {N : Nat} {M_tape : Nat → Int32} {M_value : Nat → Int64} {p1 : Int32} {p2 : Int32} {p3 : Int32} {o : Int32 × (Nat → Int64)} {Q : Rs → va_W → Prop} (h : f_M_wordAt N M_tape M_value p1 p2 p3 = some o) (hq : Q (.inl (some (.int o.1))) (wlM g am pm m0 m1 m2 m3 m4 m5 m6 m7 m8 m9 m10 m11 m12 M_tape m14 m15 m16 o.2 m18 m19 m20 m21 ++ t)) : R g mX11_wordAt 6 0 0 0 [(0, .ref (am 0)), (1, .int p1), (2, .int p2), (3, .int p3)] [] (wlM g am pm m0 m1 m2 m3 m4 m5 m6 m7 m8 m9 m10 m11 m12 M_tape m14 m15 m16 M_value m18 m19 m20 m21 ++ t) Q := by
  unfold f_M_wordAt at h
  refine r_lconst (v := (0 : Int64)) dX11_wordAt_0 (by decide) ?_
  refine r_lstore [(4, .long (0 : Int64)), (0, .ref (am 0)), (1, .int p1), (2, .int p2), (3, .int p3)] dX11_wordAt_1 (by decide) rfl ?_
  refine r_iload_n 3 dX11_wordAt_3 rfl ?_
  refine r_istore [(6, .int p2), (4, .long (0 : Int64)), (0, .ref (am 0)), (1, .int p1), (2, .int p2), (3, .int p3)] dX11_wordAt_4 (by decide) rfl ?_
  refine r_ls [2, 3, 5, 1, 0] (ls2 := [(0, .ref (am 0)), (1, .int p1), (3, .int p3), (4, .long (0 : Int64)), (6, .int p2)]) rfl ?_
  have L1 : ∀ (n1 : Nat) (l4_1 : Int64) (l6_1 : Int32), (fun z9 => z9) (lpS (f_M_wordAt_L6 N M_tape M_value p1 p3) none n1 (l4_1, l6_1)) = some o → R g mX11_wordAt 6 0 0 6 [(0, .ref (am 0)), (1, .int p1), (3, .int p3), (4, .long l4_1), (6, .int l6_1)] [] (wlM g am pm m0 m1 m2 m3 m4 m5 m6 m7 m8 m9 m10 m11 m12 M_tape m14 m15 m16 M_value m18 m19 m20 m21 ++ t) Q := by
    intro n1
    induction n1 with
    | zero => intro l4_1 l6_1 h; exact nomatch (show (none : Option _) = some _ from h)
    | succ n1 ih1 =>
      intro l4_1 l6_1 h
      have h : (fun z9 => (lC (f_M_wordAt_L6 N M_tape M_value p1 p3) none n1 z9)) (f_M_wordAt_L6 N M_tape M_value p1 p3 (l4_1, l6_1)) = some o := h
      unfold f_M_wordAt_L6 at h
      try dsimp only at h
      refine r_iload 4 dX11_wordAt_6 rfl ?_
      refine r_iload_n 2 dX11_wordAt_8 rfl ?_
      refine r_icmp_ge (tgt := 38) dX11_wordAt_9 (by decide) (fun hc1835 => ?_) (fun hc1835 => ?_)
      · have h := ip (fun z9 => (lC (f_M_wordAt_L6 N M_tape M_value p1 p3) none n1 z9)) hc1835 h
        refine r_aload_n 0 dX11_wordAt_38 rfl ?_
        refine r_getf (v := .ref (am 5)) _ dX11_wordAt_39 fl_X11_33 lM_0 rfl ?_
        refine r_iload_n 1 dX11_wordAt_42 rfl ?_
        refine r_lload 3 dX11_wordAt_43 rfl ?_
        obtain ⟨hb1836, h⟩ := gd (fun z9 => (lC (f_M_wordAt_L6 N M_tape M_value p1 p3) none n1 z9)) rfl h
        refine r_last _ dX11_wordAt_45 lM_5 hb1836 (sM_17 _) ?_
        refine r_iconst (v := (0 : Int32)) dX11_wordAt_46 (by decide) ?_
        refine r_istore [(6, .int (0 : Int32)), (0, .ref (am 0)), (1, .int p1), (3, .int p3), (4, .long l4_1)] dX11_wordAt_47 (by decide) rfl ?_
        refine r_ls [4, 0] (ls2 := [(4, .long l4_1), (6, .int (0 : Int32))]) rfl ?_
        have L2 : ∀ (n2 : Nat) (M_value_c2 : Nat → Int64) (l6_2 : Int32), (fun z9 => (lC (f_M_wordAt_L6 N M_tape M_value p1 p3) none n1 z9)) (lpS (f_M_wordAt_L49 N l4_1 M_value_c2) (.inr none) n2 l6_2) = some o → R g mX11_wordAt 6 0 0 49 [(4, .long l4_1), (6, .int l6_2)] [] (wlM g am pm m0 m1 m2 m3 m4 m5 m6 m7 m8 m9 m10 m11 m12 M_tape m14 m15 m16 M_value_c2 m18 m19 m20 m21 ++ t) Q := by
          intro n2
          induction n2 with
          | zero => intro M_value_c2 l6_2 h; exact nomatch (show (none : Option _) = some _ from h)
          | succ n2 ih2 =>
            intro M_value_c2 l6_2 h
            have h : (fun z9 => (lC (f_M_wordAt_L6 N M_tape M_value p1 p3) none n1 (lC (f_M_wordAt_L49 N l4_1 M_value_c2) (.inr none) n2 z9))) (f_M_wordAt_L49 N l4_1 M_value_c2 l6_2) = some o := h
            unfold f_M_wordAt_L49 at h
            try dsimp only at h
            refine r_iload 1 dX11_wordAt_49 rfl ?_
            refine r_getW dX11_wordAt_51 kk_1564 ?_
            refine r_alenW dX11_wordAt_54 ?_
            refine r_icmp_ge (tgt := 82) dX11_wordAt_55 (by decide) (fun hc1837 => ?_) (fun hc1837 => ?_)
            · have h := ip (fun z9 => (lC (f_M_wordAt_L6 N M_tape M_value p1 p3) none n1 (lC (f_M_wordAt_L49 N l4_1 M_value_c2) (.inr none) n2 z9))) hc1837 h
              refine r_bipush (v := (30 : Int32)) dX11_wordAt_82 (by decide) ?_
              refine r_iret dX11_wordAt_84 rfl ?_
              have h := Option.some.inj (show some _ = some o from h)
              subst h
              exact hq
            · have h := iq (fun z9 => (lC (f_M_wordAt_L6 N M_tape M_value p1 p3) none n1 (lC (f_M_wordAt_L49 N l4_1 M_value_c2) (.inr none) n2 z9))) hc1837 h
              refine r_getW dX11_wordAt_58 kk_1564 ?_
              refine r_iload 1 dX11_wordAt_61 rfl ?_
              obtain ⟨hb1838, h⟩ := gd (fun z9 => (lC (f_M_wordAt_L6 N M_tape M_value p1 p3) none n1 (lC (f_M_wordAt_L49 N l4_1 M_value_c2) (.inr none) n2 z9))) rfl h
              refine r_aldW dX11_wordAt_63 hb1838 ?_
              have hw_hb1838 : (wS l6_2.toNatClampNeg) < 41 := wS_lt hb1838
              obtain ⟨r1839, hc1840, h⟩ := ob (fun z9 => (lC (f_M_wordAt_L6 N M_tape M_value p1 p3) none n1 (lC (f_M_wordAt_L49 N l4_1 M_value_c2) (.inr none) n2 z9))) rfl h
              refine c_S (rest := []) 0 0 dX11_wordAt_64 ks_X11_242 (ct_M_nameOf hc1840 hw_hb1838) rfl rfl (Nat.le_of_ble_eq_true rfl) (by decide) (by decide) ?_
              refine r_lload 0 dX11_wordAt_67 rfl ?_
              refine r_lcmp dX11_wordAt_69 ?_
              refine r_if_ne (tgt := 76) dX11_wordAt_70 (by decide) (fun hc1841 => ?_) (fun hc1841 => ?_)
              · have h := iq (fun z9 => (lC (f_M_wordAt_L6 N M_tape M_value p1 p3) none n1 (lC (f_M_wordAt_L49 N l4_1 M_value_c2) (.inr none) n2 z9))) hc1841 h
                refine r_iinc (v2 := (l6_2 + (1 : Int32))) 1 [(6, .int (l6_2 + (1 : Int32))), (4, .long l4_1)] dX11_wordAt_76 rfl rfl (by decide) rfl ?_
                refine r_goto (tgt := 49) dX11_wordAt_79 (by decide) ?_
                refine r_ls [1, 0] (ls2 := [(4, .long l4_1), (6, .int (l6_2 + (1 : Int32)))]) rfl ?_
                exact ih2 M_value_c2 (l6_2 + (1 : Int32)) h
              · have h := ip (fun z9 => (lC (f_M_wordAt_L6 N M_tape M_value p1 p3) none n1 (lC (f_M_wordAt_L49 N l4_1 M_value_c2) (.inr none) n2 z9))) hc1841 h
                refine r_iload 1 dX11_wordAt_73 rfl ?_
                refine r_iret dX11_wordAt_75 rfl ?_
                have h := Option.some.inj (show some _ = some o from h)
                subst h
                exact hq
        exact L2 _ (vp_updL M_value p1.toNatClampNeg l4_1) (0 : Int32) h
      · have h := iq (fun z9 => (lC (f_M_wordAt_L6 N M_tape M_value p1 p3) none n1 z9)) hc1835 h
        refine r_ldc2 dX11_wordAt_12 kk_1560 ?_
        refine r_lload 3 dX11_wordAt_15 rfl ?_
        refine r_lmul dX11_wordAt_17 ?_
        refine r_aload_n 0 dX11_wordAt_18 rfl ?_
        refine r_getf (v := .ref (am 1)) _ dX11_wordAt_19 fl_X11_9 lM_0 rfl ?_
        refine r_iload 4 dX11_wordAt_22 rfl ?_
        obtain ⟨hb1842, h⟩ := gd (fun z9 => (lC (f_M_wordAt_L6 N M_tape M_value p1 p3) none n1 z9)) rfl h
        refine r_iald _ dX11_wordAt_24 lM_1 hb1842 ?_
        refine c_S (rest := [.long ((37 : Int64) * l4_1)]) 0 0 dX11_wordAt_25 ks_X11_235 (ct_M_letter rfl) rfl rfl (Nat.le_of_ble_eq_true rfl) (by decide) (by decide) ?_
        refine r_i2l dX11_wordAt_28 ?_
        refine r_ladd dX11_wordAt_29 ?_
        refine r_lstore [(4, .long (((37 : Int64) * l4_1) + (f_M_letter (M_tape l6_1.toNatClampNeg)).toInt64)), (0, .ref (am 0)), (1, .int p1), (3, .int p3), (6, .int l6_1)] dX11_wordAt_30 (by decide) rfl ?_
        refine r_iinc (v2 := (l6_1 + (1 : Int32))) 4 [(6, .int (l6_1 + (1 : Int32))), (4, .long (((37 : Int64) * l4_1) + (f_M_letter (M_tape l6_1.toNatClampNeg)).toInt64)), (0, .ref (am 0)), (1, .int p1), (3, .int p3)] dX11_wordAt_32 rfl rfl (by decide) rfl ?_
        refine r_goto (tgt := 6) dX11_wordAt_35 (by decide) ?_
        refine r_ls [2, 3, 4, 1, 0] (ls2 := [(0, .ref (am 0)), (1, .int p1), (3, .int p3), (4, .long (((37 : Int64) * l4_1) + (f_M_letter (M_tape l6_1.toNatClampNeg)).toInt64)), (6, .int (l6_1 + (1 : Int32)))]) rfl ?_
        exact ih1 (((37 : Int64) * l4_1) + (f_M_letter (M_tape l6_1.toNatClampNeg)).toInt64) (l6_1 + (1 : Int32)) h
  exact L1 _ (0 : Int64) p2 h
theorem ct_M_wordAt {g : GG} {am : Nat → Nat} {pm : Nat} {t : va_W} {m0 m1 m2 m3 m4 m5 m6 m7 m8 m9 m10 m11 m12 : Int32} {m14 m15 m16 m18 m19 m20 m21 : Nat → Int32} {N : Nat} {M_tape : Nat → Int32} {M_value : Nat → Int64} {p1 : Int32} {p2 : Int32} {p3 : Int32} {o : Int32 × (Nat → Int64)} (h : f_M_wordAt N M_tape M_value p1 p2 p3 = some o) : Ct g mX11_wordAt 6 0 0 [.ref (am 0), .int p1, .int p2, .int p3] (wlM g am pm m0 m1 m2 m3 m4 m5 m6 m7 m8 m9 m10 m11 m12 M_tape m14 m15 m16 M_value m18 m19 m20 m21 ++ t) (Dv (some (.int o.1)) (wlM g am pm m0 m1 m2 m3 m4 m5 m6 m7 m8 m9 m10 m11 m12 M_tape m14 m15 m16 o.2 m18 m19 m20 m21 ++ t)) := Ct.ofR (by decide +kernel) rfl (Nat.le_of_ble_eq_true rfl) (rt_M_wordAt h ⟨rfl, rfl⟩)
set_option maxRecDepth 20000 in
set_option maxHeartbeats 4000000 in
theorem rt_M_numberAt {g : GG} {am : Nat → Nat} {pm : Nat} {t : va_W} {m0 m1 m2 m3 m4 m5 m6 m7 m8 m9 m10 m11 m12 : Int32} {m14 m15 m16 m18 m19 m20 m21 : Nat → Int32} {N : Nat} {M_tape : Nat → Int32} {M_value : Nat → Int64} {p1 : Int32} {p2 : Int32} {p3 : Int32} {o : Int32 × (Nat → Int64)} {Q : Rs → va_W → Prop} (h : f_M_numberAt N M_tape M_value p1 p2 p3 = some o) (hq : Q (.inl (some (.int o.1))) (wlM g am pm m0 m1 m2 m3 m4 m5 m6 m7 m8 m9 m10 m11 m12 M_tape m14 m15 m16 o.2 m18 m19 m20 m21 ++ t)) : R g mX11_numberAt 1 0 0 0 [(0, .ref (am 0)), (1, .int p1), (2, .int p2), (3, .int p3)] [] (wlM g am pm m0 m1 m2 m3 m4 m5 m6 m7 m8 m9 m10 m11 m12 M_tape m14 m15 m16 M_value m18 m19 m20 m21 ++ t) Q := by
  unfold f_M_numberAt at h
  refine r_iconst (v := (0 : Int32)) dX11_numberAt_0 (by decide) ?_
  refine r_istore [(4, .int (0 : Int32)), (0, .ref (am 0)), (1, .int p1), (2, .int p2), (3, .int p3)] dX11_numberAt_1 (by decide) rfl ?_
  refine r_iload_n 3 dX11_numberAt_3 rfl ?_
  refine r_istore [(5, .int p2), (4, .int (0 : Int32)), (0, .ref (am 0)), (1, .int p1), (2, .int p2), (3, .int p3)] dX11_numberAt_4 (by decide) rfl ?_
  refine r_ls [2, 3, 5, 1, 0] (ls2 := [(0, .ref (am 0)), (1, .int p1), (3, .int p3), (4, .int (0 : Int32)), (5, .int p2)]) rfl ?_
  have L1 : ∀ (n1 : Nat) (l4_1 : Int32) (l5_1 : Int32), (fun z9 => z9) (lpS (f_M_numberAt_L6 M_tape M_value p1 p3) none n1 (l4_1, l5_1)) = some o → R g mX11_numberAt 1 0 0 6 [(0, .ref (am 0)), (1, .int p1), (3, .int p3), (4, .int l4_1), (5, .int l5_1)] [] (wlM g am pm m0 m1 m2 m3 m4 m5 m6 m7 m8 m9 m10 m11 m12 M_tape m14 m15 m16 M_value m18 m19 m20 m21 ++ t) Q := by
    intro n1
    induction n1 with
    | zero => intro l4_1 l5_1 h; exact nomatch (show (none : Option _) = some _ from h)
    | succ n1 ih1 =>
      intro l4_1 l5_1 h
      have h : (fun z9 => (lC (f_M_numberAt_L6 M_tape M_value p1 p3) none n1 z9)) (f_M_numberAt_L6 M_tape M_value p1 p3 (l4_1, l5_1)) = some o := h
      unfold f_M_numberAt_L6 at h
      try dsimp only at h
      refine r_iload 4 dX11_numberAt_6 rfl ?_
      refine r_iload_n 2 dX11_numberAt_8 rfl ?_
      refine r_icmp_ge (tgt := 36) dX11_numberAt_9 (by decide) (fun hc1843 => ?_) (fun hc1843 => ?_)
      · have h := ip (fun z9 => (lC (f_M_numberAt_L6 M_tape M_value p1 p3) none n1 z9)) hc1843 h
        refine r_aload_n 0 dX11_numberAt_36 rfl ?_
        refine r_getf (v := .ref (am 5)) _ dX11_numberAt_37 fl_X11_33 lM_0 rfl ?_
        refine r_iload_n 1 dX11_numberAt_40 rfl ?_
        refine r_iload 3 dX11_numberAt_41 rfl ?_
        refine r_i2l dX11_numberAt_43 ?_
        obtain ⟨hb1844, h⟩ := gd (fun z9 => (lC (f_M_numberAt_L6 M_tape M_value p1 p3) none n1 z9)) rfl h
        refine r_last _ dX11_numberAt_44 lM_5 hb1844 (sM_17 _) ?_
        refine r_bipush (v := (31 : Int32)) dX11_numberAt_45 (by decide) ?_
        refine r_iret dX11_numberAt_47 rfl ?_
        have h := Option.some.inj (show some _ = some o from h)
        subst h
        exact hq
      · have h := iq (fun z9 => (lC (f_M_numberAt_L6 M_tape M_value p1 p3) none n1 z9)) hc1843 h
        refine r_bipush (v := (10 : Int32)) dX11_numberAt_12 (by decide) ?_
        refine r_iload 3 dX11_numberAt_14 rfl ?_
        refine r_imul dX11_numberAt_16 ?_
        refine r_aload_n 0 dX11_numberAt_17 rfl ?_
        refine r_getf (v := .ref (am 1)) _ dX11_numberAt_18 fl_X11_9 lM_0 rfl ?_
        refine r_iload 4 dX11_numberAt_21 rfl ?_
        obtain ⟨hb1845, h⟩ := gd (fun z9 => (lC (f_M_numberAt_L6 M_tape M_value p1 p3) none n1 z9)) rfl h
        refine r_iald _ dX11_numberAt_23 lM_1 hb1845 ?_
        refine r_iadd dX11_numberAt_24 ?_
        refine r_bipush (v := (48 : Int32)) dX11_numberAt_25 (by decide) ?_
        refine r_isub dX11_numberAt_27 ?_
        refine r_istore [(4, .int ((((10 : Int32) * l4_1) + (M_tape l5_1.toNatClampNeg)) - (48 : Int32))), (0, .ref (am 0)), (1, .int p1), (3, .int p3), (5, .int l5_1)] dX11_numberAt_28 (by decide) rfl ?_
        refine r_iinc (v2 := (l5_1 + (1 : Int32))) 4 [(5, .int (l5_1 + (1 : Int32))), (4, .int ((((10 : Int32) * l4_1) + (M_tape l5_1.toNatClampNeg)) - (48 : Int32))), (0, .ref (am 0)), (1, .int p1), (3, .int p3)] dX11_numberAt_30 rfl rfl (by decide) rfl ?_
        refine r_goto (tgt := 6) dX11_numberAt_33 (by decide) ?_
        refine r_ls [2, 3, 4, 1, 0] (ls2 := [(0, .ref (am 0)), (1, .int p1), (3, .int p3), (4, .int ((((10 : Int32) * l4_1) + (M_tape l5_1.toNatClampNeg)) - (48 : Int32))), (5, .int (l5_1 + (1 : Int32)))]) rfl ?_
        exact ih1 ((((10 : Int32) * l4_1) + (M_tape l5_1.toNatClampNeg)) - (48 : Int32)) (l5_1 + (1 : Int32)) h
  exact L1 _ (0 : Int32) p2 h
theorem ct_M_numberAt {g : GG} {am : Nat → Nat} {pm : Nat} {t : va_W} {m0 m1 m2 m3 m4 m5 m6 m7 m8 m9 m10 m11 m12 : Int32} {m14 m15 m16 m18 m19 m20 m21 : Nat → Int32} {N : Nat} {M_tape : Nat → Int32} {M_value : Nat → Int64} {p1 : Int32} {p2 : Int32} {p3 : Int32} {o : Int32 × (Nat → Int64)} (h : f_M_numberAt N M_tape M_value p1 p2 p3 = some o) : Ct g mX11_numberAt 1 0 0 [.ref (am 0), .int p1, .int p2, .int p3] (wlM g am pm m0 m1 m2 m3 m4 m5 m6 m7 m8 m9 m10 m11 m12 M_tape m14 m15 m16 M_value m18 m19 m20 m21 ++ t) (Dv (some (.int o.1)) (wlM g am pm m0 m1 m2 m3 m4 m5 m6 m7 m8 m9 m10 m11 m12 M_tape m14 m15 m16 o.2 m18 m19 m20 m21 ++ t)) := Ct.ofR (by decide +kernel) rfl (Nat.le_of_ble_eq_true rfl) (rt_M_numberAt h ⟨rfl, rfl⟩)
set_option maxRecDepth 20000 in
set_option maxHeartbeats 4000000 in
theorem rt_M_kindOf3 {g : GG} {am : Nat → Nat} {pm : Nat} {t : va_W} {m0 m2 m3 m4 m5 m6 m7 m8 m9 m10 m11 m12 : Int32} {m14 m15 m16 m18 m19 m20 m21 : Nat → Int32} {N : Nat} {M_size : Int32} {M_tape : Nat → Int32} {M_value : Nat → Int64} {p1 : Int32} {p2 : Int32} {p3 : Int32} {o : Int32 × (Nat → Int64)} {Q : Rs → va_W → Prop} (h : f_M_kindOf3 N M_size M_tape M_value p1 p2 p3 = some o) (hq : Q (.inl (some (.int o.1))) (wlM g am pm m0 M_size m2 m3 m4 m5 m6 m7 m8 m9 m10 m11 m12 M_tape m14 m15 m16 o.2 m18 m19 m20 m21 ++ t)) : R g mX11_kindOf 7 0 0 0 [(0, .ref (am 0)), (1, .int p1), (2, .int p2), (3, .int p3)] [] (wlM g am pm m0 M_size m2 m3 m4 m5 m6 m7 m8 m9 m10 m11 m12 M_tape m14 m15 m16 M_value m18 m19 m20 m21 ++ t) Q := by
  unfold f_M_kindOf3 at h
  refine r_aload_n 0 dX11_kindOf_0 rfl ?_
  refine r_iload_n 2 dX11_kindOf_1 rfl ?_
  obtain ⟨r1846, hc1847, h⟩ := ob (fun z9 => z9) rfl h
  refine c_V (rest := []) 0 0 _ dX11_kindOf_2 kv_X11_209 (ct_M_byteOf hc1847) rfl rfl lM_0 rfl (Nat.le_of_ble_eq_true rfl) (by decide) (by decide) ?_
  refine r_istore [(4, .int r1846), (0, .ref (am 0)), (1, .int p1), (2, .int p2), (3, .int p3)] dX11_kindOf_5 (by decide) rfl ?_
  refine r_iload 0 dX11_kindOf_7 rfl ?_
  refine r_iconst (v := (-1 : Int32)) dX11_kindOf_9 (by decide) ?_
  refine r_icmp_ne (tgt := 16) dX11_kindOf_10 (by decide) (fun hc1848 => ?_) (fun hc1848 => ?_)
  · have h := iq (fun z9 => z9) hc1848 h
    refine r_iload 0 dX11_kindOf_16 rfl ?_
    refine c_S (rest := []) 0 0 dX11_kindOf_18 ks_X11_215 (ct_M_isDigit rfl) rfl rfl (Nat.le_of_ble_eq_true rfl) (by decide) (by decide) ?_
    refine r_if_eq (tgt := 45) dX11_kindOf_21 (by decide) (fun hc1849 => ?_) (fun hc1849 => ?_)
    · have h := ip (fun z9 => z9) hc1849 h
      refine r_iload 0 dX11_kindOf_45 rfl ?_
      refine c_S (rest := []) 0 0 dX11_kindOf_47 ks_X11_212 (ct_M_isSmall rfl) rfl rfl (Nat.le_of_ble_eq_true rfl) (by decide) (by decide) ?_
      refine r_if_eq (tgt := 74) dX11_kindOf_50 (by decide) (fun hc1850 => ?_) (fun hc1850 => ?_)
      · have h := ip (fun z9 => z9) hc1850 h
        refine r_iload_n 4 dX11_kindOf_74 rfl ?_
        refine r_iload_n 3 dX11_kindOf_75 rfl ?_
        refine r_isub dX11_kindOf_76 ?_
        refine r_iconst (v := (2 : Int32)) dX11_kindOf_77 (by decide) ?_
        refine r_icmp_ne (tgt := 88) dX11_kindOf_78 (by decide) (fun hc1851 => ?_) (fun hc1851 => ?_)
        · have h := iq (fun z9 => z9) hc1851 h
          refine r_iload 0 dX11_kindOf_88 rfl ?_
          refine r_bipush (v := (40 : Int32)) dX11_kindOf_90 (by decide) ?_
          refine r_icmp_eq (tgt := 179) dX11_kindOf_92 (by decide) (fun hc1852 => ?_) (fun hc1852 => ?_)
          · have h := ip (fun z9 => z9) hc1852 h
            refine r_iload 0 dX11_kindOf_179 rfl ?_
            refine r_goto (tgt := 186) dX11_kindOf_181 (by decide) ?_
            refine r_iret dX11_kindOf_186 rfl ?_
            have h := Option.some.inj (show some _ = some o from h)
            subst h
            exact hq
          · have h := iq (fun z9 => z9) hc1852 h
            refine r_iload 0 dX11_kindOf_95 rfl ?_
            refine r_bipush (v := (41 : Int32)) dX11_kindOf_97 (by decide) ?_
            refine r_icmp_eq (tgt := 179) dX11_kindOf_99 (by decide) (fun hc1853 => ?_) (fun hc1853 => ?_)
            · have h := ip (fun z9 => z9) hc1853 h
              refine r_iload 0 dX11_kindOf_179 rfl ?_
              refine r_goto (tgt := 186) dX11_kindOf_181 (by decide) ?_
              refine r_iret dX11_kindOf_186 rfl ?_
              have h := Option.some.inj (show some _ = some o from h)
              subst h
              exact hq
            · have h := iq (fun z9 => z9) hc1853 h
              refine r_iload 0 dX11_kindOf_102 rfl ?_
              refine r_bipush (v := (91 : Int32)) dX11_kindOf_104 (by decide) ?_
              refine r_icmp_eq (tgt := 179) dX11_kindOf_106 (by decide) (fun hc1854 => ?_) (fun hc1854 => ?_)
              · have h := ip (fun z9 => z9) hc1854 h
                refine r_iload 0 dX11_kindOf_179 rfl ?_
                refine r_goto (tgt := 186) dX11_kindOf_181 (by decide) ?_
                refine r_iret dX11_kindOf_186 rfl ?_
                have h := Option.some.inj (show some _ = some o from h)
                subst h
                exact hq
              · have h := iq (fun z9 => z9) hc1854 h
                refine r_iload 0 dX11_kindOf_109 rfl ?_
                refine r_bipush (v := (93 : Int32)) dX11_kindOf_111 (by decide) ?_
                refine r_icmp_eq (tgt := 179) dX11_kindOf_113 (by decide) (fun hc1855 => ?_) (fun hc1855 => ?_)
                · have h := ip (fun z9 => z9) hc1855 h
                  refine r_iload 0 dX11_kindOf_179 rfl ?_
                  refine r_goto (tgt := 186) dX11_kindOf_181 (by decide) ?_
                  refine r_iret dX11_kindOf_186 rfl ?_
                  have h := Option.some.inj (show some _ = some o from h)
                  subst h
                  exact hq
                · have h := iq (fun z9 => z9) hc1855 h
                  refine r_iload 0 dX11_kindOf_116 rfl ?_
                  refine r_bipush (v := (59 : Int32)) dX11_kindOf_118 (by decide) ?_
                  refine r_icmp_eq (tgt := 179) dX11_kindOf_120 (by decide) (fun hc1856 => ?_) (fun hc1856 => ?_)
                  · have h := ip (fun z9 => z9) hc1856 h
                    refine r_iload 0 dX11_kindOf_179 rfl ?_
                    refine r_goto (tgt := 186) dX11_kindOf_181 (by decide) ?_
                    refine r_iret dX11_kindOf_186 rfl ?_
                    have h := Option.some.inj (show some _ = some o from h)
                    subst h
                    exact hq
                  · have h := iq (fun z9 => z9) hc1856 h
                    refine r_iload 0 dX11_kindOf_123 rfl ?_
                    refine r_bipush (v := (44 : Int32)) dX11_kindOf_125 (by decide) ?_
                    refine r_icmp_eq (tgt := 179) dX11_kindOf_127 (by decide) (fun hc1857 => ?_) (fun hc1857 => ?_)
                    · have h := ip (fun z9 => z9) hc1857 h
                      refine r_iload 0 dX11_kindOf_179 rfl ?_
                      refine r_goto (tgt := 186) dX11_kindOf_181 (by decide) ?_
                      refine r_iret dX11_kindOf_186 rfl ?_
                      have h := Option.some.inj (show some _ = some o from h)
                      subst h
                      exact hq
                    · have h := iq (fun z9 => z9) hc1857 h
                      refine r_iload 0 dX11_kindOf_130 rfl ?_
                      refine r_bipush (v := (43 : Int32)) dX11_kindOf_132 (by decide) ?_
                      refine r_icmp_eq (tgt := 179) dX11_kindOf_134 (by decide) (fun hc1858 => ?_) (fun hc1858 => ?_)
                      · have h := ip (fun z9 => z9) hc1858 h
                        refine r_iload 0 dX11_kindOf_179 rfl ?_
                        refine r_goto (tgt := 186) dX11_kindOf_181 (by decide) ?_
                        refine r_iret dX11_kindOf_186 rfl ?_
                        have h := Option.some.inj (show some _ = some o from h)
                        subst h
                        exact hq
                      · have h := iq (fun z9 => z9) hc1858 h
                        refine r_iload 0 dX11_kindOf_137 rfl ?_
                        refine r_bipush (v := (45 : Int32)) dX11_kindOf_139 (by decide) ?_
                        refine r_icmp_eq (tgt := 179) dX11_kindOf_141 (by decide) (fun hc1859 => ?_) (fun hc1859 => ?_)
                        · have h := ip (fun z9 => z9) hc1859 h
                          refine r_iload 0 dX11_kindOf_179 rfl ?_
                          refine r_goto (tgt := 186) dX11_kindOf_181 (by decide) ?_
                          refine r_iret dX11_kindOf_186 rfl ?_
                          have h := Option.some.inj (show some _ = some o from h)
                          subst h
                          exact hq
                        · have h := iq (fun z9 => z9) hc1859 h
                          refine r_iload 0 dX11_kindOf_144 rfl ?_
                          refine r_bipush (v := (42 : Int32)) dX11_kindOf_146 (by decide) ?_
                          refine r_icmp_eq (tgt := 179) dX11_kindOf_148 (by decide) (fun hc1860 => ?_) (fun hc1860 => ?_)
                          · have h := ip (fun z9 => z9) hc1860 h
                            refine r_iload 0 dX11_kindOf_179 rfl ?_
                            refine r_goto (tgt := 186) dX11_kindOf_181 (by decide) ?_
                            refine r_iret dX11_kindOf_186 rfl ?_
                            have h := Option.some.inj (show some _ = some o from h)
                            subst h
                            exact hq
                          · have h := iq (fun z9 => z9) hc1860 h
                            refine r_iload 0 dX11_kindOf_151 rfl ?_
                            refine r_bipush (v := (47 : Int32)) dX11_kindOf_153 (by decide) ?_
                            refine r_icmp_eq (tgt := 179) dX11_kindOf_155 (by decide) (fun hc1861 => ?_) (fun hc1861 => ?_)
                            · have h := ip (fun z9 => z9) hc1861 h
                              refine r_iload 0 dX11_kindOf_179 rfl ?_
                              refine r_goto (tgt := 186) dX11_kindOf_181 (by decide) ?_
                              refine r_iret dX11_kindOf_186 rfl ?_
                              have h := Option.some.inj (show some _ = some o from h)
                              subst h
                              exact hq
                            · have h := iq (fun z9 => z9) hc1861 h
                              refine r_iload 0 dX11_kindOf_158 rfl ?_
                              refine r_bipush (v := (60 : Int32)) dX11_kindOf_160 (by decide) ?_
                              refine r_icmp_eq (tgt := 179) dX11_kindOf_162 (by decide) (fun hc1862 => ?_) (fun hc1862 => ?_)
                              · have h := ip (fun z9 => z9) hc1862 h
                                refine r_iload 0 dX11_kindOf_179 rfl ?_
                                refine r_goto (tgt := 186) dX11_kindOf_181 (by decide) ?_
                                refine r_iret dX11_kindOf_186 rfl ?_
                                have h := Option.some.inj (show some _ = some o from h)
                                subst h
                                exact hq
                              · have h := iq (fun z9 => z9) hc1862 h
                                refine r_iload 0 dX11_kindOf_165 rfl ?_
                                refine r_bipush (v := (62 : Int32)) dX11_kindOf_167 (by decide) ?_
                                refine r_icmp_eq (tgt := 179) dX11_kindOf_169 (by decide) (fun hc1863 => ?_) (fun hc1863 => ?_)
                                · have h := ip (fun z9 => z9) hc1863 h
                                  refine r_iload 0 dX11_kindOf_179 rfl ?_
                                  refine r_goto (tgt := 186) dX11_kindOf_181 (by decide) ?_
                                  refine r_iret dX11_kindOf_186 rfl ?_
                                  have h := Option.some.inj (show some _ = some o from h)
                                  subst h
                                  exact hq
                                · have h := iq (fun z9 => z9) hc1863 h
                                  refine r_iload 0 dX11_kindOf_172 rfl ?_
                                  refine r_bipush (v := (61 : Int32)) dX11_kindOf_174 (by decide) ?_
                                  refine r_icmp_ne (tgt := 184) dX11_kindOf_176 (by decide) (fun hc1864 => ?_) (fun hc1864 => ?_)
                                  · have h := iq (fun z9 => z9) hc1864 h
                                    refine r_bipush (v := (32 : Int32)) dX11_kindOf_184 (by decide) ?_
                                    refine r_iret dX11_kindOf_186 rfl ?_
                                    have h := Option.some.inj (show some _ = some o from h)
                                    subst h
                                    exact hq
                                  · have h := ip (fun z9 => z9) hc1864 h
                                    refine r_iload 0 dX11_kindOf_179 rfl ?_
                                    refine r_goto (tgt := 186) dX11_kindOf_181 (by decide) ?_
                                    refine r_iret dX11_kindOf_186 rfl ?_
                                    have h := Option.some.inj (show some _ = some o from h)
                                    subst h
                                    exact hq
        · have h := ip (fun z9 => z9) hc1851 h
          refine r_sipush (v := (256 : Int32)) dX11_kindOf_81 (by decide) ?_
          refine r_iload 0 dX11_kindOf_84 rfl ?_
          refine r_iadd dX11_kindOf_86 ?_
          refine r_iret dX11_kindOf_87 rfl ?_
          have h := Option.some.inj (show some _ = some o from h)
          subst h
          exact hq
      · have h := iq (fun z9 => z9) hc1850 h
        refine r_iload_n 4 dX11_kindOf_53 rfl ?_
        refine r_iload_n 3 dX11_kindOf_54 rfl ?_
        refine r_isub dX11_kindOf_55 ?_
        refine r_bipush (v := (10 : Int32)) dX11_kindOf_56 (by decide) ?_
        refine r_icmp_le (tgt := 66) dX11_kindOf_58 (by decide) (fun hc1865 => ?_) (fun hc1865 => ?_)
        · have h := ip (fun z9 => z9) hc1865 h
          refine r_aload_n 1 dX11_kindOf_66 rfl ?_
          refine r_iload_n 2 dX11_kindOf_67 rfl ?_
          refine r_iload_n 3 dX11_kindOf_68 rfl ?_
          refine r_iload_n 4 dX11_kindOf_69 rfl ?_
          obtain ⟨r1866, hc1867, h⟩ := ob (fun z9 => z9) rfl h
          refine c_V (rest := []) 0 0 _ dX11_kindOf_70 kv_X11_221 (ct_M_wordAt hc1867) rfl rfl lM_0 rfl (Nat.le_of_ble_eq_true rfl) (by decide) (by decide) ?_
          refine r_iret dX11_kindOf_73 rfl ?_
          have h := Option.some.inj (show some _ = some o from h)
          subst h
          exact hq
        · have h := iq (fun z9 => z9) hc1865 h
          refine r_bipush (v := (32 : Int32)) dX11_kindOf_61 (by decide) ?_
          refine r_goto (tgt := 73) dX11_kindOf_63 (by decide) ?_
          refine r_iret dX11_kindOf_73 rfl ?_
          have h := Option.some.inj (show some _ = some o from h)
          subst h
          exact hq
    · have h := iq (fun z9 => z9) hc1849 h
      refine r_iload_n 4 dX11_kindOf_24 rfl ?_
      refine r_iload_n 3 dX11_kindOf_25 rfl ?_
      refine r_isub dX11_kindOf_26 ?_
      refine r_bipush (v := (6 : Int32)) dX11_kindOf_27 (by decide) ?_
      refine r_icmp_le (tgt := 37) dX11_kindOf_29 (by decide) (fun hc1868 => ?_) (fun hc1868 => ?_)
      · have h := ip (fun z9 => z9) hc1868 h
        refine r_aload_n 1 dX11_kindOf_37 rfl ?_
        refine r_iload_n 2 dX11_kindOf_38 rfl ?_
        refine r_iload_n 3 dX11_kindOf_39 rfl ?_
        refine r_iload_n 4 dX11_kindOf_40 rfl ?_
        obtain ⟨r1869, hc1870, h⟩ := ob (fun z9 => z9) rfl h
        refine c_V (rest := []) 0 0 _ dX11_kindOf_41 kv_X11_218 (ct_M_numberAt hc1870) rfl rfl lM_0 rfl (Nat.le_of_ble_eq_true rfl) (by decide) (by decide) ?_
        refine r_iret dX11_kindOf_44 rfl ?_
        have h := Option.some.inj (show some _ = some o from h)
        subst h
        exact hq
      · have h := iq (fun z9 => z9) hc1868 h
        refine r_bipush (v := (32 : Int32)) dX11_kindOf_32 (by decide) ?_
        refine r_goto (tgt := 44) dX11_kindOf_34 (by decide) ?_
        refine r_iret dX11_kindOf_44 rfl ?_
        have h := Option.some.inj (show some _ = some o from h)
        subst h
        exact hq
  · have h := ip (fun z9 => z9) hc1848 h
    refine r_bipush (v := (33 : Int32)) dX11_kindOf_13 (by decide) ?_
    refine r_iret dX11_kindOf_15 rfl ?_
    have h := Option.some.inj (show some _ = some o from h)
    subst h
    exact hq
theorem ct_M_kindOf3 {g : GG} {am : Nat → Nat} {pm : Nat} {t : va_W} {m0 m2 m3 m4 m5 m6 m7 m8 m9 m10 m11 m12 : Int32} {m14 m15 m16 m18 m19 m20 m21 : Nat → Int32} {N : Nat} {M_size : Int32} {M_tape : Nat → Int32} {M_value : Nat → Int64} {p1 : Int32} {p2 : Int32} {p3 : Int32} {o : Int32 × (Nat → Int64)} (h : f_M_kindOf3 N M_size M_tape M_value p1 p2 p3 = some o) : Ct g mX11_kindOf 7 0 0 [.ref (am 0), .int p1, .int p2, .int p3] (wlM g am pm m0 M_size m2 m3 m4 m5 m6 m7 m8 m9 m10 m11 m12 M_tape m14 m15 m16 M_value m18 m19 m20 m21 ++ t) (Dv (some (.int o.1)) (wlM g am pm m0 M_size m2 m3 m4 m5 m6 m7 m8 m9 m10 m11 m12 M_tape m14 m15 m16 o.2 m18 m19 m20 m21 ++ t)) := Ct.ofR (by decide +kernel) rfl (Nat.le_of_ble_eq_true rfl) (rt_M_kindOf3 h ⟨rfl, rfl⟩)
set_option maxRecDepth 20000 in
set_option maxHeartbeats 4000000 in
theorem rt_M_cutIntoTokens {g : GG} {am : Nat → Nat} {pm : Nat} {t : va_W} {m0 m2 m3 m4 m5 m6 m7 m8 m9 m10 m11 m12 : Int32} {m18 m19 m20 m21 : Nat → Int32} {N : Nat} {M_size : Int32} {M_tape : Nat → Int32} {M_kind : Nat → Int32} {M_from : Nat → Int32} {M_means : Nat → Int32} {M_value : Nat → Int64} {o : (Nat → Int32) × (Nat → Int32) × (Nat → Int32) × (Nat → Int64)} {Q : Rs → va_W → Prop} (h : f_M_cutIntoTokens N M_size M_tape M_kind M_from M_means M_value = some o) (hq : Q (.inl (none)) (wlM g am pm m0 M_size m2 m3 m4 m5 m6 m7 m8 m9 m10 m11 m12 M_tape o.1 o.2.1 o.2.2.1 o.2.2.2 m18 m19 m20 m21 ++ t)) : R g mX11_cutIntoTokens 8 0 0 0 [(0, .ref (am 0))] [] (wlM g am pm m0 M_size m2 m3 m4 m5 m6 m7 m8 m9 m10 m11 m12 M_tape M_kind M_from M_means M_value m18 m19 m20 m21 ++ t) Q := by
  unfold f_M_cutIntoTokens at h
  refine r_iconst (v := (0 : Int32)) dX11_cutIntoTokens_0 (by decide) ?_
  refine r_istore_n [(1, .int (0 : Int32)), (0, .ref (am 0))] dX11_cutIntoTokens_1 (by decide) rfl ?_
  refine r_iconst (v := (0 : Int32)) dX11_cutIntoTokens_2 (by decide) ?_
  refine r_istore_n [(2, .int (0 : Int32)), (1, .int (0 : Int32)), (0, .ref (am 0))] dX11_cutIntoTokens_3 (by decide) rfl ?_
  refine r_ls [2, 1, 0] (ls2 := [(0, .ref (am 0)), (1, .int (0 : Int32)), (2, .int (0 : Int32))]) rfl ?_
  have L1 : ∀ (n1 : Nat) (l1_1 : Int32) (l2_1 : Int32) (M_kind_1 : Nat → Int32) (M_from_1 : Nat → Int32) (M_means_1 : Nat → Int32) (M_value_1 : Nat → Int64), (fun z9 => z9) (lpS (f_M_cutIntoTokens_L4 N M_size M_tape) none n1 (l1_1, l2_1, M_kind_1, M_from_1, M_means_1, M_value_1)) = some o → R g mX11_cutIntoTokens 8 0 0 4 [(0, .ref (am 0)), (1, .int l1_1), (2, .int l2_1)] [] (wlM g am pm m0 M_size m2 m3 m4 m5 m6 m7 m8 m9 m10 m11 m12 M_tape M_kind_1 M_from_1 M_means_1 M_value_1 m18 m19 m20 m21 ++ t) Q := by
    intro n1
    induction n1 with
    | zero => intro l1_1 l2_1 M_kind_1 M_from_1 M_means_1 M_value_1 h; exact nomatch (show (none : Option _) = some _ from h)
    | succ n1 ih1 =>
      intro l1_1 l2_1 M_kind_1 M_from_1 M_means_1 M_value_1 h
      have h : (fun z9 => (lC (f_M_cutIntoTokens_L4 N M_size M_tape) none n1 z9)) (f_M_cutIntoTokens_L4 N M_size M_tape (l1_1, l2_1, M_kind_1, M_from_1, M_means_1, M_value_1)) = some o := h
      unfold f_M_cutIntoTokens_L4 at h
      try dsimp only at h
      refine r_iload_n 2 dX11_cutIntoTokens_4 rfl ?_
      refine r_sipush (v := (400 : Int32)) dX11_cutIntoTokens_5 (by decide) ?_
      refine r_icmp_gt (tgt := 127) dX11_cutIntoTokens_8 (by decide) (fun hc1871 => ?_) (fun hc1871 => ?_)
      · have h := ip (fun z9 => (lC (f_M_cutIntoTokens_L4 N M_size M_tape) none n1 z9)) hc1871 h
        refine r_vret dX11_cutIntoTokens_127 rfl ?_
        have h := Option.some.inj (show some _ = some o from h)
        subst h
        exact hq
      · have h := iq (fun z9 => (lC (f_M_cutIntoTokens_L4 N M_size M_tape) none n1 z9)) hc1871 h
        refine r_ls [0, 1, 2] (ls2 := [(0, .ref (am 0)), (1, .int l1_1), (2, .int l2_1)]) rfl ?_
        have L2 : ∀ (n2 : Nat) (l1_2 : Int32), (fun z9 => (lC (f_M_cutIntoTokens_L4 N M_size M_tape) none n1 z9)) (lpS (f_M_cutIntoTokens_L11 N M_size M_tape l2_1 M_kind_1 M_from_1 M_means_1 M_value_1) (.inr none) n2 l1_2) = some o → R g mX11_cutIntoTokens 8 0 0 11 [(0, .ref (am 0)), (1, .int l1_2), (2, .int l2_1)] [] (wlM g am pm m0 M_size m2 m3 m4 m5 m6 m7 m8 m9 m10 m11 m12 M_tape M_kind_1 M_from_1 M_means_1 M_value_1 m18 m19 m20 m21 ++ t) Q := by
          intro n2
          induction n2 with
          | zero => intro l1_2 h; exact nomatch (show (none : Option _) = some _ from h)
          | succ n2 ih2 =>
            intro l1_2 h
            have h : (fun z9 => (lC (f_M_cutIntoTokens_L4 N M_size M_tape) none n1 (lC (f_M_cutIntoTokens_L11 N M_size M_tape l2_1 M_kind_1 M_from_1 M_means_1 M_value_1) (.inr none) n2 z9))) (f_M_cutIntoTokens_L11 N M_size M_tape l2_1 M_kind_1 M_from_1 M_means_1 M_value_1 l1_2) = some o := h
            unfold f_M_cutIntoTokens_L11 at h
            try dsimp only at h
            refine r_aload_n 0 dX11_cutIntoTokens_11 rfl ?_
            refine r_iload_n 1 dX11_cutIntoTokens_12 rfl ?_
            obtain ⟨r1872, hc1873, h⟩ := ob (fun z9 => (lC (f_M_cutIntoTokens_L4 N M_size M_tape) none n1 (lC (f_M_cutIntoTokens_L11 N M_size M_tape l2_1 M_kind_1 M_from_1 M_means_1 M_value_1) (.inr none) n2 z9))) rfl h
            refine c_V (rest := []) 0 0 _ dX11_cutIntoTokens_13 kv_X11_209 (ct_M_byteOf hc1873) rfl rfl lM_0 rfl (Nat.le_of_ble_eq_true rfl) (by decide) (by decide) ?_
            refine r_bipush (v := (32 : Int32)) dX11_cutIntoTokens_16 (by decide) ?_
            refine r_icmp_eq (tgt := 31) dX11_cutIntoTokens_18 (by decide) (fun hc1874 => ?_) (fun hc1874 => ?_)
            · have h := ip (fun z9 => (lC (f_M_cutIntoTokens_L4 N M_size M_tape) none n1 (lC (f_M_cutIntoTokens_L11 N M_size M_tape l2_1 M_kind_1 M_from_1 M_means_1 M_value_1) (.inr none) n2 z9))) hc1874 h
              refine r_iinc (v2 := (l1_2 + (1 : Int32))) 1 [(1, .int (l1_2 + (1 : Int32))), (0, .ref (am 0)), (2, .int l2_1)] dX11_cutIntoTokens_31 rfl rfl (by decide) rfl ?_
              refine r_goto (tgt := 11) dX11_cutIntoTokens_34 (by decide) ?_
              refine r_ls [1, 0, 2] (ls2 := [(0, .ref (am 0)), (1, .int (l1_2 + (1 : Int32))), (2, .int l2_1)]) rfl ?_
              exact ih2 (l1_2 + (1 : Int32)) h
            · have h := iq (fun z9 => (lC (f_M_cutIntoTokens_L4 N M_size M_tape) none n1 (lC (f_M_cutIntoTokens_L11 N M_size M_tape l2_1 M_kind_1 M_from_1 M_means_1 M_value_1) (.inr none) n2 z9))) hc1874 h
              refine r_aload_n 0 dX11_cutIntoTokens_21 rfl ?_
              refine r_iload_n 1 dX11_cutIntoTokens_22 rfl ?_
              obtain ⟨r1875, hc1876, h⟩ := ob (fun z9 => (lC (f_M_cutIntoTokens_L4 N M_size M_tape) none n1 (lC (f_M_cutIntoTokens_L11 N M_size M_tape l2_1 M_kind_1 M_from_1 M_means_1 M_value_1) (.inr none) n2 z9))) rfl h
              refine c_V (rest := []) 0 0 _ dX11_cutIntoTokens_23 kv_X11_209 (ct_M_byteOf hc1876) rfl rfl lM_0 rfl (Nat.le_of_ble_eq_true rfl) (by decide) (by decide) ?_
              refine r_bipush (v := (10 : Int32)) dX11_cutIntoTokens_26 (by decide) ?_
              refine r_icmp_ne (tgt := 37) dX11_cutIntoTokens_28 (by decide) (fun hc1877 => ?_) (fun hc1877 => ?_)
              · have h := iq (fun z9 => (lC (f_M_cutIntoTokens_L4 N M_size M_tape) none n1 (lC (f_M_cutIntoTokens_L11 N M_size M_tape l2_1 M_kind_1 M_from_1 M_means_1 M_value_1) (.inr none) n2 z9))) hc1877 h
                refine r_aload_n 0 dX11_cutIntoTokens_37 rfl ?_
                refine r_iload_n 1 dX11_cutIntoTokens_38 rfl ?_
                obtain ⟨r1878, hc1879, h⟩ := ob (fun z9 => (lC (f_M_cutIntoTokens_L4 N M_size M_tape) none n1 (lC (f_M_cutIntoTokens_L11 N M_size M_tape l2_1 M_kind_1 M_from_1 M_means_1 M_value_1) (.inr none) n2 z9))) rfl h
                refine c_V (rest := []) 0 0 _ dX11_cutIntoTokens_39 kv_X11_246 (ct_M_endOf hc1879) rfl rfl lM_0 rfl (Nat.le_of_ble_eq_true rfl) (by decide) (by decide) ?_
                refine r_istore_n [(3, .int r1878), (0, .ref (am 0)), (1, .int l1_2), (2, .int l2_1)] dX11_cutIntoTokens_42 (by decide) rfl ?_
                refine r_aload_n 1 dX11_cutIntoTokens_43 rfl ?_
                refine r_getf (v := .ref (am 3)) _ dX11_cutIntoTokens_44 fl_X11_27 lM_0 rfl ?_
                refine r_iload_n 3 dX11_cutIntoTokens_47 rfl ?_
                refine r_iload_n 2 dX11_cutIntoTokens_48 rfl ?_
                obtain ⟨hb1880, h⟩ := gd (fun z9 => (lC (f_M_cutIntoTokens_L4 N M_size M_tape) none n1 (lC (f_M_cutIntoTokens_L11 N M_size M_tape l2_1 M_kind_1 M_from_1 M_means_1 M_value_1) (.inr none) n2 z9))) rfl h
                refine r_iast _ dX11_cutIntoTokens_49 lM_3 hb1880 (sM_15 _) ?_
                refine r_aload_n 1 dX11_cutIntoTokens_50 rfl ?_
                refine r_getf (v := .ref (am 4)) _ dX11_cutIntoTokens_51 fl_X11_30 lM_0 rfl ?_
                refine r_iload_n 3 dX11_cutIntoTokens_54 rfl ?_
                refine r_iconst (v := (0 : Int32)) dX11_cutIntoTokens_55 (by decide) ?_
                obtain ⟨hb1881, h⟩ := gd (fun z9 => (lC (f_M_cutIntoTokens_L4 N M_size M_tape) none n1 (lC (f_M_cutIntoTokens_L11 N M_size M_tape l2_1 M_kind_1 M_from_1 M_means_1 M_value_1) (.inr none) n2 z9))) rfl h
                refine r_iast _ dX11_cutIntoTokens_56 lM_4 hb1881 (sM_16 _) ?_
                refine r_aload_n 1 dX11_cutIntoTokens_57 rfl ?_
                refine r_getf (v := .ref (am 2)) _ dX11_cutIntoTokens_58 fl_X11_24 lM_0 rfl ?_
                refine r_iload_n 3 dX11_cutIntoTokens_61 rfl ?_
                refine r_aload_n 1 dX11_cutIntoTokens_62 rfl ?_
                refine r_iload_n 3 dX11_cutIntoTokens_63 rfl ?_
                refine r_iload_n 2 dX11_cutIntoTokens_64 rfl ?_
                refine r_iload_n 0 dX11_cutIntoTokens_65 rfl ?_
                obtain ⟨r1882, hc1883, h⟩ := ob (fun z9 => (lC (f_M_cutIntoTokens_L4 N M_size M_tape) none n1 (lC (f_M_cutIntoTokens_L11 N M_size M_tape l2_1 M_kind_1 M_from_1 M_means_1 M_value_1) (.inr none) n2 z9))) rfl h
                refine c_V (rest := [.int l2_1, .ref (am 2)]) 0 0 _ dX11_cutIntoTokens_66 kv_X11_249 (ct_M_kindOf3 hc1883) rfl rfl lM_0 rfl (Nat.le_of_ble_eq_true rfl) (by decide) (by decide) ?_
                obtain ⟨hb1884, h⟩ := gd (fun z9 => (lC (f_M_cutIntoTokens_L4 N M_size M_tape) none n1 (lC (f_M_cutIntoTokens_L11 N M_size M_tape l2_1 M_kind_1 M_from_1 M_means_1 M_value_1) (.inr none) n2 z9))) rfl h
                refine r_iast _ dX11_cutIntoTokens_69 lM_2 hb1884 (sM_14 _) ?_
                refine r_iload_n 3 dX11_cutIntoTokens_70 rfl ?_
                refine r_sipush (v := (400 : Int32)) dX11_cutIntoTokens_71 (by decide) ?_
                refine r_icmp_ne (tgt := 96) dX11_cutIntoTokens_74 (by decide) (fun hc1885 => ?_) (fun hc1885 => ?_)
                · have h := iq (fun z9 => (lC (f_M_cutIntoTokens_L4 N M_size M_tape) none n1 (lC (f_M_cutIntoTokens_L11 N M_size M_tape l2_1 M_kind_1 M_from_1 M_means_1 M_value_1) (.inr none) n2 z9))) hc1885 h
                  refine r_aload_n 1 dX11_cutIntoTokens_96 rfl ?_
                  refine r_getf (v := .ref (am 2)) _ dX11_cutIntoTokens_97 fl_X11_24 lM_0 rfl ?_
                  refine r_iload_n 3 dX11_cutIntoTokens_100 rfl ?_
                  obtain ⟨hb1886, h⟩ := gd (fun z9 => (lC (f_M_cutIntoTokens_L4 N M_size M_tape) none n1 (lC (f_M_cutIntoTokens_L11 N M_size M_tape l2_1 M_kind_1 M_from_1 M_means_1 M_value_1) (.inr none) n2 z9))) rfl h
                  refine r_iald _ dX11_cutIntoTokens_101 lM_2 hb1886 ?_
                  refine r_bipush (v := (32 : Int32)) dX11_cutIntoTokens_102 (by decide) ?_
                  refine r_icmp_eq (tgt := 118) dX11_cutIntoTokens_104 (by decide) (fun hc1887 => ?_) (fun hc1887 => ?_)
                  · have h := ip (fun z9 => (lC (f_M_cutIntoTokens_L4 N M_size M_tape) none n1 (lC (f_M_cutIntoTokens_L11 N M_size M_tape l2_1 M_kind_1 M_from_1 M_means_1 M_value_1) (.inr none) n2 z9))) hc1887 h
                    refine r_vret dX11_cutIntoTokens_118 rfl ?_
                    have h := Option.some.inj (show some _ = some o from h)
                    subst h
                    exact hq
                  · have h := iq (fun z9 => (lC (f_M_cutIntoTokens_L4 N M_size M_tape) none n1 (lC (f_M_cutIntoTokens_L11 N M_size M_tape l2_1 M_kind_1 M_from_1 M_means_1 M_value_1) (.inr none) n2 z9))) hc1887 h
                    refine r_aload_n 1 dX11_cutIntoTokens_107 rfl ?_
                    refine r_getf (v := .ref (am 2)) _ dX11_cutIntoTokens_108 fl_X11_24 lM_0 rfl ?_
                    refine r_iload_n 3 dX11_cutIntoTokens_111 rfl ?_
                    obtain ⟨hb1888, h⟩ := gd (fun z9 => (lC (f_M_cutIntoTokens_L4 N M_size M_tape) none n1 (lC (f_M_cutIntoTokens_L11 N M_size M_tape l2_1 M_kind_1 M_from_1 M_means_1 M_value_1) (.inr none) n2 z9))) rfl h
                    refine r_iald _ dX11_cutIntoTokens_112 lM_2 hb1888 ?_
                    refine r_bipush (v := (33 : Int32)) dX11_cutIntoTokens_113 (by decide) ?_
                    refine r_icmp_ne (tgt := 119) dX11_cutIntoTokens_115 (by decide) (fun hc1889 => ?_) (fun hc1889 => ?_)
                    · have h := iq (fun z9 => (lC (f_M_cutIntoTokens_L4 N M_size M_tape) none n1 (lC (f_M_cutIntoTokens_L11 N M_size M_tape l2_1 M_kind_1 M_from_1 M_means_1 M_value_1) (.inr none) n2 z9))) hc1889 h
                      refine r_iload_n 0 dX11_cutIntoTokens_119 rfl ?_
                      refine r_istore_n [(1, .int r1878), (3, .int r1878), (0, .ref (am 0)), (2, .int l2_1)] dX11_cutIntoTokens_120 (by decide) rfl ?_
                      refine r_iinc (v2 := (l2_1 + (1 : Int32))) 3 [(2, .int (l2_1 + (1 : Int32))), (1, .int r1878), (3, .int r1878), (0, .ref (am 0))] dX11_cutIntoTokens_121 rfl rfl (by decide) rfl ?_
                      refine r_goto (tgt := 4) dX11_cutIntoTokens_124 (by decide) ?_
                      refine r_ls [3, 1, 0] (ls2 := [(0, .ref (am 0)), (1, .int r1878), (2, .int (l2_1 + (1 : Int32)))]) rfl ?_
                      exact ih1 r1878 (l2_1 + (1 : Int32)) (upd M_kind_1 l2_1.toNatClampNeg r1882.1) (upd M_from_1 l2_1.toNatClampNeg l1_2) (upd M_means_1 l2_1.toNatClampNeg (0 : Int32)) r1882.2 h
                    · have h := ip (fun z9 => (lC (f_M_cutIntoTokens_L4 N M_size M_tape) none n1 (lC (f_M_cutIntoTokens_L11 N M_size M_tape l2_1 M_kind_1 M_from_1 M_means_1 M_value_1) (.inr none) n2 z9))) hc1889 h
                      refine r_vret dX11_cutIntoTokens_118 rfl ?_
                      have h := Option.some.inj (show some _ = some o from h)
                      subst h
                      exact hq
                · have h := ip (fun z9 => (lC (f_M_cutIntoTokens_L4 N M_size M_tape) none n1 (lC (f_M_cutIntoTokens_L11 N M_size M_tape l2_1 M_kind_1 M_from_1 M_means_1 M_value_1) (.inr none) n2 z9))) hc1885 h
                  refine r_aload_n 1 dX11_cutIntoTokens_77 rfl ?_
                  refine r_getf (v := .ref (am 2)) _ dX11_cutIntoTokens_78 fl_X11_24 lM_0 rfl ?_
                  refine r_iload_n 3 dX11_cutIntoTokens_81 rfl ?_
                  obtain ⟨hb1890, h⟩ := gd (fun z9 => (lC (f_M_cutIntoTokens_L4 N M_size M_tape) none n1 (lC (f_M_cutIntoTokens_L11 N M_size M_tape l2_1 M_kind_1 M_from_1 M_means_1 M_value_1) (.inr none) n2 z9))) rfl h
                  refine r_iald _ dX11_cutIntoTokens_82 lM_2 hb1890 ?_
                  refine r_bipush (v := (33 : Int32)) dX11_cutIntoTokens_83 (by decide) ?_
                  refine r_icmp_eq (tgt := 96) dX11_cutIntoTokens_85 (by decide) (fun hc1891 => ?_) (fun hc1891 => ?_)
                  · have h := ip (fun z9 => (lC (f_M_cutIntoTokens_L4 N M_size M_tape) none n1 (lC (f_M_cutIntoTokens_L11 N M_size M_tape l2_1 M_kind_1 M_from_1 M_means_1 M_value_1) (.inr none) n2 z9))) hc1891 h
                    refine r_aload_n 1 dX11_cutIntoTokens_96 rfl ?_
                    refine r_getf (v := .ref (am 2)) _ dX11_cutIntoTokens_97 fl_X11_24 lM_0 rfl ?_
                    refine r_iload_n 3 dX11_cutIntoTokens_100 rfl ?_
                    obtain ⟨hb1892, h⟩ := gd (fun z9 => (lC (f_M_cutIntoTokens_L4 N M_size M_tape) none n1 (lC (f_M_cutIntoTokens_L11 N M_size M_tape l2_1 M_kind_1 M_from_1 M_means_1 M_value_1) (.inr none) n2 z9))) rfl h
                    refine r_iald _ dX11_cutIntoTokens_101 lM_2 hb1892 ?_
                    refine r_bipush (v := (32 : Int32)) dX11_cutIntoTokens_102 (by decide) ?_
                    refine r_icmp_eq (tgt := 118) dX11_cutIntoTokens_104 (by decide) (fun hc1893 => ?_) (fun hc1893 => ?_)
                    · have h := ip (fun z9 => (lC (f_M_cutIntoTokens_L4 N M_size M_tape) none n1 (lC (f_M_cutIntoTokens_L11 N M_size M_tape l2_1 M_kind_1 M_from_1 M_means_1 M_value_1) (.inr none) n2 z9))) hc1893 h
                      refine r_vret dX11_cutIntoTokens_118 rfl ?_
                      have h := Option.some.inj (show some _ = some o from h)
                      subst h
                      exact hq
                    · have h := iq (fun z9 => (lC (f_M_cutIntoTokens_L4 N M_size M_tape) none n1 (lC (f_M_cutIntoTokens_L11 N M_size M_tape l2_1 M_kind_1 M_from_1 M_means_1 M_value_1) (.inr none) n2 z9))) hc1893 h
                      refine r_aload_n 1 dX11_cutIntoTokens_107 rfl ?_
                      refine r_getf (v := .ref (am 2)) _ dX11_cutIntoTokens_108 fl_X11_24 lM_0 rfl ?_
                      refine r_iload_n 3 dX11_cutIntoTokens_111 rfl ?_
                      obtain ⟨hb1894, h⟩ := gd (fun z9 => (lC (f_M_cutIntoTokens_L4 N M_size M_tape) none n1 (lC (f_M_cutIntoTokens_L11 N M_size M_tape l2_1 M_kind_1 M_from_1 M_means_1 M_value_1) (.inr none) n2 z9))) rfl h
                      refine r_iald _ dX11_cutIntoTokens_112 lM_2 hb1894 ?_
                      refine r_bipush (v := (33 : Int32)) dX11_cutIntoTokens_113 (by decide) ?_
                      refine r_icmp_ne (tgt := 119) dX11_cutIntoTokens_115 (by decide) (fun hc1895 => ?_) (fun hc1895 => ?_)
                      · have h := iq (fun z9 => (lC (f_M_cutIntoTokens_L4 N M_size M_tape) none n1 (lC (f_M_cutIntoTokens_L11 N M_size M_tape l2_1 M_kind_1 M_from_1 M_means_1 M_value_1) (.inr none) n2 z9))) hc1895 h
                        refine r_iload_n 0 dX11_cutIntoTokens_119 rfl ?_
                        refine r_istore_n [(1, .int r1878), (3, .int r1878), (0, .ref (am 0)), (2, .int l2_1)] dX11_cutIntoTokens_120 (by decide) rfl ?_
                        refine r_iinc (v2 := (l2_1 + (1 : Int32))) 3 [(2, .int (l2_1 + (1 : Int32))), (1, .int r1878), (3, .int r1878), (0, .ref (am 0))] dX11_cutIntoTokens_121 rfl rfl (by decide) rfl ?_
                        refine r_goto (tgt := 4) dX11_cutIntoTokens_124 (by decide) ?_
                        refine r_ls [3, 1, 0] (ls2 := [(0, .ref (am 0)), (1, .int r1878), (2, .int (l2_1 + (1 : Int32)))]) rfl ?_
                        exact ih1 r1878 (l2_1 + (1 : Int32)) (upd M_kind_1 l2_1.toNatClampNeg r1882.1) (upd M_from_1 l2_1.toNatClampNeg l1_2) (upd M_means_1 l2_1.toNatClampNeg (0 : Int32)) r1882.2 h
                      · have h := ip (fun z9 => (lC (f_M_cutIntoTokens_L4 N M_size M_tape) none n1 (lC (f_M_cutIntoTokens_L11 N M_size M_tape l2_1 M_kind_1 M_from_1 M_means_1 M_value_1) (.inr none) n2 z9))) hc1895 h
                        refine r_vret dX11_cutIntoTokens_118 rfl ?_
                        have h := Option.some.inj (show some _ = some o from h)
                        subst h
                        exact hq
                  · have h := iq (fun z9 => (lC (f_M_cutIntoTokens_L4 N M_size M_tape) none n1 (lC (f_M_cutIntoTokens_L11 N M_size M_tape l2_1 M_kind_1 M_from_1 M_means_1 M_value_1) (.inr none) n2 z9))) hc1891 h
                    refine r_aload_n 1 dX11_cutIntoTokens_88 rfl ?_
                    refine r_getf (v := .ref (am 2)) _ dX11_cutIntoTokens_89 fl_X11_24 lM_0 rfl ?_
                    refine r_iload_n 3 dX11_cutIntoTokens_92 rfl ?_
                    refine r_bipush (v := (32 : Int32)) dX11_cutIntoTokens_93 (by decide) ?_
                    obtain ⟨hb1896, h⟩ := gd (fun z9 => (lC (f_M_cutIntoTokens_L4 N M_size M_tape) none n1 (lC (f_M_cutIntoTokens_L11 N M_size M_tape l2_1 M_kind_1 M_from_1 M_means_1 M_value_1) (.inr none) n2 z9))) rfl h
                    refine r_iast _ dX11_cutIntoTokens_95 lM_2 hb1896 (sM_14 _) ?_
                    refine r_aload_n 1 dX11_cutIntoTokens_96 rfl ?_
                    refine r_getf (v := .ref (am 2)) _ dX11_cutIntoTokens_97 fl_X11_24 lM_0 rfl ?_
                    refine r_iload_n 3 dX11_cutIntoTokens_100 rfl ?_
                    obtain ⟨hb1897, h⟩ := gd (fun z9 => (lC (f_M_cutIntoTokens_L4 N M_size M_tape) none n1 (lC (f_M_cutIntoTokens_L11 N M_size M_tape l2_1 M_kind_1 M_from_1 M_means_1 M_value_1) (.inr none) n2 z9))) rfl h
                    refine r_iald _ dX11_cutIntoTokens_101 lM_2 hb1897 ?_
                    refine r_bipush (v := (32 : Int32)) dX11_cutIntoTokens_102 (by decide) ?_
                    refine r_icmp_eq (tgt := 118) dX11_cutIntoTokens_104 (by decide) (fun hc1898 => ?_) (fun hc1898 => ?_)
                    · have h := ip (fun z9 => (lC (f_M_cutIntoTokens_L4 N M_size M_tape) none n1 (lC (f_M_cutIntoTokens_L11 N M_size M_tape l2_1 M_kind_1 M_from_1 M_means_1 M_value_1) (.inr none) n2 z9))) hc1898 h
                      refine r_vret dX11_cutIntoTokens_118 rfl ?_
                      have h := Option.some.inj (show some _ = some o from h)
                      subst h
                      exact hq
                    · have h := iq (fun z9 => (lC (f_M_cutIntoTokens_L4 N M_size M_tape) none n1 (lC (f_M_cutIntoTokens_L11 N M_size M_tape l2_1 M_kind_1 M_from_1 M_means_1 M_value_1) (.inr none) n2 z9))) hc1898 h
                      refine r_aload_n 1 dX11_cutIntoTokens_107 rfl ?_
                      refine r_getf (v := .ref (am 2)) _ dX11_cutIntoTokens_108 fl_X11_24 lM_0 rfl ?_
                      refine r_iload_n 3 dX11_cutIntoTokens_111 rfl ?_
                      obtain ⟨hb1899, h⟩ := gd (fun z9 => (lC (f_M_cutIntoTokens_L4 N M_size M_tape) none n1 (lC (f_M_cutIntoTokens_L11 N M_size M_tape l2_1 M_kind_1 M_from_1 M_means_1 M_value_1) (.inr none) n2 z9))) rfl h
                      refine r_iald _ dX11_cutIntoTokens_112 lM_2 hb1899 ?_
                      refine r_bipush (v := (33 : Int32)) dX11_cutIntoTokens_113 (by decide) ?_
                      refine r_icmp_ne (tgt := 119) dX11_cutIntoTokens_115 (by decide) (fun hc1900 => ?_) (fun hc1900 => ?_)
                      · have h := iq (fun z9 => (lC (f_M_cutIntoTokens_L4 N M_size M_tape) none n1 (lC (f_M_cutIntoTokens_L11 N M_size M_tape l2_1 M_kind_1 M_from_1 M_means_1 M_value_1) (.inr none) n2 z9))) hc1900 h
                        refine r_iload_n 0 dX11_cutIntoTokens_119 rfl ?_
                        refine r_istore_n [(1, .int r1878), (3, .int r1878), (0, .ref (am 0)), (2, .int l2_1)] dX11_cutIntoTokens_120 (by decide) rfl ?_
                        refine r_iinc (v2 := (l2_1 + (1 : Int32))) 3 [(2, .int (l2_1 + (1 : Int32))), (1, .int r1878), (3, .int r1878), (0, .ref (am 0))] dX11_cutIntoTokens_121 rfl rfl (by decide) rfl ?_
                        refine r_goto (tgt := 4) dX11_cutIntoTokens_124 (by decide) ?_
                        refine r_ls [3, 1, 0] (ls2 := [(0, .ref (am 0)), (1, .int r1878), (2, .int (l2_1 + (1 : Int32)))]) rfl ?_
                        exact ih1 r1878 (l2_1 + (1 : Int32)) (upd (upd M_kind_1 l2_1.toNatClampNeg r1882.1) l2_1.toNatClampNeg (32 : Int32)) (upd M_from_1 l2_1.toNatClampNeg l1_2) (upd M_means_1 l2_1.toNatClampNeg (0 : Int32)) r1882.2 h
                      · have h := ip (fun z9 => (lC (f_M_cutIntoTokens_L4 N M_size M_tape) none n1 (lC (f_M_cutIntoTokens_L11 N M_size M_tape l2_1 M_kind_1 M_from_1 M_means_1 M_value_1) (.inr none) n2 z9))) hc1900 h
                        refine r_vret dX11_cutIntoTokens_118 rfl ?_
                        have h := Option.some.inj (show some _ = some o from h)
                        subst h
                        exact hq
              · have h := ip (fun z9 => (lC (f_M_cutIntoTokens_L4 N M_size M_tape) none n1 (lC (f_M_cutIntoTokens_L11 N M_size M_tape l2_1 M_kind_1 M_from_1 M_means_1 M_value_1) (.inr none) n2 z9))) hc1877 h
                refine r_iinc (v2 := (l1_2 + (1 : Int32))) 1 [(1, .int (l1_2 + (1 : Int32))), (0, .ref (am 0)), (2, .int l2_1)] dX11_cutIntoTokens_31 rfl rfl (by decide) rfl ?_
                refine r_goto (tgt := 11) dX11_cutIntoTokens_34 (by decide) ?_
                refine r_ls [1, 0, 2] (ls2 := [(0, .ref (am 0)), (1, .int (l1_2 + (1 : Int32))), (2, .int l2_1)]) rfl ?_
                exact ih2 (l1_2 + (1 : Int32)) h
        exact L2 _ l1_1 h
  exact L1 _ (0 : Int32) (0 : Int32) M_kind M_from M_means M_value h
theorem ct_M_cutIntoTokens {g : GG} {am : Nat → Nat} {pm : Nat} {t : va_W} {m0 m2 m3 m4 m5 m6 m7 m8 m9 m10 m11 m12 : Int32} {m18 m19 m20 m21 : Nat → Int32} {N : Nat} {M_size : Int32} {M_tape : Nat → Int32} {M_kind : Nat → Int32} {M_from : Nat → Int32} {M_means : Nat → Int32} {M_value : Nat → Int64} {o : (Nat → Int32) × (Nat → Int32) × (Nat → Int32) × (Nat → Int64)} (h : f_M_cutIntoTokens N M_size M_tape M_kind M_from M_means M_value = some o) : Ct g mX11_cutIntoTokens 8 0 0 [.ref (am 0)] (wlM g am pm m0 M_size m2 m3 m4 m5 m6 m7 m8 m9 m10 m11 m12 M_tape M_kind M_from M_means M_value m18 m19 m20 m21 ++ t) (Dv (none) (wlM g am pm m0 M_size m2 m3 m4 m5 m6 m7 m8 m9 m10 m11 m12 M_tape o.1 o.2.1 o.2.2.1 o.2.2.2 m18 m19 m20 m21 ++ t)) := Ct.ofR (by decide +kernel) rfl (Nat.le_of_ble_eq_true rfl) (rt_M_cutIntoTokens h ⟨rfl, rfl⟩)
