/-! the model's teach -/
theorem pmQ {A B C D E t : va_W} (h : C.Perm B) (e : D = C) : (A ++ (D ++ (E ++ t))).Perm (B ++ (A ++ (E ++ t))) := by
  subst e
  have h1 : (A ++ (D ++ (E ++ t))).Perm (D ++ (A ++ (E ++ t))) := by
    have h2 := (List.perm_append_comm (l₁ := A) (l₂ := D)).append_right (E ++ t)
    rw [List.append_assoc, List.append_assoc] at h2
    exact h2
  exact h1.trans (h.append_right _)
theorem pmS (A B C t : va_W) : (A ++ (B ++ (C ++ t))).Perm (A ++ (C ++ (B ++ t))) := by
  have h2 := (List.perm_append_comm (l₁ := B) (l₂ := C)).append_right t
  rw [List.append_assoc, List.append_assoc] at h2
  exact List.Perm.append_left A h2
theorem kk_1526 : Cond.methodLink RX11 370 yX11_read ∈ gtbl := g_in (List.mem_of_getElem? (i := 1526) (by decide +kernel)) (by decide +kernel)
theorem kk_1529 : Cond.code yX11_read cX11_read 4 (some .int) ∈ gtbl := g_in (List.mem_of_getElem? (i := 1529) (by decide +kernel)) (by decide +kernel)
theorem kk_1528 : Cond.instanceMethod yX11_read ∈ gtbl := g_in (List.mem_of_getElem? (i := 1528) (by decide +kernel)) (by decide +kernel)
theorem kk_55 : Cond.selects RX11 yX11_read yX11_read ∈ gtbl := g_in (List.mem_of_getElem? (i := 55) (by decide +kernel)) (by decide +kernel)
theorem kv_X11_370 : KV RX11 370 mX11_read 1 := ⟨⟨kk_1526, kk_133, kk_1529, by decide +kernel⟩, rfl, kk_1528, kk_55⟩
abbrev mX11_teach : MT := (yX11_teach, cX11_teach, 3, (some .int), [])
abbrev Dp (v : Option Value) (W : (Nat → Nat) → va_W → va_W) (t : va_W) : Rs → va_W → Prop := fun r w => r = .inl v ∧ ∃ (b : Nat → Nat) (t2 : va_W), w = W b (t2 ++ t)
theorem Dp.no {v : Option Value} {W : (Nat → Nat) → va_W → va_W} {t : va_W} : ∀ E w, ¬ Dp v W t (.inr E) w := fun _ _ h => nomatch h.1
set_option maxRecDepth 20000 in
set_option maxHeartbeats 4000000 in
theorem ct_M_teach {g : GG} {am ap : Nat → Nat} {t : va_W} {m0 m1 m2 m3 m4 m5 m6 m7 m8 m9 m10 m11 m12 : Int32} {m13 m14 m15 m16 : Nat → Int32} {m17 : Nat → Int64} {m18 m19 m20 m21 : Nat → Int32} {u0 u1 u2 u3 u4 : Int32} {u5 u6 : Nat → Int64} {u7 u8 u9 u10 u11 u12 u13 u14 u15 u16 u17 u18 : Nat → Int32} {N : Nat} {o : Int32 × Int32 × Int32 × Int32 × Int32 × Int32 × Int32 × Int32 × Int32 × (Nat → Int32) × (Nat → Int32) × (Nat → Int32) × (Nat → Int64) × (Nat → Int32) × (Nat → Int32) × Int32 × Int32 × Int32 × Int32 × Int32 × (Nat → Int64) × (Nat → Int64) × (Nat → Int32) × (Nat → Int32) × (Nat → Int32) × (Nat → Int32) × (Nat → Int32) × (Nat → Int32) × (Nat → Int32) × (Nat → Int32) × (Nat → Int32) × (Nat → Int32) × (Nat → Int32) × (Nat → Int32)} (h : f_M_teach N m1 m3 m4 m5 m6 m7 m8 m9 m13 m14 m15 m16 m17 m18 m19 u0 u1 u2 u3 u4 u5 u6 u7 u8 u9 u10 u11 u12 u13 u14 u15 u16 u17 u18 = some o) : Ct g mX11_teach 74 15 2701 [.ref (am 0)] (wlM g am (ap 0) m0 m1 m2 m3 m4 m5 m6 m7 m8 m9 m10 m11 m12 m13 m14 m15 m16 m17 m18 m19 m20 m21 ++ (wlP g ap u0 u1 u2 u3 u4 u5 u6 u7 u8 u9 u10 u11 u12 u13 u14 u15 u16 u17 u18 ++ t)) (Dp (some (.int o.1)) (fun b t2 => wlM g am (b 0) (0 : Int32) (0 : Int32) (o.2.1) (o.2.2.1) (o.2.2.2.1) (o.2.2.2.2.1) (o.2.2.2.2.2.1) (o.2.2.2.2.2.2.1) (o.2.2.2.2.2.2.2.1) (o.2.2.2.2.2.2.2.2.1) m10 m11 m12 m13 (o.2.2.2.2.2.2.2.2.2.1) (o.2.2.2.2.2.2.2.2.2.2.1) (o.2.2.2.2.2.2.2.2.2.2.2.1) (o.2.2.2.2.2.2.2.2.2.2.2.2.1) (o.2.2.2.2.2.2.2.2.2.2.2.2.2.1) (o.2.2.2.2.2.2.2.2.2.2.2.2.2.2.1) m20 m21 ++ (wlP g b (o.2.2.2.2.2.2.2.2.2.2.2.2.2.2.2.1) (o.2.2.2.2.2.2.2.2.2.2.2.2.2.2.2.2.1) (o.2.2.2.2.2.2.2.2.2.2.2.2.2.2.2.2.2.1) (o.2.2.2.2.2.2.2.2.2.2.2.2.2.2.2.2.2.2.1) (o.2.2.2.2.2.2.2.2.2.2.2.2.2.2.2.2.2.2.2.1) (o.2.2.2.2.2.2.2.2.2.2.2.2.2.2.2.2.2.2.2.2.1) (o.2.2.2.2.2.2.2.2.2.2.2.2.2.2.2.2.2.2.2.2.2.1) (o.2.2.2.2.2.2.2.2.2.2.2.2.2.2.2.2.2.2.2.2.2.2.1) (o.2.2.2.2.2.2.2.2.2.2.2.2.2.2.2.2.2.2.2.2.2.2.2.1) (o.2.2.2.2.2.2.2.2.2.2.2.2.2.2.2.2.2.2.2.2.2.2.2.2.1) (o.2.2.2.2.2.2.2.2.2.2.2.2.2.2.2.2.2.2.2.2.2.2.2.2.2.1) (o.2.2.2.2.2.2.2.2.2.2.2.2.2.2.2.2.2.2.2.2.2.2.2.2.2.2.1) (o.2.2.2.2.2.2.2.2.2.2.2.2.2.2.2.2.2.2.2.2.2.2.2.2.2.2.2.1) (o.2.2.2.2.2.2.2.2.2.2.2.2.2.2.2.2.2.2.2.2.2.2.2.2.2.2.2.2.1) (o.2.2.2.2.2.2.2.2.2.2.2.2.2.2.2.2.2.2.2.2.2.2.2.2.2.2.2.2.2.1) (o.2.2.2.2.2.2.2.2.2.2.2.2.2.2.2.2.2.2.2.2.2.2.2.2.2.2.2.2.2.2.1) (o.2.2.2.2.2.2.2.2.2.2.2.2.2.2.2.2.2.2.2.2.2.2.2.2.2.2.2.2.2.2.2.1) (o.2.2.2.2.2.2.2.2.2.2.2.2.2.2.2.2.2.2.2.2.2.2.2.2.2.2.2.2.2.2.2.2.1) (o.2.2.2.2.2.2.2.2.2.2.2.2.2.2.2.2.2.2.2.2.2.2.2.2.2.2.2.2.2.2.2.2.2) ++ t2)) t) := by
  refine Ct.ofR (by decide +kernel) rfl (Nat.le_of_ble_eq_true rfl) ?_
  unfold f_M_teach at h
  refine r_aload_n 0 dX11_teach_0 rfl ?_
  refine r_iconst (v := (0 : Int32)) dX11_teach_1 (by decide) ?_
  refine r_putf _ dX11_teach_2 fl_X11_52 lM_0 (Nat.le_of_ble_eq_true rfl) rfl rfl (sM_0 _) ?_
  refine r_aload_n 0 dX11_teach_5 rfl ?_
  refine r_iconst (v := (-1 : Int32)) dX11_teach_6 (by decide) ?_
  refine r_putf _ dX11_teach_7 fl_X11_13 lM_0 (Nat.le_of_ble_eq_true rfl) rfl rfl (sM_2 _) ?_
  refine r_new (x := 14) (y := 2682) (N := 19) dX11_teach_10 nl_X11_17 (fun q1 => ?_)
  refine r_dup dX11_teach_13 rfl ?_
  refine r_callIN (x := 0) (y := 0) (a := 14) (b := 2682) (As := []) (rest := [.ref q1]) dX11_teach_14 kj_X11_19 (ct_P_init) Dn.no rfl rfl (Nat.le_of_ble_eq_true rfl) (Nat.le_of_ble_eq_true rfl) (Nat.le_of_ble_eq_true rfl) (fun v9 w9 h9 => ?_)
  obtain ⟨h9, f2, rfl⟩ := h9
  cases h9
  refine r_astore_n [(1, .ref q1), (0, .ref (am 0))] dX11_teach_17 (by decide) rfl ?_
  have hpm : (wlM g am (ap 0) (0 : Int32) m1 (-1 : Int32) m3 m4 m5 m6 m7 m8 m9 m10 m11 m12 m13 m14 m15 m16 m17 m18 m19 m20 m21 ++ (wlP g (fun k => [q1, (f2 0), (f2 1), (f2 2), (f2 3), (f2 4), (f2 5), (f2 6), (f2 7), (f2 8), (f2 9), (f2 10), (f2 11), (f2 12), (f2 13)].getD k 0) (0 : Int32) (0 : Int32) (0 : Int32) (0 : Int32) (0 : Int32) zvL zvL zvA zvA zvA zvA zvA zvA zvA zvA zvA zvA zvA zvA ++ (wlP g ap u0 u1 u2 u3 u4 u5 u6 u7 u8 u9 u10 u11 u12 u13 u14 u15 u16 u17 u18 ++ t))).Perm ([((f2 13), iA g 800 (fun _ => 0)), ((f2 12), iA g 800 (fun _ => 0)), ((f2 11), iA g 800 (fun _ => 0)), ((f2 10), iA g 16 (fun _ => 0)), ((f2 9), iA g 16 (fun _ => 0)), ((f2 8), iA g 16 (fun _ => 0)), ((f2 7), iA g 16 (fun _ => 0)), ((f2 6), iA g 40 (fun _ => 0)), ((f2 5), iA g 40 (fun _ => 0)), ((f2 4), iA g 40 (fun _ => 0)), ((f2 3), iA g 40 (fun _ => 0)), ((f2 2), iA g 40 (fun _ => 0)), ((f2 1), lA g 10 (fun _ => 0)), ((f2 0), lA g 8 (fun _ => 0)), (q1, .inr (10, [.int 0, .ref (f2 0), .int 0, .ref (f2 1), .int 0, .ref (f2 2), .ref (f2 3), .ref (f2 4), .ref (f2 5), .ref (f2 6), .int 0, .ref (f2 7), .ref (f2 8), .ref (f2 9), .ref (f2 10), .ref (f2 11), .ref (f2 12), .ref (f2 13), .int 0]))] ++ (wlM g am (ap 0) (0 : Int32) m1 (-1 : Int32) m3 m4 m5 m6 m7 m8 m9 m10 m11 m12 m13 m14 m15 m16 m17 m18 m19 m20 m21 ++ (wlP g ap u0 u1 u2 u3 u4 u5 u6 u7 u8 u9 u10 u11 u12 u13 u14 u15 u16 u17 u18 ++ t))) :=
    pmQ (List.reverse_perm [((f2 13), iA g 800 (fun _ => 0)), ((f2 12), iA g 800 (fun _ => 0)), ((f2 11), iA g 800 (fun _ => 0)), ((f2 10), iA g 16 (fun _ => 0)), ((f2 9), iA g 16 (fun _ => 0)), ((f2 8), iA g 16 (fun _ => 0)), ((f2 7), iA g 16 (fun _ => 0)), ((f2 6), iA g 40 (fun _ => 0)), ((f2 5), iA g 40 (fun _ => 0)), ((f2 4), iA g 40 (fun _ => 0)), ((f2 3), iA g 40 (fun _ => 0)), ((f2 2), iA g 40 (fun _ => 0)), ((f2 1), lA g 10 (fun _ => 0)), ((f2 0), lA g 8 (fun _ => 0)), (q1, .inr (10, [.int 0, .ref (f2 0), .int 0, .ref (f2 1), .int 0, .ref (f2 2), .ref (f2 3), .ref (f2 4), .ref (f2 5), .ref (f2 6), .int 0, .ref (f2 7), .ref (f2 8), .ref (f2 9), .ref (f2 10), .ref (f2 11), .ref (f2 12), .ref (f2 13), .int 0]))]) rfl
  refine r_perm (ws2 := wlM g am (ap 0) (0 : Int32) m1 (-1 : Int32) m3 m4 m5 m6 m7 m8 m9 m10 m11 m12 m13 m14 m15 m16 m17 m18 m19 m20 m21 ++ (wlP g (fun k => [q1, (f2 0), (f2 1), (f2 2), (f2 3), (f2 4), (f2 5), (f2 6), (f2 7), (f2 8), (f2 9), (f2 10), (f2 11), (f2 12), (f2 13)].getD k 0) (0 : Int32) (0 : Int32) (0 : Int32) (0 : Int32) (0 : Int32) zvL zvL zvA zvA zvA zvA zvA zvA zvA zvA zvA zvA zvA zvA ++ (wlP g ap u0 u1 u2 u3 u4 u5 u6 u7 u8 u9 u10 u11 u12 u13 u14 u15 u16 u17 u18 ++ t))) hpm ?_
  refine r_aload_n 1 dX11_teach_18 rfl ?_
  refine r_aload_n 0 dX11_teach_19 rfl ?_
  obtain ⟨r, hr, h⟩ := ob (fun z9 => z9) rfl h
  refine c_V (rest := []) 0 0 _ dX11_teach_20 kv_X11_370 (ct_M_read (ap := (fun k => [q1, (f2 0), (f2 1), (f2 2), (f2 3), (f2 4), (f2 5), (f2 6), (f2 7), (f2 8), (f2 9), (f2 10), (f2 11), (f2 12), (f2 13)].getD k 0)) hr) rfl rfl lM_0 rfl (Nat.le_of_ble_eq_true rfl) (by decide) (by decide) ?_
  refine r_istore_n [(2, .int r.1), (1, .ref q1), (0, .ref (am 0))] dX11_teach_23 (by decide) rfl ?_
  refine r_aload_n 2 dX11_teach_24 rfl ?_
  refine r_iconst (v := (0 : Int32)) dX11_teach_25 (by decide) ?_
  refine r_putf _ dX11_teach_26 fl_X11_206 lM_0 (Nat.le_of_ble_eq_true rfl) rfl rfl (sM_1 _) ?_
  refine r_iload_n 0 dX11_teach_29 rfl ?_
  refine r_if_le (tgt := 35) dX11_teach_30 (by decide) (fun hc => ?_) (fun hc => ?_)
  · have hc2 : ¬ (0 : Int32) < r.1 := Int32.not_lt.mpr hc
    have h := iq (fun z9 => z9) hc2 h
    refine r_aload_n 2 dX11_teach_35 rfl ?_
    refine r_aload_n 1 dX11_teach_36 rfl ?_
    refine r_putf _ dX11_teach_37 fl_X11_20 lM_0 (Nat.le_of_ble_eq_true rfl) rfl rfl (sM_pm _) ?_
    refine r_aload_n 2 dX11_teach_40 rfl ?_
    refine r_iconst (v := (0 : Int32)) dX11_teach_41 (by decide) ?_
    refine r_putf _ dX11_teach_42 fl_X11_85 lM_0 (Nat.le_of_ble_eq_true rfl) rfl rfl (sM_6 _) ?_
    refine r_aload_n 2 dX11_teach_45 rfl ?_
    refine r_iconst (v := (0 : Int32)) dX11_teach_46 (by decide) ?_
    refine r_putf _ dX11_teach_47 fl_X11_156 lM_0 (Nat.le_of_ble_eq_true rfl) rfl rfl (sM_7 _) ?_
    refine r_aload_n 2 dX11_teach_50 rfl ?_
    refine r_iconst (v := (0 : Int32)) dX11_teach_51 (by decide) ?_
    refine r_putf _ dX11_teach_52 fl_X11_141 lM_0 (Nat.le_of_ble_eq_true rfl) rfl rfl (sM_8 _) ?_
    refine r_aload_n 2 dX11_teach_55 rfl ?_
    obtain ⟨w, hw, h⟩ := ob (fun z9 => z9) rfl h
    refine c_Vv (rest := []) 0 0 _ dX11_teach_56 kv_X11_373 (ct_M_weave (ap := (fun k => [q1, (f2 0), (f2 1), (f2 2), (f2 3), (f2 4), (f2 5), (f2 6), (f2 7), (f2 8), (f2 9), (f2 10), (f2 11), (f2 12), (f2 13)].getD k 0)) hw) rfl rfl lM_0 rfl (Nat.le_of_ble_eq_true rfl) (by decide) (by decide) ?_
    refine r_iconst (v := (0 : Int32)) dX11_teach_59 (by decide) ?_
    have h := Option.some.inj (show some _ = some o from h)
    subst h
    exact r_iret dX11_teach_60 rfl ⟨rfl, (fun k => [q1, (f2 0), (f2 1), (f2 2), (f2 3), (f2 4), (f2 5), (f2 6), (f2 7), (f2 8), (f2 9), (f2 10), (f2 11), (f2 12), (f2 13)].getD k 0), wlP g ap u0 u1 u2 u3 u4 u5 u6 u7 u8 u9 u10 u11 u12 u13 u14 u15 u16 u17 u18, by simp only [List.append_assoc]⟩
  · have hc2 : (0 : Int32) < r.1 := Int32.not_le.mp hc
    have h := ip (fun z9 => z9) hc2 h
    refine r_iload_n 0 dX11_teach_33 rfl ?_
    have h := Option.some.inj (show some _ = some o from h)
    subst h
    refine r_perm (ws2 := wlM g am (ap 0) (0 : Int32) (0 : Int32) (r.2.1) (r.2.2.1) (r.2.2.2.1) (r.2.2.2.2.1) m6 m7 m8 m9 m10 m11 m12 m13 (r.2.2.2.2.2.1) (r.2.2.2.2.2.2.1) (r.2.2.2.2.2.2.2.1) (r.2.2.2.2.2.2.2.2.1) (r.2.2.2.2.2.2.2.2.2.1) m19 m20 m21 ++ (wlP g ap u0 u1 u2 u3 u4 u5 u6 u7 u8 u9 u10 u11 u12 u13 u14 u15 u16 u17 u18 ++ (wlP g (fun k => [q1, (f2 0), (f2 1), (f2 2), (f2 3), (f2 4), (f2 5), (f2 6), (f2 7), (f2 8), (f2 9), (f2 10), (f2 11), (f2 12), (f2 13)].getD k 0) (r.2.2.2.2.2.2.2.2.2.2.1) (r.2.2.2.2.2.2.2.2.2.2.2.1) (r.2.2.2.2.2.2.2.2.2.2.2.2.1) (r.2.2.2.2.2.2.2.2.2.2.2.2.2.1) (r.2.2.2.2.2.2.2.2.2.2.2.2.2.2.1) (r.2.2.2.2.2.2.2.2.2.2.2.2.2.2.2.1) (r.2.2.2.2.2.2.2.2.2.2.2.2.2.2.2.2.1) (r.2.2.2.2.2.2.2.2.2.2.2.2.2.2.2.2.2.1) (r.2.2.2.2.2.2.2.2.2.2.2.2.2.2.2.2.2.2.1) (r.2.2.2.2.2.2.2.2.2.2.2.2.2.2.2.2.2.2.2.1) (r.2.2.2.2.2.2.2.2.2.2.2.2.2.2.2.2.2.2.2.2.1) (r.2.2.2.2.2.2.2.2.2.2.2.2.2.2.2.2.2.2.2.2.2.1) (r.2.2.2.2.2.2.2.2.2.2.2.2.2.2.2.2.2.2.2.2.2.2.1) (r.2.2.2.2.2.2.2.2.2.2.2.2.2.2.2.2.2.2.2.2.2.2.2.1) (r.2.2.2.2.2.2.2.2.2.2.2.2.2.2.2.2.2.2.2.2.2.2.2.2.1) (r.2.2.2.2.2.2.2.2.2.2.2.2.2.2.2.2.2.2.2.2.2.2.2.2.2.1) (r.2.2.2.2.2.2.2.2.2.2.2.2.2.2.2.2.2.2.2.2.2.2.2.2.2.2.1) (r.2.2.2.2.2.2.2.2.2.2.2.2.2.2.2.2.2.2.2.2.2.2.2.2.2.2.2.1) (r.2.2.2.2.2.2.2.2.2.2.2.2.2.2.2.2.2.2.2.2.2.2.2.2.2.2.2.2) ++ t))) (pmS _ _ _ _) ?_
    exact r_iret dX11_teach_34 rfl ⟨rfl, ap, wlP g (fun k => [q1, (f2 0), (f2 1), (f2 2), (f2 3), (f2 4), (f2 5), (f2 6), (f2 7), (f2 8), (f2 9), (f2 10), (f2 11), (f2 12), (f2 13)].getD k 0) (r.2.2.2.2.2.2.2.2.2.2.1) (r.2.2.2.2.2.2.2.2.2.2.2.1) (r.2.2.2.2.2.2.2.2.2.2.2.2.1) (r.2.2.2.2.2.2.2.2.2.2.2.2.2.1) (r.2.2.2.2.2.2.2.2.2.2.2.2.2.2.1) (r.2.2.2.2.2.2.2.2.2.2.2.2.2.2.2.1) (r.2.2.2.2.2.2.2.2.2.2.2.2.2.2.2.2.1) (r.2.2.2.2.2.2.2.2.2.2.2.2.2.2.2.2.2.1) (r.2.2.2.2.2.2.2.2.2.2.2.2.2.2.2.2.2.2.1) (r.2.2.2.2.2.2.2.2.2.2.2.2.2.2.2.2.2.2.2.1) (r.2.2.2.2.2.2.2.2.2.2.2.2.2.2.2.2.2.2.2.2.1) (r.2.2.2.2.2.2.2.2.2.2.2.2.2.2.2.2.2.2.2.2.2.1) (r.2.2.2.2.2.2.2.2.2.2.2.2.2.2.2.2.2.2.2.2.2.2.1) (r.2.2.2.2.2.2.2.2.2.2.2.2.2.2.2.2.2.2.2.2.2.2.2.1) (r.2.2.2.2.2.2.2.2.2.2.2.2.2.2.2.2.2.2.2.2.2.2.2.2.1) (r.2.2.2.2.2.2.2.2.2.2.2.2.2.2.2.2.2.2.2.2.2.2.2.2.2.1) (r.2.2.2.2.2.2.2.2.2.2.2.2.2.2.2.2.2.2.2.2.2.2.2.2.2.2.1) (r.2.2.2.2.2.2.2.2.2.2.2.2.2.2.2.2.2.2.2.2.2.2.2.2.2.2.2.1) (r.2.2.2.2.2.2.2.2.2.2.2.2.2.2.2.2.2.2.2.2.2.2.2.2.2.2.2.2), by simp only [List.append_assoc]⟩
