set_option maxRecDepth 20000 in
set_option maxHeartbeats 4000000 in
theorem rt_M_read {g : GG} {am : Nat → Nat} {ap : Nat → Nat} {pm : Nat} {t : va_W} {m0 m6 m7 m8 m9 m10 m11 m12 : Int32} {m19 m20 m21 : Nat → Int32} {N : Nat} {M_size : Int32} {M_errorAt : Int32} {M_token : Int32} {M_depth : Int32} {M_ordersRead : Int32} {M_tape : Nat → Int32} {M_kind : Nat → Int32} {M_from : Nat → Int32} {M_means : Nat → Int32} {M_value : Nat → Int64} {M_who : Nat → Int32} {P_events : Int32} {P_tellers : Int32} {P_claims : Int32} {P_orders : Int32} {P_many : Int32} {P_event : Nat → Int64} {P_teller : Nat → Int64} {P_kind : Nat → Int32} {P_by : Nat → Int32} {P_of : Nat → Int32} {P_other : Nat → Int32} {P_last : Nat → Int32} {P_does : Nat → Int32} {P_whom : Nat → Int32} {P_begins : Nat → Int32} {P_ends : Nat → Int32} {P_order : Nat → Int32} {P_with : Nat → Int32} {P_also : Nat → Int32} {o : Int32 × Int32 × Int32 × Int32 × Int32 × (Nat → Int32) × (Nat → Int32) × (Nat → Int32) × (Nat → Int64) × (Nat → Int32) × Int32 × Int32 × Int32 × Int32 × Int32 × (Nat → Int64) × (Nat → Int64) × (Nat → Int32) × (Nat → Int32) × (Nat → Int32) × (Nat → Int32) × (Nat → Int32) × (Nat → Int32) × (Nat → Int32) × (Nat → Int32) × (Nat → Int32) × (Nat → Int32) × (Nat → Int32) × (Nat → Int32)} {Q : Rs → va_W → Prop} (h : f_M_read N M_size M_errorAt M_token M_depth M_ordersRead M_tape M_kind M_from M_means M_value M_who P_events P_tellers P_claims P_orders P_many P_event P_teller P_kind P_by P_of P_other P_last P_does P_whom P_begins P_ends P_order P_with P_also = some o) (hq : Q (.inl (some (.int o.1))) (wlM g am pm m0 M_size o.2.1 o.2.2.1 o.2.2.2.1 o.2.2.2.2.1 m6 m7 m8 m9 m10 m11 m12 M_tape o.2.2.2.2.2.1 o.2.2.2.2.2.2.1 o.2.2.2.2.2.2.2.1 o.2.2.2.2.2.2.2.2.1 o.2.2.2.2.2.2.2.2.2.1 m19 m20 m21 ++ (wlP g ap o.2.2.2.2.2.2.2.2.2.2.1 o.2.2.2.2.2.2.2.2.2.2.2.1 o.2.2.2.2.2.2.2.2.2.2.2.2.1 o.2.2.2.2.2.2.2.2.2.2.2.2.2.1 o.2.2.2.2.2.2.2.2.2.2.2.2.2.2.1 o.2.2.2.2.2.2.2.2.2.2.2.2.2.2.2.1 o.2.2.2.2.2.2.2.2.2.2.2.2.2.2.2.2.1 o.2.2.2.2.2.2.2.2.2.2.2.2.2.2.2.2.2.1 o.2.2.2.2.2.2.2.2.2.2.2.2.2.2.2.2.2.2.1 o.2.2.2.2.2.2.2.2.2.2.2.2.2.2.2.2.2.2.2.1 o.2.2.2.2.2.2.2.2.2.2.2.2.2.2.2.2.2.2.2.2.1 o.2.2.2.2.2.2.2.2.2.2.2.2.2.2.2.2.2.2.2.2.2.1 o.2.2.2.2.2.2.2.2.2.2.2.2.2.2.2.2.2.2.2.2.2.2.1 o.2.2.2.2.2.2.2.2.2.2.2.2.2.2.2.2.2.2.2.2.2.2.2.1 o.2.2.2.2.2.2.2.2.2.2.2.2.2.2.2.2.2.2.2.2.2.2.2.2.1 o.2.2.2.2.2.2.2.2.2.2.2.2.2.2.2.2.2.2.2.2.2.2.2.2.2.1 o.2.2.2.2.2.2.2.2.2.2.2.2.2.2.2.2.2.2.2.2.2.2.2.2.2.2.1 o.2.2.2.2.2.2.2.2.2.2.2.2.2.2.2.2.2.2.2.2.2.2.2.2.2.2.2.1 o.2.2.2.2.2.2.2.2.2.2.2.2.2.2.2.2.2.2.2.2.2.2.2.2.2.2.2.2 ++ t))) : R g mX11_read 73 0 0 0 [(0, .ref (am 0)), (1, .ref (ap 0))] [] (wlM g am pm m0 M_size M_errorAt M_token M_depth M_ordersRead m6 m7 m8 m9 m10 m11 m12 M_tape M_kind M_from M_means M_value M_who m19 m20 m21 ++ (wlP g ap P_events P_tellers P_claims P_orders P_many P_event P_teller P_kind P_by P_of P_other P_last P_does P_whom P_begins P_ends P_order P_with P_also ++ t)) Q := by
  unfold f_M_read at h
  refine r_aload_n 0 dX11_read_0 rfl ?_
  obtain ⟨r2151, hc2152, h⟩ := ob (fun z9 => z9) rfl h
  refine c_Vv (rest := []) 0 0 _ dX11_read_1 kv_X11_354 (ct_M_cutIntoTokens hc2152) rfl rfl lM_0 rfl (Nat.le_of_ble_eq_true rfl) (by decide) (by decide) ?_
  refine r_aload_n 0 dX11_read_4 rfl ?_
  refine r_iconst (v := (0 : Int32)) dX11_read_5 (by decide) ?_
  refine r_putf _ dX11_read_6 fl_X11_252 lM_0 (Nat.le_of_ble_eq_true rfl) rfl rfl (sM_3 _) ?_
  refine r_aload_n 0 dX11_read_9 rfl ?_
  refine r_iconst (v := (0 : Int32)) dX11_read_10 (by decide) ?_
  refine r_putf _ dX11_read_11 fl_X11_258 lM_0 (Nat.le_of_ble_eq_true rfl) rfl rfl (sM_4 _) ?_
  refine r_aload_n 0 dX11_read_14 rfl ?_
  refine r_iconst (v := (0 : Int32)) dX11_read_15 (by decide) ?_
  refine r_putf _ dX11_read_16 fl_X11_307 lM_0 (Nat.le_of_ble_eq_true rfl) rfl rfl (sM_5 _) ?_
  refine r_aload_n 0 dX11_read_19 rfl ?_
  refine r_aload_n 1 dX11_read_20 rfl ?_
  obtain ⟨r2153, hc2154, h⟩ := ob (fun z9 => z9) rfl h
  refine c_V (rest := []) 0 0 _ dX11_read_21 kv_X11_357 (ct_M_isBook hc2154) rfl rfl lM_0 rfl (Nat.le_of_ble_eq_true rfl) (by decide) (by decide) ?_
  refine r_if_ne (tgt := 42) dX11_read_24 (by decide) (fun hc2155 => ?_) (fun hc2155 => ?_)
  · have h := iq (fun z9 => z9) hc2155 h
    refine r_iconst (v := (0 : Int32)) dX11_read_42 (by decide) ?_
    refine r_istore_n [(2, .int (0 : Int32)), (0, .ref (am 0)), (1, .ref (ap 0))] dX11_read_43 (by decide) rfl ?_
    refine r_ls [1, 2, 0] (ls2 := [(0, .ref (am 0)), (1, .ref (ap 0)), (2, .int (0 : Int32))]) rfl ?_
    have L1 : ∀ (n1 : Nat) (M_token_c1 : Int32) (M_depth_c1 : Int32) (M_ordersRead_c1 : Int32) (M_kind_c1 : Nat → Int32) (M_from_c1 : Nat → Int32) (M_means_c1 : Nat → Int32) (M_value_c1 : Nat → Int64) (P_many_c1 : Int32) (P_does_c1 : Nat → Int32) (P_begins_c1 : Nat → Int32) (P_ends_c1 : Nat → Int32) (P_order_c1 : Nat → Int32) (P_with_c1 : Nat → Int32) (P_also_c1 : Nat → Int32) (l2_1 : Int32) (M_who_1 : Nat → Int32) (P_events_1 : Int32) (P_tellers_1 : Int32) (P_claims_1 : Int32) (P_orders_1 : Int32) (P_event_1 : Nat → Int64) (P_teller_1 : Nat → Int64) (P_kind_1 : Nat → Int32) (P_by_1 : Nat → Int32) (P_of_1 : Nat → Int32) (P_other_1 : Nat → Int32) (P_last_1 : Nat → Int32) (P_whom_1 : Nat → Int32), (fun z9 => z9) (lpS (f_M_read_L44 N M_errorAt M_token_c1 M_depth_c1 M_ordersRead_c1 M_kind_c1 M_from_c1 M_means_c1 M_value_c1 P_many_c1 P_does_c1 P_begins_c1 P_ends_c1 P_order_c1 P_with_c1 P_also_c1) none n1 (l2_1, M_who_1, P_events_1, P_tellers_1, P_claims_1, P_orders_1, P_event_1, P_teller_1, P_kind_1, P_by_1, P_of_1, P_other_1, P_last_1, P_whom_1)) = some o → R g mX11_read 73 0 0 44 [(0, .ref (am 0)), (1, .ref (ap 0)), (2, .int l2_1)] [] (wlM g am pm m0 M_size M_errorAt M_token_c1 M_depth_c1 M_ordersRead_c1 m6 m7 m8 m9 m10 m11 m12 M_tape M_kind_c1 M_from_c1 M_means_c1 M_value_c1 M_who_1 m19 m20 m21 ++ (wlP g ap P_events_1 P_tellers_1 P_claims_1 P_orders_1 P_many_c1 P_event_1 P_teller_1 P_kind_1 P_by_1 P_of_1 P_other_1 P_last_1 P_does_c1 P_whom_1 P_begins_c1 P_ends_c1 P_order_c1 P_with_c1 P_also_c1 ++ t)) Q := by
      intro n1
      induction n1 with
      | zero => intro M_token_c1 M_depth_c1 M_ordersRead_c1 M_kind_c1 M_from_c1 M_means_c1 M_value_c1 P_many_c1 P_does_c1 P_begins_c1 P_ends_c1 P_order_c1 P_with_c1 P_also_c1 l2_1 M_who_1 P_events_1 P_tellers_1 P_claims_1 P_orders_1 P_event_1 P_teller_1 P_kind_1 P_by_1 P_of_1 P_other_1 P_last_1 P_whom_1 h; exact nomatch (show (none : Option _) = some _ from h)
      | succ n1 ih1 =>
        intro M_token_c1 M_depth_c1 M_ordersRead_c1 M_kind_c1 M_from_c1 M_means_c1 M_value_c1 P_many_c1 P_does_c1 P_begins_c1 P_ends_c1 P_order_c1 P_with_c1 P_also_c1 l2_1 M_who_1 P_events_1 P_tellers_1 P_claims_1 P_orders_1 P_event_1 P_teller_1 P_kind_1 P_by_1 P_of_1 P_other_1 P_last_1 P_whom_1 h
        have h : (fun z9 => (lC (f_M_read_L44 N M_errorAt M_token_c1 M_depth_c1 M_ordersRead_c1 M_kind_c1 M_from_c1 M_means_c1 M_value_c1 P_many_c1 P_does_c1 P_begins_c1 P_ends_c1 P_order_c1 P_with_c1 P_also_c1) none n1 z9)) (f_M_read_L44 N M_errorAt M_token_c1 M_depth_c1 M_ordersRead_c1 M_kind_c1 M_from_c1 M_means_c1 M_value_c1 P_many_c1 P_does_c1 P_begins_c1 P_ends_c1 P_order_c1 P_with_c1 P_also_c1 (l2_1, M_who_1, P_events_1, P_tellers_1, P_claims_1, P_orders_1, P_event_1, P_teller_1, P_kind_1, P_by_1, P_of_1, P_other_1, P_last_1, P_whom_1)) = some o := h
        unfold f_M_read_L44 at h
        try dsimp only at h
        refine r_iload_n 2 dX11_read_44 rfl ?_
        refine r_aload_n 0 dX11_read_45 rfl ?_
        refine r_getf (v := .int M_token_c1) _ dX11_read_46 fl_X11_252 lM_0 rfl ?_
        refine r_icmp_ge (tgt := 84) dX11_read_49 (by decide) (fun hc2156 => ?_) (fun hc2156 => ?_)
        · have h := ip (fun z9 => (lC (f_M_read_L44 N M_errorAt M_token_c1 M_depth_c1 M_ordersRead_c1 M_kind_c1 M_from_c1 M_means_c1 M_value_c1 P_many_c1 P_does_c1 P_begins_c1 P_ends_c1 P_order_c1 P_with_c1 P_also_c1) none n1 z9)) hc2156 h
          refine r_aload_n 0 dX11_read_84 rfl ?_
          refine r_aload_n 1 dX11_read_85 rfl ?_
          obtain ⟨r2157, hc2158, h⟩ := ob (fun z9 => (lC (f_M_read_L44 N M_errorAt M_token_c1 M_depth_c1 M_ordersRead_c1 M_kind_c1 M_from_c1 M_means_c1 M_value_c1 P_many_c1 P_does_c1 P_begins_c1 P_ends_c1 P_order_c1 P_with_c1 P_also_c1) none n1 z9)) rfl h
          refine c_Vv (rest := []) 0 0 _ dX11_read_86 kv_X11_363 (ct_M_settle hc2158) rfl rfl lM_0 rfl (Nat.le_of_ble_eq_true rfl) (by decide) (by decide) ?_
          refine r_iconst (v := (0 : Int32)) dX11_read_89 (by decide) ?_
          refine r_iret dX11_read_90 rfl ?_
          have h := Option.some.inj (show some _ = some o from h)
          subst h
          exact hq
        · have h := iq (fun z9 => (lC (f_M_read_L44 N M_errorAt M_token_c1 M_depth_c1 M_ordersRead_c1 M_kind_c1 M_from_c1 M_means_c1 M_value_c1 P_many_c1 P_does_c1 P_begins_c1 P_ends_c1 P_order_c1 P_with_c1 P_also_c1) none n1 z9)) hc2156 h
          refine r_aload_n 0 dX11_read_52 rfl ?_
          refine r_aload_n 1 dX11_read_53 rfl ?_
          refine r_iload_n 2 dX11_read_54 rfl ?_
          obtain ⟨r2159, hc2160, h⟩ := ob (fun z9 => (lC (f_M_read_L44 N M_errorAt M_token_c1 M_depth_c1 M_ordersRead_c1 M_kind_c1 M_from_c1 M_means_c1 M_value_c1 P_many_c1 P_does_c1 P_begins_c1 P_ends_c1 P_order_c1 P_with_c1 P_also_c1) none n1 z9)) rfl h
          refine c_V (rest := []) 0 0 _ dX11_read_55 kv_X11_360 (ct_M_errorOf hc2160) rfl rfl lM_0 rfl (Nat.le_of_ble_eq_true rfl) (by decide) (by decide) ?_
          refine r_istore_n [(3, .int r2159.1), (0, .ref (am 0)), (1, .ref (ap 0)), (2, .int l2_1)] dX11_read_58 (by decide) rfl ?_
          refine r_iload_n 0 dX11_read_59 rfl ?_
          refine r_if_ne (tgt := 66) dX11_read_60 (by decide) (fun hc2161 => ?_) (fun hc2161 => ?_)
          · have h := iq (fun z9 => (lC (f_M_read_L44 N M_errorAt M_token_c1 M_depth_c1 M_ordersRead_c1 M_kind_c1 M_from_c1 M_means_c1 M_value_c1 P_many_c1 P_does_c1 P_begins_c1 P_ends_c1 P_order_c1 P_with_c1 P_also_c1) none n1 z9)) hc2161 h
            refine r_aload_n 1 dX11_read_66 rfl ?_
            refine r_aload_n 1 dX11_read_67 rfl ?_
            refine r_getf (v := .ref (am 3)) _ dX11_read_68 fl_X11_27 lM_0 rfl ?_
            refine r_iload_n 3 dX11_read_71 rfl ?_
            obtain ⟨hb2162, h⟩ := gd (fun z9 => (lC (f_M_read_L44 N M_errorAt M_token_c1 M_depth_c1 M_ordersRead_c1 M_kind_c1 M_from_c1 M_means_c1 M_value_c1 P_many_c1 P_does_c1 P_begins_c1 P_ends_c1 P_order_c1 P_with_c1 P_also_c1) none n1 z9)) rfl h
            refine r_iald _ dX11_read_72 lM_3 hb2162 ?_
            refine r_putf _ dX11_read_73 fl_X11_13 lM_0 (Nat.le_of_ble_eq_true rfl) rfl rfl (sM_2 _) ?_
            refine r_iload_n 0 dX11_read_76 rfl ?_
            refine r_iret dX11_read_77 rfl ?_
            have h := Option.some.inj (show some _ = some o from h)
            subst h
            exact hq
          · have h := ip (fun z9 => (lC (f_M_read_L44 N M_errorAt M_token_c1 M_depth_c1 M_ordersRead_c1 M_kind_c1 M_from_c1 M_means_c1 M_value_c1 P_many_c1 P_does_c1 P_begins_c1 P_ends_c1 P_order_c1 P_with_c1 P_also_c1) none n1 z9)) hc2161 h
            refine r_goto (tgt := 78) dX11_read_63 (by decide) ?_
            refine r_iinc (v2 := (l2_1 + (1 : Int32))) 3 [(2, .int (l2_1 + (1 : Int32))), (3, .int r2159.1), (0, .ref (am 0)), (1, .ref (ap 0))] dX11_read_78 rfl rfl (by decide) rfl ?_
            refine r_goto (tgt := 44) dX11_read_81 (by decide) ?_
            refine r_ls [2, 3, 0] (ls2 := [(0, .ref (am 0)), (1, .ref (ap 0)), (2, .int (l2_1 + (1 : Int32)))]) rfl ?_
            exact ih1 M_token_c1 M_depth_c1 M_ordersRead_c1 M_kind_c1 M_from_c1 M_means_c1 M_value_c1 P_many_c1 P_does_c1 P_begins_c1 P_ends_c1 P_order_c1 P_with_c1 P_also_c1 (l2_1 + (1 : Int32)) r2159.2.1 r2159.2.2.1 r2159.2.2.2.1 r2159.2.2.2.2.1 r2159.2.2.2.2.2.1 r2159.2.2.2.2.2.2.1 r2159.2.2.2.2.2.2.2.1 r2159.2.2.2.2.2.2.2.2.1 r2159.2.2.2.2.2.2.2.2.2.1 r2159.2.2.2.2.2.2.2.2.2.2.1 r2159.2.2.2.2.2.2.2.2.2.2.2.1 r2159.2.2.2.2.2.2.2.2.2.2.2.2.1 r2159.2.2.2.2.2.2.2.2.2.2.2.2.2 h
    exact L1 _ r2153.2.1 r2153.2.2.1 r2153.2.2.2.1 r2151.1 r2151.2.1 r2153.2.2.2.2.1 r2151.2.2.2 r2153.2.2.2.2.2.1 r2153.2.2.2.2.2.2.1 r2153.2.2.2.2.2.2.2.1 r2153.2.2.2.2.2.2.2.2.1 r2153.2.2.2.2.2.2.2.2.2.1 r2153.2.2.2.2.2.2.2.2.2.2.1 r2153.2.2.2.2.2.2.2.2.2.2.2 (0 : Int32) M_who P_events P_tellers P_claims P_orders P_event P_teller P_kind P_by P_of P_other P_last P_whom h
  · have h := ip (fun z9 => z9) hc2155 h
    refine r_aload_n 0 dX11_read_27 rfl ?_
    refine r_aload_n 0 dX11_read_28 rfl ?_
    refine r_getf (v := .ref (am 3)) _ dX11_read_29 fl_X11_27 lM_0 rfl ?_
    refine r_aload_n 0 dX11_read_32 rfl ?_
    refine r_getf (v := .int r2153.2.1) _ dX11_read_33 fl_X11_252 lM_0 rfl ?_
    obtain ⟨hb2163, h⟩ := gd (fun z9 => z9) rfl h
    refine r_iald _ dX11_read_36 lM_3 hb2163 ?_
    refine r_putf _ dX11_read_37 fl_X11_13 lM_0 (Nat.le_of_ble_eq_true rfl) rfl rfl (sM_2 _) ?_
    refine r_iconst (v := (1 : Int32)) dX11_read_40 (by decide) ?_
    refine r_iret dX11_read_41 rfl ?_
    have h := Option.some.inj (show some _ = some o from h)
    subst h
    exact hq
theorem ct_M_read {g : GG} {am : Nat → Nat} {ap : Nat → Nat} {pm : Nat} {t : va_W} {m0 m6 m7 m8 m9 m10 m11 m12 : Int32} {m19 m20 m21 : Nat → Int32} {N : Nat} {M_size : Int32} {M_errorAt : Int32} {M_token : Int32} {M_depth : Int32} {M_ordersRead : Int32} {M_tape : Nat → Int32} {M_kind : Nat → Int32} {M_from : Nat → Int32} {M_means : Nat → Int32} {M_value : Nat → Int64} {M_who : Nat → Int32} {P_events : Int32} {P_tellers : Int32} {P_claims : Int32} {P_orders : Int32} {P_many : Int32} {P_event : Nat → Int64} {P_teller : Nat → Int64} {P_kind : Nat → Int32} {P_by : Nat → Int32} {P_of : Nat → Int32} {P_other : Nat → Int32} {P_last : Nat → Int32} {P_does : Nat → Int32} {P_whom : Nat → Int32} {P_begins : Nat → Int32} {P_ends : Nat → Int32} {P_order : Nat → Int32} {P_with : Nat → Int32} {P_also : Nat → Int32} {o : Int32 × Int32 × Int32 × Int32 × Int32 × (Nat → Int32) × (Nat → Int32) × (Nat → Int32) × (Nat → Int64) × (Nat → Int32) × Int32 × Int32 × Int32 × Int32 × Int32 × (Nat → Int64) × (Nat → Int64) × (Nat → Int32) × (Nat → Int32) × (Nat → Int32) × (Nat → Int32) × (Nat → Int32) × (Nat → Int32) × (Nat → Int32) × (Nat → Int32) × (Nat → Int32) × (Nat → Int32) × (Nat → Int32) × (Nat → Int32)} (h : f_M_read N M_size M_errorAt M_token M_depth M_ordersRead M_tape M_kind M_from M_means M_value M_who P_events P_tellers P_claims P_orders P_many P_event P_teller P_kind P_by P_of P_other P_last P_does P_whom P_begins P_ends P_order P_with P_also = some o) : Ct g mX11_read 73 0 0 [.ref (am 0), .ref (ap 0)] (wlM g am pm m0 M_size M_errorAt M_token M_depth M_ordersRead m6 m7 m8 m9 m10 m11 m12 M_tape M_kind M_from M_means M_value M_who m19 m20 m21 ++ (wlP g ap P_events P_tellers P_claims P_orders P_many P_event P_teller P_kind P_by P_of P_other P_last P_does P_whom P_begins P_ends P_order P_with P_also ++ t)) (Dv (some (.int o.1)) (wlM g am pm m0 M_size o.2.1 o.2.2.1 o.2.2.2.1 o.2.2.2.2.1 m6 m7 m8 m9 m10 m11 m12 M_tape o.2.2.2.2.2.1 o.2.2.2.2.2.2.1 o.2.2.2.2.2.2.2.1 o.2.2.2.2.2.2.2.2.1 o.2.2.2.2.2.2.2.2.2.1 m19 m20 m21 ++ (wlP g ap o.2.2.2.2.2.2.2.2.2.2.1 o.2.2.2.2.2.2.2.2.2.2.2.1 o.2.2.2.2.2.2.2.2.2.2.2.2.1 o.2.2.2.2.2.2.2.2.2.2.2.2.2.1 o.2.2.2.2.2.2.2.2.2.2.2.2.2.2.1 o.2.2.2.2.2.2.2.2.2.2.2.2.2.2.2.1 o.2.2.2.2.2.2.2.2.2.2.2.2.2.2.2.2.1 o.2.2.2.2.2.2.2.2.2.2.2.2.2.2.2.2.2.1 o.2.2.2.2.2.2.2.2.2.2.2.2.2.2.2.2.2.2.1 o.2.2.2.2.2.2.2.2.2.2.2.2.2.2.2.2.2.2.2.1 o.2.2.2.2.2.2.2.2.2.2.2.2.2.2.2.2.2.2.2.2.1 o.2.2.2.2.2.2.2.2.2.2.2.2.2.2.2.2.2.2.2.2.2.1 o.2.2.2.2.2.2.2.2.2.2.2.2.2.2.2.2.2.2.2.2.2.2.1 o.2.2.2.2.2.2.2.2.2.2.2.2.2.2.2.2.2.2.2.2.2.2.2.1 o.2.2.2.2.2.2.2.2.2.2.2.2.2.2.2.2.2.2.2.2.2.2.2.2.1 o.2.2.2.2.2.2.2.2.2.2.2.2.2.2.2.2.2.2.2.2.2.2.2.2.2.1 o.2.2.2.2.2.2.2.2.2.2.2.2.2.2.2.2.2.2.2.2.2.2.2.2.2.2.1 o.2.2.2.2.2.2.2.2.2.2.2.2.2.2.2.2.2.2.2.2.2.2.2.2.2.2.2.1 o.2.2.2.2.2.2.2.2.2.2.2.2.2.2.2.2.2.2.2.2.2.2.2.2.2.2.2.2 ++ t))) := Ct.ofR (by decide +kernel) rfl (Nat.le_of_ble_eq_true rfl) (rt_M_read h ⟨rfl, rfl⟩)
set_option maxRecDepth 20000 in
set_option maxHeartbeats 4000000 in
theorem rt_M_feed {g : GG} {am : Nat → Nat} {pm : Nat} {t : va_W} {m2 m3 m4 m5 m6 m7 m8 m9 m10 m11 m12 : Int32} {m14 m15 m16 m18 m19 m20 m21 : Nat → Int32} {m17 : Nat → Int64} {N : Nat} {M_thrown : Int32} {M_size : Int32} {M_tape : Nat → Int32} {p1 : Int32} {p2 : Int32} {p3 : Int32} {p4 : Int32} {p5 : Int32} {o : Int32 × Int32 × Int32 × (Nat → Int32)} {Q : Rs → va_W → Prop} (h : f_M_feed N M_thrown M_size M_tape p1 p2 p3 p4 p5 = some o) (hq : ∀ t2 : va_W, Q (.inl (some (.int o.1))) (wlM g am pm o.2.1 o.2.2.1 m2 m3 m4 m5 m6 m7 m8 m9 m10 m11 m12 o.2.2.2 m14 m15 m16 m17 m18 m19 m20 m21 ++ (t2 ++ t))) : R g mX11_feed 2 1 5 0 [(0, .ref (am 0)), (1, .int p1), (2, .int p2), (3, .int p3), (4, .int p4), (5, .int p5)] [] (wlM g am pm M_thrown M_size m2 m3 m4 m5 m6 m7 m8 m9 m10 m11 m12 M_tape m14 m15 m16 m17 m18 m19 m20 m21 ++ t) Q := by
  unfold f_M_feed at h
  refine r_aload_n 0 dX11_feed_0 rfl ?_
  refine r_iconst (v := (0 : Int32)) dX11_feed_1 (by decide) ?_
  refine r_putf _ dX11_feed_2 fl_X11_52 lM_0 (Nat.le_of_ble_eq_true rfl) rfl rfl (sM_0 _) ?_
  refine r_aload_n 0 dX11_feed_5 rfl ?_
  refine r_getf (v := .int M_size) _ dX11_feed_6 fl_X11_206 lM_0 rfl ?_
  refine r_sipush (v := (1980 : Int32)) dX11_feed_9 (by decide) ?_
  refine r_icmp_le (tgt := 21) dX11_feed_12 (by decide) (fun hc2164 => ?_) (fun hc2164 => ?_)
  · have h := ip (fun z9 => z9) hc2164 h
    refine r_iconst (v := (5 : Int32)) dX11_feed_21 (by decide) ?_
    refine r_newI (x := 0) (y := 0) (N := 5) dX11_feed_22 kk_162 (by decide) (by decide) (by decide) (fun q0t => ?_)
    refine r_perm pmT1 ?_
    refine r_dup dX11_feed_24 rfl ?_
    refine r_iconst (v := (0 : Int32)) dX11_feed_25 (by decide) ?_
    refine r_iload_n 1 dX11_feed_26 rfl ?_
    refine r_iast _ dX11_feed_27 lT1 (by decide) (sT1 _) ?_
    refine r_dup dX11_feed_28 rfl ?_
    refine r_iconst (v := (1 : Int32)) dX11_feed_29 (by decide) ?_
    refine r_iload_n 2 dX11_feed_30 rfl ?_
    refine r_iast _ dX11_feed_31 lT1 (by decide) (sT1 _) ?_
    refine r_dup dX11_feed_32 rfl ?_
    refine r_iconst (v := (2 : Int32)) dX11_feed_33 (by decide) ?_
    refine r_iload_n 3 dX11_feed_34 rfl ?_
    refine r_iast _ dX11_feed_35 lT1 (by decide) (sT1 _) ?_
    refine r_dup dX11_feed_36 rfl ?_
    refine r_iconst (v := (3 : Int32)) dX11_feed_37 (by decide) ?_
    refine r_iload 4 dX11_feed_38 rfl ?_
    refine r_iast _ dX11_feed_40 lT1 (by decide) (sT1 _) ?_
    refine r_dup dX11_feed_41 rfl ?_
    refine r_iconst (v := (4 : Int32)) dX11_feed_42 (by decide) ?_
    refine r_iload 5 dX11_feed_43 rfl ?_
    refine r_iast _ dX11_feed_45 lT1 (by decide) (sT1 _) ?_
    refine r_astore [(6, .ref q0t), (0, .ref (am 0)), (1, .int p1), (2, .int p2), (3, .int p3), (4, .int p4), (5, .int p5)] dX11_feed_46 (by decide) rfl ?_
    refine r_iconst (v := (0 : Int32)) dX11_feed_48 (by decide) ?_
    refine r_istore [(7, .int (0 : Int32)), (6, .ref q0t), (0, .ref (am 0)), (1, .int p1), (2, .int p2), (3, .int p3), (4, .int p4), (5, .int p5)] dX11_feed_49 (by decide) rfl ?_
    refine r_ls [2, 1, 0] (ls2 := [(0, .ref (am 0)), (6, .ref q0t), (7, .int (0 : Int32))]) rfl ?_
    have L1 : ∀ (n1 : Nat) (tmp0_c1 : Nat → Int32) (l7_1 : Int32) (M_tape_1 : Nat → Int32), (fun z9 => z9) (lpS (f_M_feed_L51 M_size tmp0_c1) none n1 (l7_1, M_tape_1)) = some o → R g mX11_feed 2 0 0 51 [(0, .ref (am 0)), (6, .ref q0t), (7, .int l7_1)] [] (wlM g am pm (0 : Int32) M_size m2 m3 m4 m5 m6 m7 m8 m9 m10 m11 m12 M_tape_1 m14 m15 m16 m17 m18 m19 m20 m21 ++ ((q0t, iA g 5 tmp0_c1) :: t)) Q := by
      intro n1
      induction n1 with
      | zero => intro tmp0_c1 l7_1 M_tape_1 h; exact nomatch (show (none : Option _) = some _ from h)
      | succ n1 ih1 =>
        intro tmp0_c1 l7_1 M_tape_1 h
        have h : (fun z9 => (lC (f_M_feed_L51 M_size tmp0_c1) none n1 z9)) (f_M_feed_L51 M_size tmp0_c1 (l7_1, M_tape_1)) = some o := h
        unfold f_M_feed_L51 at h
        try dsimp only at h
        refine r_iload 2 dX11_feed_51 rfl ?_
        refine r_bipush (v := (20 : Int32)) dX11_feed_53 (by decide) ?_
        refine r_icmp_ge (tgt := 98) dX11_feed_55 (by decide) (fun hc2170 => ?_) (fun hc2170 => ?_)
        · have h := ip (fun z9 => (lC (f_M_feed_L51 M_size tmp0_c1) none n1 z9)) hc2170 h
          refine r_aload_n 0 dX11_feed_98 rfl ?_
          refine r_dup dX11_feed_99 rfl ?_
          refine r_getf (v := .int M_size) _ dX11_feed_100 fl_X11_206 lM_0 rfl ?_
          refine r_bipush (v := (20 : Int32)) dX11_feed_103 (by decide) ?_
          refine r_iadd dX11_feed_105 ?_
          refine r_putf _ dX11_feed_106 fl_X11_206 lM_0 (Nat.le_of_ble_eq_true rfl) rfl rfl (sM_1 _) ?_
          refine r_aload_n 0 dX11_feed_109 rfl ?_
          refine r_getf (v := .int (M_size + (20 : Int32))) _ dX11_feed_110 fl_X11_206 lM_0 rfl ?_
          refine r_iret dX11_feed_113 rfl ?_
          have h := Option.some.inj (show some _ = some o from h)
          subst h
          first | exact hq [] | exact hq [_]
        · have h := iq (fun z9 => (lC (f_M_feed_L51 M_size tmp0_c1) none n1 z9)) hc2170 h
          refine r_aload_n 0 dX11_feed_58 rfl ?_
          refine r_getf (v := .ref (am 1)) _ dX11_feed_59 fl_X11_9 lM_0 rfl ?_
          refine r_aload_n 0 dX11_feed_62 rfl ?_
          refine r_getf (v := .int M_size) _ dX11_feed_63 fl_X11_206 lM_0 rfl ?_
          refine r_iload 2 dX11_feed_66 rfl ?_
          refine r_iadd dX11_feed_68 ?_
          refine r_aload 1 dX11_feed_69 rfl ?_
          refine r_iload 2 dX11_feed_71 rfl ?_
          refine r_iconst (v := (4 : Int32)) dX11_feed_73 (by decide) ?_
          refine r_idiv dX11_feed_74 (by decide) ?_
          obtain ⟨hb2172, h⟩ := gd (fun z9 => (lC (f_M_feed_L51 M_size tmp0_c1) none n1 z9)) rfl h
          refine r_iald _ dX11_feed_75 lT1 hb2172 ?_
          refine r_bipush (v := (24 : Int32)) dX11_feed_76 (by decide) ?_
          refine r_bipush (v := (8 : Int32)) dX11_feed_78 (by decide) ?_
          refine r_iload 2 dX11_feed_80 rfl ?_
          refine r_iconst (v := (4 : Int32)) dX11_feed_82 (by decide) ?_
          refine r_irem dX11_feed_83 (by decide) ?_
          refine r_imul dX11_feed_84 ?_
          refine r_isub dX11_feed_85 ?_
          refine r_ishr dX11_feed_86 ?_
          refine r_sipush (v := (255 : Int32)) dX11_feed_87 (by decide) ?_
          refine r_iand dX11_feed_90 ?_
          obtain ⟨hb2174, h⟩ := gd (fun z9 => (lC (f_M_feed_L51 M_size tmp0_c1) none n1 z9)) rfl h
          refine r_iast _ dX11_feed_91 lM_1 hb2174 (sM_13 _) ?_
          refine r_iinc (v2 := (l7_1 + (1 : Int32))) 2 [(7, .int (l7_1 + (1 : Int32))), (0, .ref (am 0)), (6, .ref q0t)] dX11_feed_92 rfl rfl (by decide) rfl ?_
          refine r_goto (tgt := 51) dX11_feed_95 (by decide) ?_
          refine r_ls [1, 2, 0] (ls2 := [(0, .ref (am 0)), (6, .ref q0t), (7, .int (l7_1 + (1 : Int32)))]) rfl ?_
          exact ih1 tmp0_c1 (l7_1 + (1 : Int32)) (upd M_tape_1 (M_size + l7_1).toNatClampNeg (((tmp0_c1 (l7_1 / (4 : Int32)).toNatClampNeg) >>> (((24 : Int32) - ((8 : Int32) * (l7_1 - l7_1 / (4 : Int32) * (4 : Int32)))) &&& 31)) &&& (255 : Int32))) h
    exact L1 _ (upd (upd (upd (upd (upd (fun _ => (0 : Int32)) (0 : Int32).toNatClampNeg p1) (1 : Int32).toNatClampNeg p2) (2 : Int32).toNatClampNeg p3) (3 : Int32).toNatClampNeg p4) (4 : Int32).toNatClampNeg p5) (0 : Int32) M_tape h
  · have h := iq (fun z9 => z9) hc2164 h
    refine r_aload_n 0 dX11_feed_15 rfl ?_
    refine r_iconst (v := (1 : Int32)) dX11_feed_16 (by decide) ?_
    obtain ⟨r2175, hc2176, h⟩ := ob (fun z9 => z9) rfl h
    refine c_V (rest := []) 1 5 _ dX11_feed_17 kv_X11_367 (ct_M_no hc2176) rfl rfl lM_0 rfl (Nat.le_of_ble_eq_true rfl) (by decide) (by decide) ?_
    refine r_iret dX11_feed_20 rfl ?_
    have h := Option.some.inj (show some _ = some o from h)
    subst h
    first | exact hq [] | exact hq [_]
theorem ct_M_feed {g : GG} {am : Nat → Nat} {pm : Nat} {t : va_W} {m2 m3 m4 m5 m6 m7 m8 m9 m10 m11 m12 : Int32} {m14 m15 m16 m18 m19 m20 m21 : Nat → Int32} {m17 : Nat → Int64} {N : Nat} {M_thrown : Int32} {M_size : Int32} {M_tape : Nat → Int32} {p1 : Int32} {p2 : Int32} {p3 : Int32} {p4 : Int32} {p5 : Int32} {o : Int32 × Int32 × Int32 × (Nat → Int32)} (h : f_M_feed N M_thrown M_size M_tape p1 p2 p3 p4 p5 = some o) : Ct g mX11_feed 2 1 5 [.ref (am 0), .int p1, .int p2, .int p3, .int p4, .int p5] (wlM g am pm M_thrown M_size m2 m3 m4 m5 m6 m7 m8 m9 m10 m11 m12 M_tape m14 m15 m16 m17 m18 m19 m20 m21 ++ t) (Da (some (.int o.1)) (fun t2 => (wlM g am pm o.2.1 o.2.2.1 m2 m3 m4 m5 m6 m7 m8 m9 m10 m11 m12 o.2.2.2 m14 m15 m16 m17 m18 m19 m20 m21 ++ t2)) t) := Ct.ofR (by decide +kernel) rfl (Nat.le_of_ble_eq_true rfl) (rt_M_feed h (fun t2 => ⟨rfl, t2, rfl⟩))
set_option maxRecDepth 20000 in
set_option maxHeartbeats 4000000 in
theorem rt_M_trim {g : GG} {am : Nat → Nat} {pm : Nat} {t : va_W} {m2 m3 m4 m5 m6 m7 m8 m9 m10 m11 m12 : Int32} {m13 m14 m15 m16 m18 m19 m20 m21 : Nat → Int32} {m17 : Nat → Int64} {M_thrown : Int32} {M_size : Int32} {p1 : Int32} {o : Int32 × Int32 × Int32} {Q : Rs → va_W → Prop} (h : f_M_trim M_thrown M_size p1 = some o) (hq : Q (.inl (some (.int o.1))) (wlM g am pm o.2.1 o.2.2 m2 m3 m4 m5 m6 m7 m8 m9 m10 m11 m12 m13 m14 m15 m16 m17 m18 m19 m20 m21 ++ t)) : R g mX11_trim 2 0 0 0 [(0, .ref (am 0)), (1, .int p1)] [] (wlM g am pm M_thrown M_size m2 m3 m4 m5 m6 m7 m8 m9 m10 m11 m12 m13 m14 m15 m16 m17 m18 m19 m20 m21 ++ t) Q := by
  unfold f_M_trim at h
  refine r_aload_n 0 dX11_trim_0 rfl ?_
  refine r_iconst (v := (0 : Int32)) dX11_trim_1 (by decide) ?_
  refine r_putf _ dX11_trim_2 fl_X11_52 lM_0 (Nat.le_of_ble_eq_true rfl) rfl rfl (sM_0 _) ?_
  refine r_iload_n 1 dX11_trim_5 rfl ?_
  refine r_iconst (v := (0 : Int32)) dX11_trim_6 (by decide) ?_
  refine r_aload_n 0 dX11_trim_7 rfl ?_
  refine r_getf (v := .int M_size) _ dX11_trim_8 fl_X11_206 lM_0 rfl ?_
  refine c_S (rest := []) 0 0 dX11_trim_11 ks_X11_58 (ct_M_isIn rfl) rfl rfl (Nat.le_of_ble_eq_true rfl) (by decide) (by decide) ?_
  refine r_if_ne (tgt := 23) dX11_trim_14 (by decide) (fun hc2177 => ?_) (fun hc2177 => ?_)
  · have h := iq (fun z9 => z9) hc2177 h
    refine r_aload_n 0 dX11_trim_23 rfl ?_
    refine r_iload_n 1 dX11_trim_24 rfl ?_
    refine r_putf _ dX11_trim_25 fl_X11_206 lM_0 (Nat.le_of_ble_eq_true rfl) rfl rfl (sM_1 _) ?_
    refine r_iload_n 1 dX11_trim_28 rfl ?_
    refine r_iret dX11_trim_29 rfl ?_
    have h := Option.some.inj (show some _ = some o from h)
    subst h
    exact hq
  · have h := ip (fun z9 => z9) hc2177 h
    refine r_aload_n 0 dX11_trim_17 rfl ?_
    refine r_iconst (v := (1 : Int32)) dX11_trim_18 (by decide) ?_
    obtain ⟨r2178, hc2179, h⟩ := ob (fun z9 => z9) rfl h
    refine c_V (rest := []) 0 0 _ dX11_trim_19 kv_X11_367 (ct_M_no hc2179) rfl rfl lM_0 rfl (Nat.le_of_ble_eq_true rfl) (by decide) (by decide) ?_
    refine r_iret dX11_trim_22 rfl ?_
    have h := Option.some.inj (show some _ = some o from h)
    subst h
    exact hq
theorem ct_M_trim {g : GG} {am : Nat → Nat} {pm : Nat} {t : va_W} {m2 m3 m4 m5 m6 m7 m8 m9 m10 m11 m12 : Int32} {m13 m14 m15 m16 m18 m19 m20 m21 : Nat → Int32} {m17 : Nat → Int64} {M_thrown : Int32} {M_size : Int32} {p1 : Int32} {o : Int32 × Int32 × Int32} (h : f_M_trim M_thrown M_size p1 = some o) : Ct g mX11_trim 2 0 0 [.ref (am 0), .int p1] (wlM g am pm M_thrown M_size m2 m3 m4 m5 m6 m7 m8 m9 m10 m11 m12 m13 m14 m15 m16 m17 m18 m19 m20 m21 ++ t) (Dv (some (.int o.1)) (wlM g am pm o.2.1 o.2.2 m2 m3 m4 m5 m6 m7 m8 m9 m10 m11 m12 m13 m14 m15 m16 m17 m18 m19 m20 m21 ++ t)) := Ct.ofR (by decide +kernel) rfl (Nat.le_of_ble_eq_true rfl) (rt_M_trim h ⟨rfl, rfl⟩)
set_option maxRecDepth 20000 in
set_option maxHeartbeats 4000000 in
theorem rt_M_errorAt {g : GG} {am : Nat → Nat} {pm : Nat} {t : va_W} {m1 m3 m4 m5 m6 m7 m8 m9 m10 m11 m12 : Int32} {m13 m14 m15 m16 m18 m19 m20 m21 : Nat → Int32} {m17 : Nat → Int64} {M_thrown : Int32} {M_errorAt : Int32} {o : Int32 × Int32} {Q : Rs → va_W → Prop} (h : f_M_errorAt M_thrown M_errorAt = some o) (hq : Q (.inl (some (.int o.1))) (wlM g am pm o.2 m1 M_errorAt m3 m4 m5 m6 m7 m8 m9 m10 m11 m12 m13 m14 m15 m16 m17 m18 m19 m20 m21 ++ t)) : R g mX11_errorAt 2 0 0 0 [(0, .ref (am 0))] [] (wlM g am pm M_thrown m1 M_errorAt m3 m4 m5 m6 m7 m8 m9 m10 m11 m12 m13 m14 m15 m16 m17 m18 m19 m20 m21 ++ t) Q := by
  unfold f_M_errorAt at h
  refine r_aload_n 0 dX11_errorAt_0 rfl ?_
  refine r_aload_n 0 dX11_errorAt_1 rfl ?_
  refine r_getf (v := .int M_errorAt) _ dX11_errorAt_2 fl_X11_13 lM_0 rfl ?_
  obtain ⟨r2180, hc2181, h⟩ := ob (fun z9 => z9) rfl h
  refine c_V (rest := []) 0 0 _ dX11_errorAt_5 kv_X11_376 (ct_M_ok hc2181) rfl rfl lM_0 rfl (Nat.le_of_ble_eq_true rfl) (by decide) (by decide) ?_
  refine r_iret dX11_errorAt_8 rfl ?_
  have h := Option.some.inj (show some _ = some o from h)
  subst h
  exact hq
theorem ct_M_errorAt {g : GG} {am : Nat → Nat} {pm : Nat} {t : va_W} {m1 m3 m4 m5 m6 m7 m8 m9 m10 m11 m12 : Int32} {m13 m14 m15 m16 m18 m19 m20 m21 : Nat → Int32} {m17 : Nat → Int64} {M_thrown : Int32} {M_errorAt : Int32} {o : Int32 × Int32} (h : f_M_errorAt M_thrown M_errorAt = some o) : Ct g mX11_errorAt 2 0 0 [.ref (am 0)] (wlM g am pm M_thrown m1 M_errorAt m3 m4 m5 m6 m7 m8 m9 m10 m11 m12 m13 m14 m15 m16 m17 m18 m19 m20 m21 ++ t) (Dv (some (.int o.1)) (wlM g am pm o.2 m1 M_errorAt m3 m4 m5 m6 m7 m8 m9 m10 m11 m12 m13 m14 m15 m16 m17 m18 m19 m20 m21 ++ t)) := Ct.ofR (by decide +kernel) rfl (Nat.le_of_ble_eq_true rfl) (rt_M_errorAt h ⟨rfl, rfl⟩)
set_option maxRecDepth 20000 in
set_option maxHeartbeats 4000000 in
theorem rt_M_events {g : GG} {am : Nat → Nat} {ap : Nat → Nat} {t : va_W} {m1 m2 m3 m4 m5 m6 m7 m8 m9 m10 m11 m12 u1 u2 u3 u4 : Int32} {m13 m14 m15 m16 m18 m19 m20 m21 u7 u8 u9 u10 u11 u12 u13 u14 u15 u16 u17 u18 : Nat → Int32} {m17 u5 u6 : Nat → Int64} {M_thrown : Int32} {P_events : Int32} {o : Int32 × Int32} {Q : Rs → va_W → Prop} (h : f_M_events M_thrown P_events = some o) (hq : Q (.inl (some (.int o.1))) (wlM g am (ap 0) o.2 m1 m2 m3 m4 m5 m6 m7 m8 m9 m10 m11 m12 m13 m14 m15 m16 m17 m18 m19 m20 m21 ++ (wlP g ap P_events u1 u2 u3 u4 u5 u6 u7 u8 u9 u10 u11 u12 u13 u14 u15 u16 u17 u18 ++ t))) : R g mX11_events 2 0 0 0 [(0, .ref (am 0))] [] (wlM g am (ap 0) M_thrown m1 m2 m3 m4 m5 m6 m7 m8 m9 m10 m11 m12 m13 m14 m15 m16 m17 m18 m19 m20 m21 ++ (wlP g ap P_events u1 u2 u3 u4 u5 u6 u7 u8 u9 u10 u11 u12 u13 u14 u15 u16 u17 u18 ++ t)) Q := by
  unfold f_M_events at h
  refine r_aload_n 0 dX11_events_0 rfl ?_
  refine r_aload_n 0 dX11_events_1 rfl ?_
  refine r_getf (v := .ref (ap 0)) _ dX11_events_2 fl_X11_20 lM_0 rfl ?_
  refine r_getf (v := .int P_events) _ dX11_events_5 fl_X11_55 lP_0 rfl ?_
  obtain ⟨r2182, hc2183, h⟩ := ob (fun z9 => z9) rfl h
  refine c_V (rest := []) 0 0 _ dX11_events_8 kv_X11_376 (ct_M_ok hc2183) rfl rfl lM_0 rfl (Nat.le_of_ble_eq_true rfl) (by decide) (by decide) ?_
  refine r_iret dX11_events_11 rfl ?_
  have h := Option.some.inj (show some _ = some o from h)
  subst h
  exact hq
theorem ct_M_events {g : GG} {am : Nat → Nat} {ap : Nat → Nat} {t : va_W} {m1 m2 m3 m4 m5 m6 m7 m8 m9 m10 m11 m12 u1 u2 u3 u4 : Int32} {m13 m14 m15 m16 m18 m19 m20 m21 u7 u8 u9 u10 u11 u12 u13 u14 u15 u16 u17 u18 : Nat → Int32} {m17 u5 u6 : Nat → Int64} {M_thrown : Int32} {P_events : Int32} {o : Int32 × Int32} (h : f_M_events M_thrown P_events = some o) : Ct g mX11_events 2 0 0 [.ref (am 0)] (wlM g am (ap 0) M_thrown m1 m2 m3 m4 m5 m6 m7 m8 m9 m10 m11 m12 m13 m14 m15 m16 m17 m18 m19 m20 m21 ++ (wlP g ap P_events u1 u2 u3 u4 u5 u6 u7 u8 u9 u10 u11 u12 u13 u14 u15 u16 u17 u18 ++ t)) (Dv (some (.int o.1)) (wlM g am (ap 0) o.2 m1 m2 m3 m4 m5 m6 m7 m8 m9 m10 m11 m12 m13 m14 m15 m16 m17 m18 m19 m20 m21 ++ (wlP g ap P_events u1 u2 u3 u4 u5 u6 u7 u8 u9 u10 u11 u12 u13 u14 u15 u16 u17 u18 ++ t))) := Ct.ofR (by decide +kernel) rfl (Nat.le_of_ble_eq_true rfl) (rt_M_events h ⟨rfl, rfl⟩)
set_option maxRecDepth 20000 in
set_option maxHeartbeats 4000000 in
theorem rt_M_tellers {g : GG} {am : Nat → Nat} {ap : Nat → Nat} {t : va_W} {m1 m2 m3 m4 m5 m6 m7 m8 m9 m10 m11 m12 u0 u2 u3 u4 : Int32} {m13 m14 m15 m16 m18 m19 m20 m21 u7 u8 u9 u10 u11 u12 u13 u14 u15 u16 u17 u18 : Nat → Int32} {m17 u5 u6 : Nat → Int64} {M_thrown : Int32} {P_tellers : Int32} {o : Int32 × Int32} {Q : Rs → va_W → Prop} (h : f_M_tellers M_thrown P_tellers = some o) (hq : Q (.inl (some (.int o.1))) (wlM g am (ap 0) o.2 m1 m2 m3 m4 m5 m6 m7 m8 m9 m10 m11 m12 m13 m14 m15 m16 m17 m18 m19 m20 m21 ++ (wlP g ap u0 P_tellers u2 u3 u4 u5 u6 u7 u8 u9 u10 u11 u12 u13 u14 u15 u16 u17 u18 ++ t))) : R g mX11_tellers 2 0 0 0 [(0, .ref (am 0))] [] (wlM g am (ap 0) M_thrown m1 m2 m3 m4 m5 m6 m7 m8 m9 m10 m11 m12 m13 m14 m15 m16 m17 m18 m19 m20 m21 ++ (wlP g ap u0 P_tellers u2 u3 u4 u5 u6 u7 u8 u9 u10 u11 u12 u13 u14 u15 u16 u17 u18 ++ t)) Q := by
  unfold f_M_tellers at h
  refine r_aload_n 0 dX11_tellers_0 rfl ?_
  refine r_aload_n 0 dX11_tellers_1 rfl ?_
  refine r_getf (v := .ref (ap 0)) _ dX11_tellers_2 fl_X11_20 lM_0 rfl ?_
  refine r_getf (v := .int P_tellers) _ dX11_tellers_5 fl_X11_62 lP_0 rfl ?_
  obtain ⟨r2184, hc2185, h⟩ := ob (fun z9 => z9) rfl h
  refine c_V (rest := []) 0 0 _ dX11_tellers_8 kv_X11_376 (ct_M_ok hc2185) rfl rfl lM_0 rfl (Nat.le_of_ble_eq_true rfl) (by decide) (by decide) ?_
  refine r_iret dX11_tellers_11 rfl ?_
  have h := Option.some.inj (show some _ = some o from h)
  subst h
  exact hq
theorem ct_M_tellers {g : GG} {am : Nat → Nat} {ap : Nat → Nat} {t : va_W} {m1 m2 m3 m4 m5 m6 m7 m8 m9 m10 m11 m12 u0 u2 u3 u4 : Int32} {m13 m14 m15 m16 m18 m19 m20 m21 u7 u8 u9 u10 u11 u12 u13 u14 u15 u16 u17 u18 : Nat → Int32} {m17 u5 u6 : Nat → Int64} {M_thrown : Int32} {P_tellers : Int32} {o : Int32 × Int32} (h : f_M_tellers M_thrown P_tellers = some o) : Ct g mX11_tellers 2 0 0 [.ref (am 0)] (wlM g am (ap 0) M_thrown m1 m2 m3 m4 m5 m6 m7 m8 m9 m10 m11 m12 m13 m14 m15 m16 m17 m18 m19 m20 m21 ++ (wlP g ap u0 P_tellers u2 u3 u4 u5 u6 u7 u8 u9 u10 u11 u12 u13 u14 u15 u16 u17 u18 ++ t)) (Dv (some (.int o.1)) (wlM g am (ap 0) o.2 m1 m2 m3 m4 m5 m6 m7 m8 m9 m10 m11 m12 m13 m14 m15 m16 m17 m18 m19 m20 m21 ++ (wlP g ap u0 P_tellers u2 u3 u4 u5 u6 u7 u8 u9 u10 u11 u12 u13 u14 u15 u16 u17 u18 ++ t))) := Ct.ofR (by decide +kernel) rfl (Nat.le_of_ble_eq_true rfl) (rt_M_tellers h ⟨rfl, rfl⟩)
set_option maxRecDepth 20000 in
set_option maxHeartbeats 4000000 in
theorem rt_M_claims {g : GG} {am : Nat → Nat} {ap : Nat → Nat} {t : va_W} {m1 m2 m3 m4 m5 m6 m7 m8 m9 m10 m11 m12 u0 u1 u3 u4 : Int32} {m13 m14 m15 m16 m18 m19 m20 m21 u7 u8 u9 u10 u11 u12 u13 u14 u15 u16 u17 u18 : Nat → Int32} {m17 u5 u6 : Nat → Int64} {M_thrown : Int32} {P_claims : Int32} {o : Int32 × Int32} {Q : Rs → va_W → Prop} (h : f_M_claims M_thrown P_claims = some o) (hq : Q (.inl (some (.int o.1))) (wlM g am (ap 0) o.2 m1 m2 m3 m4 m5 m6 m7 m8 m9 m10 m11 m12 m13 m14 m15 m16 m17 m18 m19 m20 m21 ++ (wlP g ap u0 u1 P_claims u3 u4 u5 u6 u7 u8 u9 u10 u11 u12 u13 u14 u15 u16 u17 u18 ++ t))) : R g mX11_claims 2 0 0 0 [(0, .ref (am 0))] [] (wlM g am (ap 0) M_thrown m1 m2 m3 m4 m5 m6 m7 m8 m9 m10 m11 m12 m13 m14 m15 m16 m17 m18 m19 m20 m21 ++ (wlP g ap u0 u1 P_claims u3 u4 u5 u6 u7 u8 u9 u10 u11 u12 u13 u14 u15 u16 u17 u18 ++ t)) Q := by
  unfold f_M_claims at h
  refine r_aload_n 0 dX11_claims_0 rfl ?_
  refine r_aload_n 0 dX11_claims_1 rfl ?_
  refine r_getf (v := .ref (ap 0)) _ dX11_claims_2 fl_X11_20 lM_0 rfl ?_
  refine r_getf (v := .int P_claims) _ dX11_claims_5 fl_X11_65 lP_0 rfl ?_
  obtain ⟨r2186, hc2187, h⟩ := ob (fun z9 => z9) rfl h
  refine c_V (rest := []) 0 0 _ dX11_claims_8 kv_X11_376 (ct_M_ok hc2187) rfl rfl lM_0 rfl (Nat.le_of_ble_eq_true rfl) (by decide) (by decide) ?_
  refine r_iret dX11_claims_11 rfl ?_
  have h := Option.some.inj (show some _ = some o from h)
  subst h
  exact hq
theorem ct_M_claims {g : GG} {am : Nat → Nat} {ap : Nat → Nat} {t : va_W} {m1 m2 m3 m4 m5 m6 m7 m8 m9 m10 m11 m12 u0 u1 u3 u4 : Int32} {m13 m14 m15 m16 m18 m19 m20 m21 u7 u8 u9 u10 u11 u12 u13 u14 u15 u16 u17 u18 : Nat → Int32} {m17 u5 u6 : Nat → Int64} {M_thrown : Int32} {P_claims : Int32} {o : Int32 × Int32} (h : f_M_claims M_thrown P_claims = some o) : Ct g mX11_claims 2 0 0 [.ref (am 0)] (wlM g am (ap 0) M_thrown m1 m2 m3 m4 m5 m6 m7 m8 m9 m10 m11 m12 m13 m14 m15 m16 m17 m18 m19 m20 m21 ++ (wlP g ap u0 u1 P_claims u3 u4 u5 u6 u7 u8 u9 u10 u11 u12 u13 u14 u15 u16 u17 u18 ++ t)) (Dv (some (.int o.1)) (wlM g am (ap 0) o.2 m1 m2 m3 m4 m5 m6 m7 m8 m9 m10 m11 m12 m13 m14 m15 m16 m17 m18 m19 m20 m21 ++ (wlP g ap u0 u1 P_claims u3 u4 u5 u6 u7 u8 u9 u10 u11 u12 u13 u14 u15 u16 u17 u18 ++ t))) := Ct.ofR (by decide +kernel) rfl (Nat.le_of_ble_eq_true rfl) (rt_M_claims h ⟨rfl, rfl⟩)
set_option maxRecDepth 20000 in
set_option maxHeartbeats 4000000 in
theorem rt_M_evenings {g : GG} {am : Nat → Nat} {pm : Nat} {t : va_W} {m1 m2 m3 m4 m5 m6 m8 m9 m10 m11 m12 : Int32} {m13 m14 m15 m16 m18 m19 m20 m21 : Nat → Int32} {m17 : Nat → Int64} {M_thrown : Int32} {M_evenings : Int32} {o : Int32 × Int32} {Q : Rs → va_W → Prop} (h : f_M_evenings M_thrown M_evenings = some o) (hq : Q (.inl (some (.int o.1))) (wlM g am pm o.2 m1 m2 m3 m4 m5 m6 M_evenings m8 m9 m10 m11 m12 m13 m14 m15 m16 m17 m18 m19 m20 m21 ++ t)) : R g mX11_evenings 2 0 0 0 [(0, .ref (am 0))] [] (wlM g am pm M_thrown m1 m2 m3 m4 m5 m6 M_evenings m8 m9 m10 m11 m12 m13 m14 m15 m16 m17 m18 m19 m20 m21 ++ t) Q := by
  unfold f_M_evenings at h
  refine r_aload_n 0 dX11_evenings_0 rfl ?_
  refine r_aload_n 0 dX11_evenings_1 rfl ?_
  refine r_getf (v := .int M_evenings) _ dX11_evenings_2 fl_X11_156 lM_0 rfl ?_
  obtain ⟨r2188, hc2189, h⟩ := ob (fun z9 => z9) rfl h
  refine c_V (rest := []) 0 0 _ dX11_evenings_5 kv_X11_376 (ct_M_ok hc2189) rfl rfl lM_0 rfl (Nat.le_of_ble_eq_true rfl) (by decide) (by decide) ?_
  refine r_iret dX11_evenings_8 rfl ?_
  have h := Option.some.inj (show some _ = some o from h)
  subst h
  exact hq
theorem ct_M_evenings {g : GG} {am : Nat → Nat} {pm : Nat} {t : va_W} {m1 m2 m3 m4 m5 m6 m8 m9 m10 m11 m12 : Int32} {m13 m14 m15 m16 m18 m19 m20 m21 : Nat → Int32} {m17 : Nat → Int64} {M_thrown : Int32} {M_evenings : Int32} {o : Int32 × Int32} (h : f_M_evenings M_thrown M_evenings = some o) : Ct g mX11_evenings 2 0 0 [.ref (am 0)] (wlM g am pm M_thrown m1 m2 m3 m4 m5 m6 M_evenings m8 m9 m10 m11 m12 m13 m14 m15 m16 m17 m18 m19 m20 m21 ++ t) (Dv (some (.int o.1)) (wlM g am pm o.2 m1 m2 m3 m4 m5 m6 M_evenings m8 m9 m10 m11 m12 m13 m14 m15 m16 m17 m18 m19 m20 m21 ++ t)) := Ct.ofR (by decide +kernel) rfl (Nat.le_of_ble_eq_true rfl) (rt_M_evenings h ⟨rfl, rfl⟩)
set_option maxRecDepth 20000 in
set_option maxHeartbeats 4000000 in
theorem rt_M_ordersCarriedOut {g : GG} {am : Nat → Nat} {pm : Nat} {t : va_W} {m1 m2 m3 m4 m5 m6 m7 m9 m10 m11 m12 : Int32} {m13 m14 m15 m16 m18 m19 m20 m21 : Nat → Int32} {m17 : Nat → Int64} {M_thrown : Int32} {M_carried : Int32} {o : Int32 × Int32} {Q : Rs → va_W → Prop} (h : f_M_ordersCarriedOut M_thrown M_carried = some o) (hq : Q (.inl (some (.int o.1))) (wlM g am pm o.2 m1 m2 m3 m4 m5 m6 m7 M_carried m9 m10 m11 m12 m13 m14 m15 m16 m17 m18 m19 m20 m21 ++ t)) : R g mX11_ordersCarriedOut 2 0 0 0 [(0, .ref (am 0))] [] (wlM g am pm M_thrown m1 m2 m3 m4 m5 m6 m7 M_carried m9 m10 m11 m12 m13 m14 m15 m16 m17 m18 m19 m20 m21 ++ t) Q := by
  unfold f_M_ordersCarriedOut at h
  refine r_aload_n 0 dX11_ordersCarriedOut_0 rfl ?_
  refine r_aload_n 0 dX11_ordersCarriedOut_1 rfl ?_
  refine r_getf (v := .int M_carried) _ dX11_ordersCarriedOut_2 fl_X11_141 lM_0 rfl ?_
  obtain ⟨r2190, hc2191, h⟩ := ob (fun z9 => z9) rfl h
  refine c_V (rest := []) 0 0 _ dX11_ordersCarriedOut_5 kv_X11_376 (ct_M_ok hc2191) rfl rfl lM_0 rfl (Nat.le_of_ble_eq_true rfl) (by decide) (by decide) ?_
  refine r_iret dX11_ordersCarriedOut_8 rfl ?_
  have h := Option.some.inj (show some _ = some o from h)
  subst h
  exact hq
theorem ct_M_ordersCarriedOut {g : GG} {am : Nat → Nat} {pm : Nat} {t : va_W} {m1 m2 m3 m4 m5 m6 m7 m9 m10 m11 m12 : Int32} {m13 m14 m15 m16 m18 m19 m20 m21 : Nat → Int32} {m17 : Nat → Int64} {M_thrown : Int32} {M_carried : Int32} {o : Int32 × Int32} (h : f_M_ordersCarriedOut M_thrown M_carried = some o) : Ct g mX11_ordersCarriedOut 2 0 0 [.ref (am 0)] (wlM g am pm M_thrown m1 m2 m3 m4 m5 m6 m7 M_carried m9 m10 m11 m12 m13 m14 m15 m16 m17 m18 m19 m20 m21 ++ t) (Dv (some (.int o.1)) (wlM g am pm o.2 m1 m2 m3 m4 m5 m6 m7 M_carried m9 m10 m11 m12 m13 m14 m15 m16 m17 m18 m19 m20 m21 ++ t)) := Ct.ofR (by decide +kernel) rfl (Nat.le_of_ble_eq_true rfl) (rt_M_ordersCarriedOut h ⟨rfl, rfl⟩)
set_option maxRecDepth 20000 in
set_option maxHeartbeats 4000000 in
theorem rt_M_tellerOf {g : GG} {am : Nat → Nat} {ap : Nat → Nat} {t : va_W} {m1 m2 m3 m4 m5 m6 m7 m8 m9 m10 m11 m12 u0 u1 u3 u4 : Int32} {m13 m14 m15 m16 m18 m19 m20 m21 u7 u9 u10 u11 u12 u13 u14 u15 u16 u17 u18 : Nat → Int32} {m17 u5 u6 : Nat → Int64} {M_thrown : Int32} {P_claims : Int32} {P_by : Nat → Int32} {p1 : Int32} {o : Int32 × Int32} {Q : Rs → va_W → Prop} (h : f_M_tellerOf M_thrown P_claims P_by p1 = some o) (hq : Q (.inl (some (.int o.1))) (wlM g am (ap 0) o.2 m1 m2 m3 m4 m5 m6 m7 m8 m9 m10 m11 m12 m13 m14 m15 m16 m17 m18 m19 m20 m21 ++ (wlP g ap u0 u1 P_claims u3 u4 u5 u6 u7 P_by u9 u10 u11 u12 u13 u14 u15 u16 u17 u18 ++ t))) : R g mX11_tellerOf 3 0 0 0 [(0, .ref (am 0)), (1, .int p1)] [] (wlM g am (ap 0) M_thrown m1 m2 m3 m4 m5 m6 m7 m8 m9 m10 m11 m12 m13 m14 m15 m16 m17 m18 m19 m20 m21 ++ (wlP g ap u0 u1 P_claims u3 u4 u5 u6 u7 P_by u9 u10 u11 u12 u13 u14 u15 u16 u17 u18 ++ t)) Q := by
  unfold f_M_tellerOf at h
  refine r_aload_n 0 dX11_tellerOf_0 rfl ?_
  refine r_iconst (v := (0 : Int32)) dX11_tellerOf_1 (by decide) ?_
  refine r_putf _ dX11_tellerOf_2 fl_X11_52 lM_0 (Nat.le_of_ble_eq_true rfl) rfl rfl (sM_0 _) ?_
  refine r_aload_n 0 dX11_tellerOf_5 rfl ?_
  refine r_iload_n 1 dX11_tellerOf_6 rfl ?_
  refine c_V (rest := []) 0 0 _ dX11_tellerOf_7 kv_X11_379 (ct_M_isClaim rfl) rfl rfl lM_0 rfl (Nat.le_of_ble_eq_true rfl) (by decide) (by decide) ?_
  refine r_if_eq (tgt := 25) dX11_tellerOf_10 (by decide) (fun hc2192 => ?_) (fun hc2192 => ?_)
  · have h := ip (fun z9 => z9) hc2192 h
    refine r_aload_n 0 dX11_tellerOf_25 rfl ?_
    refine r_iconst (v := (1 : Int32)) dX11_tellerOf_26 (by decide) ?_
    obtain ⟨r2193, hc2194, h⟩ := ob (fun z9 => z9) rfl h
    refine c_V (rest := []) 0 0 _ dX11_tellerOf_27 kv_X11_367 (ct_M_no hc2194) rfl rfl lM_0 rfl (Nat.le_of_ble_eq_true rfl) (by decide) (by decide) ?_
    refine r_iret dX11_tellerOf_30 rfl ?_
    have h := Option.some.inj (show some _ = some o from h)
    subst h
    exact hq
  · have h := iq (fun z9 => z9) hc2192 h
    refine r_aload_n 0 dX11_tellerOf_13 rfl ?_
    refine r_getf (v := .ref (ap 0)) _ dX11_tellerOf_14 fl_X11_20 lM_0 rfl ?_
    refine r_getf (v := .ref (ap 4)) _ dX11_tellerOf_17 fl_X11_82 lP_0 rfl ?_
    refine r_iload_n 1 dX11_tellerOf_20 rfl ?_
    obtain ⟨hb2195, h⟩ := gd (fun z9 => z9) rfl h
    refine r_iald _ dX11_tellerOf_21 lP_4 hb2195 ?_
    refine r_goto (tgt := 30) dX11_tellerOf_22 (by decide) ?_
    refine r_iret dX11_tellerOf_30 rfl ?_
    have h := Option.some.inj (show some _ = some o from h)
    subst h
    exact hq
theorem ct_M_tellerOf {g : GG} {am : Nat → Nat} {ap : Nat → Nat} {t : va_W} {m1 m2 m3 m4 m5 m6 m7 m8 m9 m10 m11 m12 u0 u1 u3 u4 : Int32} {m13 m14 m15 m16 m18 m19 m20 m21 u7 u9 u10 u11 u12 u13 u14 u15 u16 u17 u18 : Nat → Int32} {m17 u5 u6 : Nat → Int64} {M_thrown : Int32} {P_claims : Int32} {P_by : Nat → Int32} {p1 : Int32} {o : Int32 × Int32} (h : f_M_tellerOf M_thrown P_claims P_by p1 = some o) : Ct g mX11_tellerOf 3 0 0 [.ref (am 0), .int p1] (wlM g am (ap 0) M_thrown m1 m2 m3 m4 m5 m6 m7 m8 m9 m10 m11 m12 m13 m14 m15 m16 m17 m18 m19 m20 m21 ++ (wlP g ap u0 u1 P_claims u3 u4 u5 u6 u7 P_by u9 u10 u11 u12 u13 u14 u15 u16 u17 u18 ++ t)) (Dv (some (.int o.1)) (wlM g am (ap 0) o.2 m1 m2 m3 m4 m5 m6 m7 m8 m9 m10 m11 m12 m13 m14 m15 m16 m17 m18 m19 m20 m21 ++ (wlP g ap u0 u1 P_claims u3 u4 u5 u6 u7 P_by u9 u10 u11 u12 u13 u14 u15 u16 u17 u18 ++ t))) := Ct.ofR (by decide +kernel) rfl (Nat.le_of_ble_eq_true rfl) (rt_M_tellerOf h ⟨rfl, rfl⟩)
set_option maxRecDepth 20000 in
set_option maxHeartbeats 4000000 in
theorem rt_M_kindOf1 {g : GG} {am : Nat → Nat} {ap : Nat → Nat} {t : va_W} {m1 m2 m3 m4 m5 m6 m7 m8 m9 m10 m11 m12 u0 u1 u3 u4 : Int32} {m13 m14 m15 m16 m18 m19 m20 m21 u8 u9 u10 u11 u12 u13 u14 u15 u16 u17 u18 : Nat → Int32} {m17 u5 u6 : Nat → Int64} {M_thrown : Int32} {P_claims : Int32} {P_kind : Nat → Int32} {p1 : Int32} {o : Int32 × Int32} {Q : Rs → va_W → Prop} (h : f_M_kindOf1 M_thrown P_claims P_kind p1 = some o) (hq : Q (.inl (some (.int o.1))) (wlM g am (ap 0) o.2 m1 m2 m3 m4 m5 m6 m7 m8 m9 m10 m11 m12 m13 m14 m15 m16 m17 m18 m19 m20 m21 ++ (wlP g ap u0 u1 P_claims u3 u4 u5 u6 P_kind u8 u9 u10 u11 u12 u13 u14 u15 u16 u17 u18 ++ t))) : R g mX11_kindOf_ 3 0 0 0 [(0, .ref (am 0)), (1, .int p1)] [] (wlM g am (ap 0) M_thrown m1 m2 m3 m4 m5 m6 m7 m8 m9 m10 m11 m12 m13 m14 m15 m16 m17 m18 m19 m20 m21 ++ (wlP g ap u0 u1 P_claims u3 u4 u5 u6 P_kind u8 u9 u10 u11 u12 u13 u14 u15 u16 u17 u18 ++ t)) Q := by
  unfold f_M_kindOf1 at h
  refine r_aload_n 0 dX11_kindOf__0 rfl ?_
  refine r_iconst (v := (0 : Int32)) dX11_kindOf__1 (by decide) ?_
  refine r_putf _ dX11_kindOf__2 fl_X11_52 lM_0 (Nat.le_of_ble_eq_true rfl) rfl rfl (sM_0 _) ?_
  refine r_aload_n 0 dX11_kindOf__5 rfl ?_
  refine r_iload_n 1 dX11_kindOf__6 rfl ?_
  refine c_V (rest := []) 0 0 _ dX11_kindOf__7 kv_X11_379 (ct_M_isClaim rfl) rfl rfl lM_0 rfl (Nat.le_of_ble_eq_true rfl) (by decide) (by decide) ?_
  refine r_if_eq (tgt := 25) dX11_kindOf__10 (by decide) (fun hc2196 => ?_) (fun hc2196 => ?_)
  · have h := ip (fun z9 => z9) hc2196 h
    refine r_aload_n 0 dX11_kindOf__25 rfl ?_
    refine r_iconst (v := (1 : Int32)) dX11_kindOf__26 (by decide) ?_
    obtain ⟨r2197, hc2198, h⟩ := ob (fun z9 => z9) rfl h
    refine c_V (rest := []) 0 0 _ dX11_kindOf__27 kv_X11_367 (ct_M_no hc2198) rfl rfl lM_0 rfl (Nat.le_of_ble_eq_true rfl) (by decide) (by decide) ?_
    refine r_iret dX11_kindOf__30 rfl ?_
    have h := Option.some.inj (show some _ = some o from h)
    subst h
    exact hq
  · have h := iq (fun z9 => z9) hc2196 h
    refine r_aload_n 0 dX11_kindOf__13 rfl ?_
    refine r_getf (v := .ref (ap 0)) _ dX11_kindOf__14 fl_X11_20 lM_0 rfl ?_
    refine r_getf (v := .ref (ap 3)) _ dX11_kindOf__17 fl_X11_68 lP_0 rfl ?_
    refine r_iload_n 1 dX11_kindOf__20 rfl ?_
    obtain ⟨hb2199, h⟩ := gd (fun z9 => z9) rfl h
    refine r_iald _ dX11_kindOf__21 lP_3 hb2199 ?_
    refine r_goto (tgt := 30) dX11_kindOf__22 (by decide) ?_
    refine r_iret dX11_kindOf__30 rfl ?_
    have h := Option.some.inj (show some _ = some o from h)
    subst h
    exact hq
theorem ct_M_kindOf1 {g : GG} {am : Nat → Nat} {ap : Nat → Nat} {t : va_W} {m1 m2 m3 m4 m5 m6 m7 m8 m9 m10 m11 m12 u0 u1 u3 u4 : Int32} {m13 m14 m15 m16 m18 m19 m20 m21 u8 u9 u10 u11 u12 u13 u14 u15 u16 u17 u18 : Nat → Int32} {m17 u5 u6 : Nat → Int64} {M_thrown : Int32} {P_claims : Int32} {P_kind : Nat → Int32} {p1 : Int32} {o : Int32 × Int32} (h : f_M_kindOf1 M_thrown P_claims P_kind p1 = some o) : Ct g mX11_kindOf_ 3 0 0 [.ref (am 0), .int p1] (wlM g am (ap 0) M_thrown m1 m2 m3 m4 m5 m6 m7 m8 m9 m10 m11 m12 m13 m14 m15 m16 m17 m18 m19 m20 m21 ++ (wlP g ap u0 u1 P_claims u3 u4 u5 u6 P_kind u8 u9 u10 u11 u12 u13 u14 u15 u16 u17 u18 ++ t)) (Dv (some (.int o.1)) (wlM g am (ap 0) o.2 m1 m2 m3 m4 m5 m6 m7 m8 m9 m10 m11 m12 m13 m14 m15 m16 m17 m18 m19 m20 m21 ++ (wlP g ap u0 u1 P_claims u3 u4 u5 u6 P_kind u8 u9 u10 u11 u12 u13 u14 u15 u16 u17 u18 ++ t))) := Ct.ofR (by decide +kernel) rfl (Nat.le_of_ble_eq_true rfl) (rt_M_kindOf1 h ⟨rfl, rfl⟩)
set_option maxRecDepth 20000 in
set_option maxHeartbeats 4000000 in
theorem rt_M_eventOf {g : GG} {am : Nat → Nat} {ap : Nat → Nat} {t : va_W} {m1 m2 m3 m4 m5 m6 m7 m8 m9 m10 m11 m12 u0 u1 u3 u4 : Int32} {m13 m14 m15 m16 m18 m19 m20 m21 u7 u8 u10 u11 u12 u13 u14 u15 u16 u17 u18 : Nat → Int32} {m17 u5 u6 : Nat → Int64} {M_thrown : Int32} {P_claims : Int32} {P_of : Nat → Int32} {p1 : Int32} {o : Int32 × Int32} {Q : Rs → va_W → Prop} (h : f_M_eventOf M_thrown P_claims P_of p1 = some o) (hq : Q (.inl (some (.int o.1))) (wlM g am (ap 0) o.2 m1 m2 m3 m4 m5 m6 m7 m8 m9 m10 m11 m12 m13 m14 m15 m16 m17 m18 m19 m20 m21 ++ (wlP g ap u0 u1 P_claims u3 u4 u5 u6 u7 u8 P_of u10 u11 u12 u13 u14 u15 u16 u17 u18 ++ t))) : R g mX11_eventOf 3 0 0 0 [(0, .ref (am 0)), (1, .int p1)] [] (wlM g am (ap 0) M_thrown m1 m2 m3 m4 m5 m6 m7 m8 m9 m10 m11 m12 m13 m14 m15 m16 m17 m18 m19 m20 m21 ++ (wlP g ap u0 u1 P_claims u3 u4 u5 u6 u7 u8 P_of u10 u11 u12 u13 u14 u15 u16 u17 u18 ++ t)) Q := by
  unfold f_M_eventOf at h
  refine r_aload_n 0 dX11_eventOf_0 rfl ?_
  refine r_iconst (v := (0 : Int32)) dX11_eventOf_1 (by decide) ?_
  refine r_putf _ dX11_eventOf_2 fl_X11_52 lM_0 (Nat.le_of_ble_eq_true rfl) rfl rfl (sM_0 _) ?_
  refine r_aload_n 0 dX11_eventOf_5 rfl ?_
  refine r_iload_n 1 dX11_eventOf_6 rfl ?_
  refine c_V (rest := []) 0 0 _ dX11_eventOf_7 kv_X11_379 (ct_M_isClaim rfl) rfl rfl lM_0 rfl (Nat.le_of_ble_eq_true rfl) (by decide) (by decide) ?_
  refine r_if_eq (tgt := 25) dX11_eventOf_10 (by decide) (fun hc2200 => ?_) (fun hc2200 => ?_)
  · have h := ip (fun z9 => z9) hc2200 h
    refine r_aload_n 0 dX11_eventOf_25 rfl ?_
    refine r_iconst (v := (1 : Int32)) dX11_eventOf_26 (by decide) ?_
    obtain ⟨r2201, hc2202, h⟩ := ob (fun z9 => z9) rfl h
    refine c_V (rest := []) 0 0 _ dX11_eventOf_27 kv_X11_367 (ct_M_no hc2202) rfl rfl lM_0 rfl (Nat.le_of_ble_eq_true rfl) (by decide) (by decide) ?_
    refine r_iret dX11_eventOf_30 rfl ?_
    have h := Option.some.inj (show some _ = some o from h)
    subst h
    exact hq
  · have h := iq (fun z9 => z9) hc2200 h
    refine r_aload_n 0 dX11_eventOf_13 rfl ?_
    refine r_getf (v := .ref (ap 0)) _ dX11_eventOf_14 fl_X11_20 lM_0 rfl ?_
    refine r_getf (v := .ref (ap 5)) _ dX11_eventOf_17 fl_X11_73 lP_0 rfl ?_
    refine r_iload_n 1 dX11_eventOf_20 rfl ?_
    obtain ⟨hb2203, h⟩ := gd (fun z9 => z9) rfl h
    refine r_iald _ dX11_eventOf_21 lP_5 hb2203 ?_
    refine r_goto (tgt := 30) dX11_eventOf_22 (by decide) ?_
    refine r_iret dX11_eventOf_30 rfl ?_
    have h := Option.some.inj (show some _ = some o from h)
    subst h
    exact hq
theorem ct_M_eventOf {g : GG} {am : Nat → Nat} {ap : Nat → Nat} {t : va_W} {m1 m2 m3 m4 m5 m6 m7 m8 m9 m10 m11 m12 u0 u1 u3 u4 : Int32} {m13 m14 m15 m16 m18 m19 m20 m21 u7 u8 u10 u11 u12 u13 u14 u15 u16 u17 u18 : Nat → Int32} {m17 u5 u6 : Nat → Int64} {M_thrown : Int32} {P_claims : Int32} {P_of : Nat → Int32} {p1 : Int32} {o : Int32 × Int32} (h : f_M_eventOf M_thrown P_claims P_of p1 = some o) : Ct g mX11_eventOf 3 0 0 [.ref (am 0), .int p1] (wlM g am (ap 0) M_thrown m1 m2 m3 m4 m5 m6 m7 m8 m9 m10 m11 m12 m13 m14 m15 m16 m17 m18 m19 m20 m21 ++ (wlP g ap u0 u1 P_claims u3 u4 u5 u6 u7 u8 P_of u10 u11 u12 u13 u14 u15 u16 u17 u18 ++ t)) (Dv (some (.int o.1)) (wlM g am (ap 0) o.2 m1 m2 m3 m4 m5 m6 m7 m8 m9 m10 m11 m12 m13 m14 m15 m16 m17 m18 m19 m20 m21 ++ (wlP g ap u0 u1 P_claims u3 u4 u5 u6 u7 u8 P_of u10 u11 u12 u13 u14 u15 u16 u17 u18 ++ t))) := Ct.ofR (by decide +kernel) rfl (Nat.le_of_ble_eq_true rfl) (rt_M_eventOf h ⟨rfl, rfl⟩)
set_option maxRecDepth 20000 in
set_option maxHeartbeats 4000000 in
theorem rt_M_secondEventOf {g : GG} {am : Nat → Nat} {ap : Nat → Nat} {t : va_W} {m1 m2 m3 m4 m5 m6 m7 m8 m9 m10 m11 m12 u0 u1 u3 u4 : Int32} {m13 m14 m15 m16 m18 m19 m20 m21 u8 u9 u11 u12 u13 u14 u15 u16 u17 u18 : Nat → Int32} {m17 u5 u6 : Nat → Int64} {M_thrown : Int32} {P_claims : Int32} {P_kind : Nat → Int32} {P_other : Nat → Int32} {p1 : Int32} {o : Int32 × Int32} {Q : Rs → va_W → Prop} (h : f_M_secondEventOf M_thrown P_claims P_kind P_other p1 = some o) (hq : Q (.inl (some (.int o.1))) (wlM g am (ap 0) o.2 m1 m2 m3 m4 m5 m6 m7 m8 m9 m10 m11 m12 m13 m14 m15 m16 m17 m18 m19 m20 m21 ++ (wlP g ap u0 u1 P_claims u3 u4 u5 u6 P_kind u8 u9 P_other u11 u12 u13 u14 u15 u16 u17 u18 ++ t))) : R g mX11_secondEventOf 3 0 0 0 [(0, .ref (am 0)), (1, .int p1)] [] (wlM g am (ap 0) M_thrown m1 m2 m3 m4 m5 m6 m7 m8 m9 m10 m11 m12 m13 m14 m15 m16 m17 m18 m19 m20 m21 ++ (wlP g ap u0 u1 P_claims u3 u4 u5 u6 P_kind u8 u9 P_other u11 u12 u13 u14 u15 u16 u17 u18 ++ t)) Q := by
  unfold f_M_secondEventOf at h
  refine r_aload_n 0 dX11_secondEventOf_0 rfl ?_
  refine r_iconst (v := (0 : Int32)) dX11_secondEventOf_1 (by decide) ?_
  refine r_putf _ dX11_secondEventOf_2 fl_X11_52 lM_0 (Nat.le_of_ble_eq_true rfl) rfl rfl (sM_0 _) ?_
  refine r_aload_n 0 dX11_secondEventOf_5 rfl ?_
  refine r_iload_n 1 dX11_secondEventOf_6 rfl ?_
  refine c_V (rest := []) 0 0 _ dX11_secondEventOf_7 kv_X11_379 (ct_M_isClaim rfl) rfl rfl lM_0 rfl (Nat.le_of_ble_eq_true rfl) (by decide) (by decide) ?_
  refine r_if_ne (tgt := 19) dX11_secondEventOf_10 (by decide) (fun hc2204 => ?_) (fun hc2204 => ?_)
  · have h := iq (fun z9 => z9) hc2204 h
    refine r_aload_n 0 dX11_secondEventOf_19 rfl ?_
    refine r_getf (v := .ref (ap 0)) _ dX11_secondEventOf_20 fl_X11_20 lM_0 rfl ?_
    refine r_getf (v := .ref (ap 3)) _ dX11_secondEventOf_23 fl_X11_68 lP_0 rfl ?_
    refine r_iload_n 1 dX11_secondEventOf_26 rfl ?_
    obtain ⟨hb2205, h⟩ := gd (fun z9 => z9) rfl h
    refine r_iald _ dX11_secondEventOf_27 lP_3 hb2205 ?_
    refine r_if_ne (tgt := 39) dX11_secondEventOf_28 (by decide) (fun hc2206 => ?_) (fun hc2206 => ?_)
    · have h := iq (fun z9 => z9) hc2206 h
      refine r_aload_n 0 dX11_secondEventOf_39 rfl ?_
      refine r_getf (v := .ref (ap 0)) _ dX11_secondEventOf_40 fl_X11_20 lM_0 rfl ?_
      refine r_getf (v := .ref (ap 6)) _ dX11_secondEventOf_43 fl_X11_79 lP_0 rfl ?_
      refine r_iload_n 1 dX11_secondEventOf_46 rfl ?_
      obtain ⟨hb2207, h⟩ := gd (fun z9 => z9) rfl h
      refine r_iald _ dX11_secondEventOf_47 lP_6 hb2207 ?_
      refine r_iret dX11_secondEventOf_48 rfl ?_
      have h := Option.some.inj (show some _ = some o from h)
      subst h
      exact hq
    · have h := ip (fun z9 => z9) hc2206 h
      refine r_aload_n 0 dX11_secondEventOf_31 rfl ?_
      refine r_iconst (v := (2 : Int32)) dX11_secondEventOf_32 (by decide) ?_
      obtain ⟨r2208, hc2209, h⟩ := ob (fun z9 => z9) rfl h
      refine c_V (rest := []) 0 0 _ dX11_secondEventOf_33 kv_X11_367 (ct_M_no hc2209) rfl rfl lM_0 rfl (Nat.le_of_ble_eq_true rfl) (by decide) (by decide) ?_
      refine r_goto (tgt := 48) dX11_secondEventOf_36 (by decide) ?_
      refine r_iret dX11_secondEventOf_48 rfl ?_
      have h := Option.some.inj (show some _ = some o from h)
      subst h
      exact hq
  · have h := ip (fun z9 => z9) hc2204 h
    refine r_aload_n 0 dX11_secondEventOf_13 rfl ?_
    refine r_iconst (v := (1 : Int32)) dX11_secondEventOf_14 (by decide) ?_
    obtain ⟨r2210, hc2211, h⟩ := ob (fun z9 => z9) rfl h
    refine c_V (rest := []) 0 0 _ dX11_secondEventOf_15 kv_X11_367 (ct_M_no hc2211) rfl rfl lM_0 rfl (Nat.le_of_ble_eq_true rfl) (by decide) (by decide) ?_
    refine r_iret dX11_secondEventOf_18 rfl ?_
    have h := Option.some.inj (show some _ = some o from h)
    subst h
    exact hq
theorem ct_M_secondEventOf {g : GG} {am : Nat → Nat} {ap : Nat → Nat} {t : va_W} {m1 m2 m3 m4 m5 m6 m7 m8 m9 m10 m11 m12 u0 u1 u3 u4 : Int32} {m13 m14 m15 m16 m18 m19 m20 m21 u8 u9 u11 u12 u13 u14 u15 u16 u17 u18 : Nat → Int32} {m17 u5 u6 : Nat → Int64} {M_thrown : Int32} {P_claims : Int32} {P_kind : Nat → Int32} {P_other : Nat → Int32} {p1 : Int32} {o : Int32 × Int32} (h : f_M_secondEventOf M_thrown P_claims P_kind P_other p1 = some o) : Ct g mX11_secondEventOf 3 0 0 [.ref (am 0), .int p1] (wlM g am (ap 0) M_thrown m1 m2 m3 m4 m5 m6 m7 m8 m9 m10 m11 m12 m13 m14 m15 m16 m17 m18 m19 m20 m21 ++ (wlP g ap u0 u1 P_claims u3 u4 u5 u6 P_kind u8 u9 P_other u11 u12 u13 u14 u15 u16 u17 u18 ++ t)) (Dv (some (.int o.1)) (wlM g am (ap 0) o.2 m1 m2 m3 m4 m5 m6 m7 m8 m9 m10 m11 m12 m13 m14 m15 m16 m17 m18 m19 m20 m21 ++ (wlP g ap u0 u1 P_claims u3 u4 u5 u6 P_kind u8 u9 P_other u11 u12 u13 u14 u15 u16 u17 u18 ++ t))) := Ct.ofR (by decide +kernel) rfl (Nat.le_of_ble_eq_true rfl) (rt_M_secondEventOf h ⟨rfl, rfl⟩)
